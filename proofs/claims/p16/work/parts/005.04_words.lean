noncomputable def wtGA_918 : List Cond := wsX00 ++ wsX10 ++ wsX20 ++ wsX30 ++ wsX40 ++ wsX50 ++ wsX60 ++ wsX70 ++ wsX80 ++ wsX90 ++ wsX100 ++ wsX110
noncomputable def wtGA_917 : List Cond := Cond.code yX11_runs cX11_runs 3 (some .int) :: wtGA_918
noncomputable def wtGA_916 : List Cond := Cond.selects RX11 yX11_runs yX11_runs :: wtGA_917
noncomputable def wtGA_915 : List Cond := Cond.instanceMethod yX11_runs :: wtGA_916
noncomputable def wtGA_914 : List Cond := Cond.methodLink RX11 400 yX0_setMoon :: wtGA_915
noncomputable def wtGA_913 : List Cond := Cond.constant RX11 399 (99999) :: wtGA_914
noncomputable def wtGA_912 : List Cond := Cond.code yX11_moon cX11_moon 3 (some .int) :: wtGA_913
noncomputable def wtGA_911 : List Cond := Cond.selects RX11 yX11_moon yX11_moon :: wtGA_912
noncomputable def wtGA_910 : List Cond := Cond.instanceMethod yX11_moon :: wtGA_911
noncomputable def wtGA_909 : List Cond := Cond.code yX11_trusts cX11_trusts 4 (some .int) :: wtGA_910
noncomputable def wtGA_908 : List Cond := Cond.selects RX11 yX11_trusts yX11_trusts :: wtGA_909
noncomputable def wtGA_907 : List Cond := Cond.instanceMethod yX11_trusts :: wtGA_908
noncomputable def wtGA_906 : List Cond := Cond.methodLink RX0 107 yX0_standingOf :: wtGA_907
noncomputable def wtGA_905 : List Cond := Cond.code yX0_standing cX0_standing 3 (some .int) :: wtGA_906
noncomputable def wtGA_904 : List Cond := Cond.selects RX0 yX0_standing yX0_standing :: wtGA_905
noncomputable def wtGA_903 : List Cond := Cond.instanceMethod yX0_standing :: wtGA_904
noncomputable def wtGA_902 : List Cond := Cond.methodLink RX11 392 yX0_standing :: wtGA_903
noncomputable def wtGA_901 : List Cond := Cond.code yX11_strikes cX11_strikes 2 (some .int) :: wtGA_902
noncomputable def wtGA_900 : List Cond := Cond.selects RX11 yX11_strikes yX11_strikes :: wtGA_901
noncomputable def wtGA_899 : List Cond := Cond.instanceMethod yX11_strikes :: wtGA_900
noncomputable def wtGA_898 : List Cond := Cond.methodLink RX11 388 yX0_addReport :: wtGA_899
noncomputable def wtGA_897 : List Cond := Cond.code yX11_reports cX11_reports 7 (some .int) :: wtGA_898
noncomputable def wtGA_896 : List Cond := Cond.selects RX11 yX11_reports yX11_reports :: wtGA_897
noncomputable def wtGA_895 : List Cond := Cond.instanceMethod yX11_reports :: wtGA_896
noncomputable def wtGA_894 : List Cond := Cond.code yX11_octet cX11_octet 2 (some .int) :: wtGA_895
noncomputable def wtGA_893 : List Cond := Cond.selects RX11 yX11_octet yX11_octet :: wtGA_894
noncomputable def wtGA_892 : List Cond := Cond.instanceMethod yX11_octet :: wtGA_893
noncomputable def wtGA_891 : List Cond := Cond.code yX11_putOut cX11_putOut 2 none :: wtGA_892
noncomputable def wtGA_890 : List Cond := Cond.selects RX11 yX11_putOut yX11_putOut :: wtGA_891
noncomputable def wtGA_889 : List Cond := Cond.instanceMethod yX11_putOut :: wtGA_890
noncomputable def wtGA_888 : List Cond := Cond.methodLink RX11 371 yX11_putOut :: wtGA_889
noncomputable def wtGA_887 : List Cond := Cond.code yX11_tell cX11_tell 5 (some .int) :: wtGA_888
noncomputable def wtGA_886 : List Cond := Cond.selects RX11 yX11_tell yX11_tell :: wtGA_887
noncomputable def wtGA_885 : List Cond := Cond.instanceMethod yX11_tell :: wtGA_886
noncomputable def wtGA_884 : List Cond := Cond.methodLink RX11 421 yX3_rightFor :: wtGA_885
noncomputable def wtGA_883 : List Cond := Cond.code yX11_backReport cX11_backReport 4 none :: wtGA_884
noncomputable def wtGA_882 : List Cond := Cond.selects RX11 yX11_backReport yX11_backReport :: wtGA_883
noncomputable def wtGA_881 : List Cond := Cond.instanceMethod yX11_backReport :: wtGA_882
noncomputable def wtGA_880 : List Cond := Cond.methodLink RX11 351 yX11_backReport :: wtGA_881
noncomputable def wtGA_879 : List Cond := Cond.code yX11_backed cX11_backed 5 (some .int) :: wtGA_880
noncomputable def wtGA_878 : List Cond := Cond.selects RX11 yX11_backed yX11_backed :: wtGA_879
noncomputable def wtGA_877 : List Cond := Cond.instanceMethod yX11_backed :: wtGA_878
noncomputable def wtGA_876 : List Cond := Cond.code yX8_fullBits cX8_fullBits 5 (some .int) :: wtGA_877
noncomputable def wtGA_875 : List Cond := Cond.selects RX8 yX8_fullBits yX8_fullBits :: wtGA_876
noncomputable def wtGA_874 : List Cond := Cond.instanceMethod yX8_fullBits :: wtGA_875
noncomputable def wtGA_873 : List Cond := Cond.methodLink RX11 348 yX8_fullBits :: wtGA_874
noncomputable def wtGA_872 : List Cond := Cond.code Lib.Math.abs.name Lib.Math.abs.code 1 (some .int) :: wtGA_873
noncomputable def wtGA_871 : List Cond := Cond.static Lib.Math.abs.name :: wtGA_872
noncomputable def wtGA_870 : List Cond := Cond.methodLink RX11 329 Lib.Math.abs.name :: wtGA_871
noncomputable def wtGA_869 : List Cond := Cond.code yX11_nearest cX11_nearest 6 (some .int) :: wtGA_870
noncomputable def wtGA_868 : List Cond := Cond.selects RX11 yX11_nearest yX11_nearest :: wtGA_869
noncomputable def wtGA_867 : List Cond := Cond.instanceMethod yX11_nearest :: wtGA_868
noncomputable def wtGA_866 : List Cond := Cond.code yX11_both cX11_both 3 (some .int) :: wtGA_867
noncomputable def wtGA_865 : List Cond := Cond.selects RX11 yX11_both yX11_both :: wtGA_866
noncomputable def wtGA_864 : List Cond := Cond.instanceMethod yX11_both :: wtGA_865
noncomputable def wtGA_863 : List Cond := Cond.code yX0_knownBits cX0_knownBits 4 (some .int) :: wtGA_864
noncomputable def wtGA_862 : List Cond := Cond.selects RX0 yX0_knownBits yX0_knownBits :: wtGA_863
noncomputable def wtGA_861 : List Cond := Cond.instanceMethod yX0_knownBits :: wtGA_862
noncomputable def wtGA_860 : List Cond := Cond.methodLink RX11 247 yX0_knownBits :: wtGA_861
noncomputable def wtGA_859 : List Cond := Cond.code yX11_later cX11_later 2 (some .int) :: wtGA_860
noncomputable def wtGA_858 : List Cond := Cond.selects RX11 yX11_later yX11_later :: wtGA_859
noncomputable def wtGA_857 : List Cond := Cond.instanceMethod yX11_later :: wtGA_858
noncomputable def wtGA_856 : List Cond := Cond.code yX9_onWeekday cX9_onWeekday 6 (some .int) :: wtGA_857
noncomputable def wtGA_855 : List Cond := Cond.selects RX9 yX9_onWeekday yX9_onWeekday :: wtGA_856
noncomputable def wtGA_854 : List Cond := Cond.instanceMethod yX9_onWeekday :: wtGA_855
noncomputable def wtGA_853 : List Cond := Cond.methodLink RX11 323 yX9_onWeekday :: wtGA_854
noncomputable def wtGA_852 : List Cond := Cond.code yX11_weekday cX11_weekday 5 (some .int) :: wtGA_853
noncomputable def wtGA_851 : List Cond := Cond.selects RX11 yX11_weekday yX11_weekday :: wtGA_852
noncomputable def wtGA_850 : List Cond := Cond.instanceMethod yX11_weekday :: wtGA_851
noncomputable def wtGA_849 : List Cond := Cond.code yX11_days cX11_days 5 (some .int) :: wtGA_850
noncomputable def wtGA_848 : List Cond := Cond.selects RX11 yX11_days yX11_days :: wtGA_849
noncomputable def wtGA_847 : List Cond := Cond.instanceMethod yX11_days :: wtGA_848
noncomputable def wtGA_846 : List Cond := Cond.code yX11_trusted cX11_trusted 5 (some .int) :: wtGA_847
noncomputable def wtGA_845 : List Cond := Cond.selects RX11 yX11_trusted yX11_trusted :: wtGA_846
noncomputable def wtGA_844 : List Cond := Cond.instanceMethod yX11_trusted :: wtGA_845
noncomputable def wtGA_843 : List Cond := Cond.methodLink RX9 98 Lib.Math.max.name :: wtGA_844
noncomputable def wtGA_842 : List Cond := Cond.code yX9_mostLeft cX9_mostLeft 4 (some .int) :: wtGA_843
noncomputable def wtGA_841 : List Cond := Cond.selects RX9 yX9_mostLeft yX9_mostLeft :: wtGA_842
noncomputable def wtGA_840 : List Cond := Cond.instanceMethod yX9_mostLeft :: wtGA_841
noncomputable def wtGA_839 : List Cond := Cond.methodLink RX11 311 yX9_mostLeft :: wtGA_840
noncomputable def wtGA_838 : List Cond := Cond.code yX11_telling cX11_telling 5 (some .int) :: wtGA_839
noncomputable def wtGA_837 : List Cond := Cond.selects RX11 yX11_telling yX11_telling :: wtGA_838
noncomputable def wtGA_836 : List Cond := Cond.instanceMethod yX11_telling :: wtGA_837
noncomputable def wtGA_835 : List Cond := Cond.code yX11_hang cX11_hang 3 (some .int) :: wtGA_836
noncomputable def wtGA_834 : List Cond := Cond.selects RX11 yX11_hang yX11_hang :: wtGA_835
noncomputable def wtGA_833 : List Cond := Cond.instanceMethod yX11_hang :: wtGA_834
noncomputable def wtGA_832 : List Cond := Cond.code yX11_unlikeBegins cX11_unlikeBegins 5 (some .int) :: wtGA_833
noncomputable def wtGA_831 : List Cond := Cond.selects RX11 yX11_unlikeBegins yX11_unlikeBegins :: wtGA_832
noncomputable def wtGA_830 : List Cond := Cond.instanceMethod yX11_unlikeBegins :: wtGA_831
noncomputable def wtGA_829 : List Cond := Cond.methodLink RX11 261 yX11_unlikeBegins :: wtGA_830
noncomputable def wtGA_828 : List Cond := Cond.methodLink RX11 269 arraycopyName :: wtGA_829
noncomputable def wtGA_827 : List Cond := Cond.code yX11_apart cX11_apart 4 (some .int) :: wtGA_828
noncomputable def wtGA_826 : List Cond := Cond.selects RX11 yX11_apart yX11_apart :: wtGA_827
noncomputable def wtGA_825 : List Cond := Cond.instanceMethod yX11_apart :: wtGA_826
noncomputable def wtGA_824 : List Cond := Cond.code yX0_strikeAllBut cX0_strikeAllBut 3 none :: wtGA_825
noncomputable def wtGA_823 : List Cond := Cond.selects RX0 yX0_strikeAllBut yX0_strikeAllBut :: wtGA_824
noncomputable def wtGA_822 : List Cond := Cond.instanceMethod yX0_strikeAllBut :: wtGA_823
noncomputable def wtGA_821 : List Cond := Cond.methodLink RX11 418 yX0_strikeAllBut :: wtGA_822
noncomputable def wtGA_820 : List Cond := Cond.methodLink RX0 92 yX0_addReport :: wtGA_821
noncomputable def wtGA_819 : List Cond := Cond.methodLink RX0 73 yX0_addPlace :: wtGA_820
noncomputable def wtGA_818 : List Cond := Cond.methodLink RX0 64 yX0_wipe :: wtGA_819
noncomputable def wtGA_817 : List Cond := Cond.code yX0_copyFrom cX0_copyFrom 4 none :: wtGA_818
noncomputable def wtGA_816 : List Cond := Cond.selects RX0 yX0_copyFrom yX0_copyFrom :: wtGA_817
noncomputable def wtGA_815 : List Cond := Cond.instanceMethod yX0_copyFrom :: wtGA_816
noncomputable def wtGA_814 : List Cond := Cond.methodLink RX11 250 yX0_copyFrom :: wtGA_815
noncomputable def wtGA_813 : List Cond := Cond.code yX11_judgeAlone cX11_judgeAlone 3 none :: wtGA_814
noncomputable def wtGA_812 : List Cond := Cond.selects RX11 yX11_judgeAlone yX11_judgeAlone :: wtGA_813
noncomputable def wtGA_811 : List Cond := Cond.instanceMethod yX11_judgeAlone :: wtGA_812
noncomputable def wtGA_810 : List Cond := Cond.methodLink RX11 265 yX11_judgeAlone :: wtGA_811
noncomputable def wtGA_809 : List Cond := Cond.code yX11_own cX11_own 4 (some .int) :: wtGA_810
noncomputable def wtGA_808 : List Cond := Cond.selects RX11 yX11_own yX11_own :: wtGA_809
noncomputable def wtGA_807 : List Cond := Cond.instanceMethod yX11_own :: wtGA_808
noncomputable def wtGA_806 : List Cond := Cond.code yX8_least cX8_least 1 (some .int) :: wtGA_807
noncomputable def wtGA_805 : List Cond := Cond.selects RX8 yX8_least yX8_least :: wtGA_806
noncomputable def wtGA_804 : List Cond := Cond.instanceMethod yX8_least :: wtGA_805
noncomputable def wtGA_803 : List Cond := Cond.methodLink RX11 345 yX8_least :: wtGA_804
noncomputable def wtGA_802 : List Cond := Cond.code yX8_withLean cX8_withLean 4 (some .int) :: wtGA_803
noncomputable def wtGA_801 : List Cond := Cond.selects RX8 yX8_withLean yX8_withLean :: wtGA_802
noncomputable def wtGA_800 : List Cond := Cond.instanceMethod yX8_withLean :: wtGA_801
noncomputable def wtGA_799 : List Cond := Cond.methodLink RX8 63 yX8_withLean :: wtGA_800
noncomputable def wtGA_798 : List Cond := Cond.code yX8_withFull cX8_withFull 4 (some .int) :: wtGA_799
noncomputable def wtGA_797 : List Cond := Cond.selects RX8 yX8_withFull yX8_withFull :: wtGA_798
noncomputable def wtGA_796 : List Cond := Cond.instanceMethod yX8_withFull :: wtGA_797
noncomputable def wtGA_795 : List Cond := Cond.methodLink RX8 60 yX8_withFull :: wtGA_796
noncomputable def wtGA_794 : List Cond := Cond.methodLink RX8 66 Lib.Math.min.name :: wtGA_795
noncomputable def wtGA_793 : List Cond := Cond.code yX8_fillCell cX8_fillCell 5 none :: wtGA_794
noncomputable def wtGA_792 : List Cond := Cond.selects RX8 yX8_fillCell yX8_fillCell :: wtGA_793
noncomputable def wtGA_791 : List Cond := Cond.instanceMethod yX8_fillCell :: wtGA_792
noncomputable def wtGA_790 : List Cond := Cond.methodLink RX8 48 yX8_fillCell :: wtGA_791
noncomputable def wtGA_789 : List Cond := Cond.methodLink RX8 44 yX3_allows :: wtGA_790
noncomputable def wtGA_788 : List Cond := Cond.constant RX8 43 (1000000) :: wtGA_789
noncomputable def wtGA_787 : List Cond := Cond.fieldLink RX8 42 "SightedMonths$Search" "lean" "I" :: wtGA_788
noncomputable def wtGA_786 : List Cond := Cond.fieldLink RX8 39 "SightedMonths$Frame" "lean" "I" :: wtGA_787
noncomputable def wtGA_785 : List Cond := Cond.fieldLink RX8 38 "SightedMonths$Search" "full" "I" :: wtGA_786
noncomputable def wtGA_784 : List Cond := Cond.fieldLink RX8 35 "SightedMonths$Frame" "full" "I" :: wtGA_785
noncomputable def wtGA_783 : List Cond := Cond.fieldLink RX8 34 "SightedMonths$Search" "months" "I" :: wtGA_784
noncomputable def wtGA_782 : List Cond := Cond.fieldLink RX8 28 "SightedMonths$Frame" "months" "I" :: wtGA_783
noncomputable def wtGA_781 : List Cond := Cond.code yX8_run cX8_run 4 none :: wtGA_782
noncomputable def wtGA_780 : List Cond := Cond.selects RX8 yX8_run yX8_run :: wtGA_781
noncomputable def wtGA_779 : List Cond := Cond.instanceMethod yX8_run :: wtGA_780
noncomputable def wtGA_778 : List Cond := Cond.methodLink RX11 341 yX8_run :: wtGA_779
noncomputable def wtGA_777 : List Cond := Cond.code yX8_charge cX8_charge 4 none :: wtGA_778
noncomputable def wtGA_776 : List Cond := Cond.selects RX8 yX8_charge yX8_charge :: wtGA_777
noncomputable def wtGA_775 : List Cond := Cond.instanceMethod yX8_charge :: wtGA_776
noncomputable def wtGA_774 : List Cond := Cond.methodLink RX11 334 yX8_charge :: wtGA_775
noncomputable def wtGA_773 : List Cond := Cond.methodLink RX8 18 yJ7_fill_53178 :: wtGA_774
noncomputable def wtGA_772 : List Cond := Cond.code yX8_wipe cX8_wipe 1 none :: wtGA_773
noncomputable def wtGA_771 : List Cond := Cond.selects RX8 yX8_wipe yX8_wipe :: wtGA_772
noncomputable def wtGA_770 : List Cond := Cond.instanceMethod yX8_wipe :: wtGA_771
noncomputable def wtGA_769 : List Cond := Cond.methodLink RX11 326 yX8_wipe :: wtGA_770
noncomputable def wtGA_768 : List Cond := Cond.code yX11_leastLead cX11_leastLead 7 (some .int) :: wtGA_769
noncomputable def wtGA_767 : List Cond := Cond.selects RX11 yX11_leastLead yX11_leastLead :: wtGA_768
noncomputable def wtGA_766 : List Cond := Cond.instanceMethod yX11_leastLead :: wtGA_767
noncomputable def wtGA_765 : List Cond := Cond.methodLink RX11 384 yX11_leastLead :: wtGA_766
noncomputable def wtGA_764 : List Cond := Cond.code yX11_longer cX11_longer 4 (some .int) :: wtGA_765
noncomputable def wtGA_763 : List Cond := Cond.selects RX11 yX11_longer yX11_longer :: wtGA_764
noncomputable def wtGA_762 : List Cond := Cond.instanceMethod yX11_longer :: wtGA_763
noncomputable def wtGA_761 : List Cond := Cond.code yX11_redated cX11_redated 2 (some .int) :: wtGA_762
noncomputable def wtGA_760 : List Cond := Cond.selects RX11 yX11_redated yX11_redated :: wtGA_761
noncomputable def wtGA_759 : List Cond := Cond.instanceMethod yX11_redated :: wtGA_760
noncomputable def wtGA_758 : List Cond := Cond.code yX11_dueOn cX11_dueOn 5 (some .int) :: wtGA_759
noncomputable def wtGA_757 : List Cond := Cond.selects RX11 yX11_dueOn yX11_dueOn :: wtGA_758
noncomputable def wtGA_756 : List Cond := Cond.instanceMethod yX11_dueOn :: wtGA_757
noncomputable def wtGA_755 : List Cond := Cond.code yX11_dueSpan cX11_dueSpan 5 (some .int) :: wtGA_756
noncomputable def wtGA_754 : List Cond := Cond.selects RX11 yX11_dueSpan yX11_dueSpan :: wtGA_755
noncomputable def wtGA_753 : List Cond := Cond.instanceMethod yX11_dueSpan :: wtGA_754
noncomputable def wtGA_752 : List Cond := Cond.code yX2_endOffset cX2_endOffset 1 (some .int) :: wtGA_753
noncomputable def wtGA_751 : List Cond := Cond.selects RX2 yX2_endOffset yX2_endOffset :: wtGA_752
noncomputable def wtGA_750 : List Cond := Cond.instanceMethod yX2_endOffset :: wtGA_751
noncomputable def wtGA_749 : List Cond := Cond.methodLink RX11 381 yX2_endOffset :: wtGA_750
noncomputable def wtGA_748 : List Cond := Cond.fieldLink RX2 20 "SightedMonths$Deed" "day" "I" :: wtGA_749
noncomputable def wtGA_747 : List Cond := Cond.fieldLink RX2 17 "SightedMonths$Deed" "length" "I" :: wtGA_748
noncomputable def wtGA_746 : List Cond := Cond.fieldLink RX2 13 "SightedMonths$Deed" "month" "I" :: wtGA_747
noncomputable def wtGA_745 : List Cond := Cond.fieldLink RX2 7 "SightedMonths$Deed" "inDays" "Z" :: wtGA_746
noncomputable def wtGA_744 : List Cond := Cond.code yX2_endAnchor cX2_endAnchor 1 (some .int) :: wtGA_745
noncomputable def wtGA_743 : List Cond := Cond.selects RX2 yX2_endAnchor yX2_endAnchor :: wtGA_744
noncomputable def wtGA_742 : List Cond := Cond.instanceMethod yX2_endAnchor :: wtGA_743
noncomputable def wtGA_741 : List Cond := Cond.methodLink RX11 378 yX2_endAnchor :: wtGA_742
noncomputable def wtGA_740 : List Cond := Cond.code yX11_endByOfficial cX11_endByOfficial 4 (some .int) :: wtGA_741
noncomputable def wtGA_739 : List Cond := Cond.selects RX11 yX11_endByOfficial yX11_endByOfficial :: wtGA_740
noncomputable def wtGA_738 : List Cond := Cond.instanceMethod yX11_endByOfficial :: wtGA_739
noncomputable def wtGA_737 : List Cond := Cond.methodLink RX11 375 yX11_endByOfficial :: wtGA_738
noncomputable def wtGA_736 : List Cond := Cond.code yX11_due cX11_due 3 (some .int) :: wtGA_737
noncomputable def wtGA_735 : List Cond := Cond.selects RX11 yX11_due yX11_due :: wtGA_736
noncomputable def wtGA_734 : List Cond := Cond.instanceMethod yX11_due :: wtGA_735
noncomputable def wtGA_733 : List Cond := Cond.code yX4_lastChangeOf cX4_lastChangeOf 3 (some .int) :: wtGA_734
noncomputable def wtGA_732 : List Cond := Cond.selects RX4 yX4_lastChangeOf yX4_lastChangeOf :: wtGA_733
noncomputable def wtGA_731 : List Cond := Cond.instanceMethod yX4_lastChangeOf :: wtGA_732
noncomputable def wtGA_730 : List Cond := Cond.methodLink RX11 368 yX4_lastChangeOf :: wtGA_731
noncomputable def wtGA_729 : List Cond := Cond.code yX11_settled cX11_settled 2 (some .int) :: wtGA_730
noncomputable def wtGA_728 : List Cond := Cond.selects RX11 yX11_settled yX11_settled :: wtGA_729
noncomputable def wtGA_727 : List Cond := Cond.instanceMethod yX11_settled :: wtGA_728
noncomputable def wtGA_726 : List Cond := Cond.code yX4_changesAt cX4_changesAt 3 (some .boolean) :: wtGA_727
noncomputable def wtGA_725 : List Cond := Cond.selects RX4 yX4_changesAt yX4_changesAt :: wtGA_726
noncomputable def wtGA_724 : List Cond := Cond.instanceMethod yX4_changesAt :: wtGA_725
noncomputable def wtGA_723 : List Cond := Cond.methodLink RX4 41 yX4_changesAt :: wtGA_724
noncomputable def wtGA_722 : List Cond := Cond.code yX4_changesOf cX4_changesOf 4 (some .int) :: wtGA_723
noncomputable def wtGA_721 : List Cond := Cond.selects RX4 yX4_changesOf yX4_changesOf :: wtGA_722
noncomputable def wtGA_720 : List Cond := Cond.instanceMethod yX4_changesOf :: wtGA_721
noncomputable def wtGA_719 : List Cond := Cond.methodLink RX11 365 yX4_changesOf :: wtGA_720
noncomputable def wtGA_718 : List Cond := Cond.methodLink RX0 121 Lib.Math.min.name :: wtGA_719
noncomputable def wtGA_717 : List Cond := Cond.code yX0_newsBehind cX0_newsBehind 4 (some .int) :: wtGA_718
noncomputable def wtGA_716 : List Cond := Cond.selects RX0 yX0_newsBehind yX0_newsBehind :: wtGA_717
noncomputable def wtGA_715 : List Cond := Cond.instanceMethod yX0_newsBehind :: wtGA_716
noncomputable def wtGA_714 : List Cond := Cond.methodLink RX4 35 yX0_newsBehind :: wtGA_715
noncomputable def wtGA_713 : List Cond := Cond.methodLink RX4 22 yX1_judge :: wtGA_714
noncomputable def wtGA_712 : List Cond := Cond.initialized "java/lang/System" :: wtGA_713
noncomputable def wtGA_711 : List Cond := Cond.static arraycopyName :: wtGA_712
noncomputable def wtGA_710 : List Cond := Cond.native arraycopyName :: wtGA_711
noncomputable def wtGA_709 : List Cond := Cond.methodLink RX4 29 arraycopyName :: wtGA_710
noncomputable def wtGA_708 : List Cond := Cond.fieldLink RX4 28 "SightedMonths$Court" "begins" "[I" :: wtGA_709
noncomputable def wtGA_707 : List Cond := Cond.code yX4_fill cX4_fill 4 none :: wtGA_708
noncomputable def wtGA_706 : List Cond := Cond.selects RX4 yX4_fill yX4_fill :: wtGA_707
noncomputable def wtGA_705 : List Cond := Cond.instanceMethod yX4_fill :: wtGA_706
noncomputable def wtGA_704 : List Cond := Cond.methodLink RX11 409 yX4_fill :: wtGA_705
noncomputable def wtGA_703 : List Cond := Cond.code yX11_historyNow cX11_historyNow 1 (some (.object "SightedMonths$History")) :: wtGA_704
noncomputable def wtGA_702 : List Cond := Cond.selects RX11 yX11_historyNow yX11_historyNow :: wtGA_703
noncomputable def wtGA_701 : List Cond := Cond.instanceMethod yX11_historyNow :: wtGA_702
noncomputable def wtGA_700 : List Cond := Cond.methodLink RX11 361 yX11_historyNow :: wtGA_701
noncomputable def wtGA_699 : List Cond := Cond.code yX11_shifts cX11_shifts 2 (some .int) :: wtGA_700
noncomputable def wtGA_698 : List Cond := Cond.selects RX11 yX11_shifts yX11_shifts :: wtGA_699
noncomputable def wtGA_697 : List Cond := Cond.instanceMethod yX11_shifts :: wtGA_698
noncomputable def wtGA_696 : List Cond := Cond.code yX11_moved cX11_moved 5 (some .int) :: wtGA_697
noncomputable def wtGA_695 : List Cond := Cond.selects RX11 yX11_moved yX11_moved :: wtGA_696
noncomputable def wtGA_694 : List Cond := Cond.instanceMethod yX11_moved :: wtGA_695
noncomputable def wtGA_693 : List Cond := Cond.methodLink RX11 308 yX11_dayOf :: wtGA_694
noncomputable def wtGA_692 : List Cond := Cond.code yX11_likely cX11_likely 9 (some .int) :: wtGA_693
noncomputable def wtGA_691 : List Cond := Cond.selects RX11 yX11_likely yX11_likely :: wtGA_692
noncomputable def wtGA_690 : List Cond := Cond.instanceMethod yX11_likely :: wtGA_691
noncomputable def wtGA_689 : List Cond := Cond.code yX9_dated cX9_dated 7 (some .int) :: wtGA_690
noncomputable def wtGA_688 : List Cond := Cond.selects RX9 yX9_dated yX9_dated :: wtGA_689
noncomputable def wtGA_687 : List Cond := Cond.instanceMethod yX9_dated :: wtGA_688
noncomputable def wtGA_686 : List Cond := Cond.methodLink RX11 304 yX9_dated :: wtGA_687
noncomputable def wtGA_685 : List Cond := Cond.code yX11_dates cX11_dates 7 (some .int) :: wtGA_686
noncomputable def wtGA_684 : List Cond := Cond.selects RX11 yX11_dates yX11_dates :: wtGA_685
noncomputable def wtGA_683 : List Cond := Cond.instanceMethod yX11_dates :: wtGA_684
noncomputable def wtGA_682 : List Cond := Cond.code yX11_date cX11_date 5 (some .int) :: wtGA_683
noncomputable def wtGA_681 : List Cond := Cond.selects RX11 yX11_date yX11_date :: wtGA_682
noncomputable def wtGA_680 : List Cond := Cond.instanceMethod yX11_date :: wtGA_681
noncomputable def wtGA_679 : List Cond := Cond.code yX11_offsetOf cX11_offsetOf 1 (some .int) :: wtGA_680
noncomputable def wtGA_678 : List Cond := Cond.static yX11_offsetOf :: wtGA_679
noncomputable def wtGA_677 : List Cond := Cond.methodLink RX11 320 yX11_offsetOf :: wtGA_678
noncomputable def wtGA_676 : List Cond := Cond.code yX11_anchorOf cX11_anchorOf 2 (some .int) :: wtGA_677
noncomputable def wtGA_675 : List Cond := Cond.static yX11_anchorOf :: wtGA_676
noncomputable def wtGA_674 : List Cond := Cond.methodLink RX11 317 yX11_anchorOf :: wtGA_675
noncomputable def wtGA_673 : List Cond := Cond.code yX11_hasDate cX11_hasDate 3 (some .boolean) :: wtGA_674
noncomputable def wtGA_672 : List Cond := Cond.selects RX11 yX11_hasDate yX11_hasDate :: wtGA_673
noncomputable def wtGA_671 : List Cond := Cond.instanceMethod yX11_hasDate :: wtGA_672
noncomputable def wtGA_670 : List Cond := Cond.methodLink RX11 314 yX11_hasDate :: wtGA_671
noncomputable def wtGA_669 : List Cond := Cond.code yX11_day cX11_day 4 (some .int) :: wtGA_670
noncomputable def wtGA_668 : List Cond := Cond.selects RX11 yX11_day yX11_day :: wtGA_669
noncomputable def wtGA_667 : List Cond := Cond.instanceMethod yX11_day :: wtGA_668
noncomputable def wtGA_666 : List Cond := Cond.constant RX11 303 (1103515245) :: wtGA_667
noncomputable def wtGA_665 : List Cond := Cond.code yX11_drawn cX11_drawn 5 (some .int) :: wtGA_666
noncomputable def wtGA_664 : List Cond := Cond.selects RX11 yX11_drawn yX11_drawn :: wtGA_665
noncomputable def wtGA_663 : List Cond := Cond.instanceMethod yX11_drawn :: wtGA_664
noncomputable def wtGA_662 : List Cond := Cond.code yX9_indexOf cX9_indexOf 6 (some .int) :: wtGA_663
noncomputable def wtGA_661 : List Cond := Cond.selects RX9 yX9_indexOf yX9_indexOf :: wtGA_662
noncomputable def wtGA_660 : List Cond := Cond.instanceMethod yX9_indexOf :: wtGA_661
noncomputable def wtGA_659 : List Cond := Cond.methodLink RX11 300 yX9_indexOf :: wtGA_660
noncomputable def wtGA_658 : List Cond := Cond.code yX11_rank cX11_rank 3 (some .int) :: wtGA_659
noncomputable def wtGA_657 : List Cond := Cond.selects RX11 yX11_rank yX11_rank :: wtGA_658
noncomputable def wtGA_656 : List Cond := Cond.instanceMethod yX11_rank :: wtGA_657
noncomputable def wtGA_655 : List Cond := Cond.code yX9_beginOf cX9_beginOf 8 (some .int) :: wtGA_656
noncomputable def wtGA_654 : List Cond := Cond.selects RX9 yX9_beginOf yX9_beginOf :: wtGA_655
noncomputable def wtGA_653 : List Cond := Cond.instanceMethod yX9_beginOf :: wtGA_654
noncomputable def wtGA_652 : List Cond := Cond.methodLink RX11 297 yX9_beginOf :: wtGA_653
noncomputable def wtGA_651 : List Cond := Cond.code yX11_ranked cX11_ranked 5 (some .int) :: wtGA_652
noncomputable def wtGA_650 : List Cond := Cond.selects RX11 yX11_ranked yX11_ranked :: wtGA_651
noncomputable def wtGA_649 : List Cond := Cond.instanceMethod yX11_ranked :: wtGA_650
noncomputable def wtGA_648 : List Cond := Cond.code yX9_leanIn cX9_leanIn 5 (some .int) :: wtGA_649
noncomputable def wtGA_647 : List Cond := Cond.selects RX9 yX9_leanIn yX9_leanIn :: wtGA_648
noncomputable def wtGA_646 : List Cond := Cond.instanceMethod yX9_leanIn :: wtGA_647
noncomputable def wtGA_645 : List Cond := Cond.methodLink RX11 294 yX9_leanIn :: wtGA_646
noncomputable def wtGA_644 : List Cond := Cond.code yX11_lean cX11_lean 3 (some .int) :: wtGA_645
noncomputable def wtGA_643 : List Cond := Cond.selects RX11 yX11_lean yX11_lean :: wtGA_644
noncomputable def wtGA_642 : List Cond := Cond.instanceMethod yX11_lean :: wtGA_643
noncomputable def wtGA_641 : List Cond := Cond.code yX9_onDay cX9_onDay 4 (some .int) :: wtGA_642
noncomputable def wtGA_640 : List Cond := Cond.selects RX9 yX9_onDay yX9_onDay :: wtGA_641
noncomputable def wtGA_639 : List Cond := Cond.instanceMethod yX9_onDay :: wtGA_640
noncomputable def wtGA_638 : List Cond := Cond.methodLink RX11 290 yX9_onDay :: wtGA_639
noncomputable def wtGA_637 : List Cond := Cond.code yX11_could cX11_could 4 (some .int) :: wtGA_638
noncomputable def wtGA_636 : List Cond := Cond.selects RX11 yX11_could yX11_could :: wtGA_637
noncomputable def wtGA_635 : List Cond := Cond.instanceMethod yX11_could :: wtGA_636
noncomputable def wtGA_634 : List Cond := Cond.code yX1_lengthOf cX1_lengthOf 2 (some .int) :: wtGA_635
noncomputable def wtGA_633 : List Cond := Cond.selects RX1 yX1_lengthOf yX1_lengthOf :: wtGA_634
noncomputable def wtGA_632 : List Cond := Cond.instanceMethod yX1_lengthOf :: wtGA_633
noncomputable def wtGA_631 : List Cond := Cond.methodLink RX11 358 yX1_lengthOf :: wtGA_632
noncomputable def wtGA_630 : List Cond := Cond.code yX11_lasts cX11_lasts 3 (some .int) :: wtGA_631
noncomputable def wtGA_629 : List Cond := Cond.selects RX11 yX11_lasts yX11_lasts :: wtGA_630
noncomputable def wtGA_628 : List Cond := Cond.instanceMethod yX11_lasts :: wtGA_629
noncomputable def wtGA_627 : List Cond := Cond.code yX11_sure cX11_sure 5 (some .int) :: wtGA_628
noncomputable def wtGA_626 : List Cond := Cond.selects RX11 yX11_sure yX11_sure :: wtGA_627
noncomputable def wtGA_625 : List Cond := Cond.instanceMethod yX11_sure :: wtGA_626
noncomputable def wtGA_624 : List Cond := Cond.code yX9_bound cX9_bound 5 (some .int) :: wtGA_625
noncomputable def wtGA_623 : List Cond := Cond.selects RX9 yX9_bound yX9_bound :: wtGA_624
noncomputable def wtGA_622 : List Cond := Cond.instanceMethod yX9_bound :: wtGA_623
noncomputable def wtGA_621 : List Cond := Cond.methodLink RX11 286 yX9_bound :: wtGA_622
noncomputable def wtGA_620 : List Cond := Cond.code yX11_isEither cX11_isEither 1 (some .boolean) :: wtGA_621
noncomputable def wtGA_619 : List Cond := Cond.static yX11_isEither :: wtGA_620
noncomputable def wtGA_618 : List Cond := Cond.methodLink RX11 283 yX11_isEither :: wtGA_619
noncomputable def wtGA_617 : List Cond := Cond.code yX11_span cX11_span 4 (some .int) :: wtGA_618
noncomputable def wtGA_616 : List Cond := Cond.selects RX11 yX11_span yX11_span :: wtGA_617
noncomputable def wtGA_615 : List Cond := Cond.instanceMethod yX11_span :: wtGA_616
noncomputable def wtGA_614 : List Cond := Cond.fieldLink RX11 258 "SightedMonths$Court" "begins" "[I" :: wtGA_615
noncomputable def wtGA_613 : List Cond := Cond.code yX11_begin cX11_begin 3 (some .int) :: wtGA_614
noncomputable def wtGA_612 : List Cond := Cond.selects RX11 yX11_begin yX11_begin :: wtGA_613
noncomputable def wtGA_611 : List Cond := Cond.instanceMethod yX11_begin :: wtGA_612
noncomputable def wtGA_610 : List Cond := Cond.code yX9_total cX9_total 1 (some .int) :: wtGA_611
noncomputable def wtGA_609 : List Cond := Cond.selects RX9 yX9_total yX9_total :: wtGA_610
noncomputable def wtGA_608 : List Cond := Cond.instanceMethod yX9_total :: wtGA_609
noncomputable def wtGA_607 : List Cond := Cond.methodLink RX11 279 yX9_total :: wtGA_608
noncomputable def wtGA_606 : List Cond := Cond.code yX9_countStarts cX9_countStarts 6 none :: wtGA_607
noncomputable def wtGA_605 : List Cond := Cond.selects RX9 yX9_countStarts yX9_countStarts :: wtGA_606
noncomputable def wtGA_604 : List Cond := Cond.instanceMethod yX9_countStarts :: wtGA_605
noncomputable def wtGA_603 : List Cond := Cond.methodLink RX9 49 yX9_countStarts :: wtGA_604
noncomputable def wtGA_602 : List Cond := Cond.code yX9_withLean cX9_withLean 4 (some .int) :: wtGA_603
noncomputable def wtGA_601 : List Cond := Cond.selects RX9 yX9_withLean yX9_withLean :: wtGA_602
noncomputable def wtGA_600 : List Cond := Cond.instanceMethod yX9_withLean :: wtGA_601
noncomputable def wtGA_599 : List Cond := Cond.methodLink RX9 89 yX9_withLean :: wtGA_600
noncomputable def wtGA_598 : List Cond := Cond.code yX9_withFull cX9_withFull 4 (some .int) :: wtGA_599
noncomputable def wtGA_597 : List Cond := Cond.selects RX9 yX9_withFull yX9_withFull :: wtGA_598
noncomputable def wtGA_596 : List Cond := Cond.instanceMethod yX9_withFull :: wtGA_597
noncomputable def wtGA_595 : List Cond := Cond.methodLink RX9 86 yX9_withFull :: wtGA_596
noncomputable def wtGA_594 : List Cond := Cond.methodLink RX9 81 Lib.Math.min.name :: wtGA_595
noncomputable def wtGA_593 : List Cond := Cond.code yX9_countBehind cX9_countBehind 6 none :: wtGA_594
noncomputable def wtGA_592 : List Cond := Cond.selects RX9 yX9_countBehind yX9_countBehind :: wtGA_593
noncomputable def wtGA_591 : List Cond := Cond.instanceMethod yX9_countBehind :: wtGA_592
noncomputable def wtGA_590 : List Cond := Cond.methodLink RX9 46 yX9_countBehind :: wtGA_591
noncomputable def wtGA_589 : List Cond := Cond.code yX9_takeOnWithLean cX9_takeOnWithLean 7 none :: wtGA_590
noncomputable def wtGA_588 : List Cond := Cond.selects RX9 yX9_takeOnWithLean yX9_takeOnWithLean :: wtGA_589
noncomputable def wtGA_587 : List Cond := Cond.instanceMethod yX9_takeOnWithLean :: wtGA_588
noncomputable def wtGA_586 : List Cond := Cond.methodLink RX9 60 yX9_takeOnWithLean :: wtGA_587
noncomputable def wtGA_585 : List Cond := Cond.code yX11_cell cX11_cell 2 (some .int) :: wtGA_586
noncomputable def wtGA_584 : List Cond := Cond.static yX11_cell :: wtGA_585
noncomputable def wtGA_583 : List Cond := Cond.methodLink RX11 425 yX11_cell :: wtGA_584
noncomputable def wtGA_582 : List Cond := Cond.code yX11_spot cX11_spot 3 (some .int) :: wtGA_583
noncomputable def wtGA_581 : List Cond := Cond.static yX11_spot :: wtGA_582
noncomputable def wtGA_580 : List Cond := Cond.code yX9_takeOnWithFull cX9_takeOnWithFull 7 none :: wtGA_581
noncomputable def wtGA_579 : List Cond := Cond.selects RX9 yX9_takeOnWithFull yX9_takeOnWithFull :: wtGA_580
noncomputable def wtGA_578 : List Cond := Cond.instanceMethod yX9_takeOnWithFull :: wtGA_579
noncomputable def wtGA_577 : List Cond := Cond.methodLink RX9 56 yX9_takeOnWithFull :: wtGA_578
noncomputable def wtGA_576 : List Cond := Cond.code yX3_allows cX3_allows 3 (some .boolean) :: wtGA_577
noncomputable def wtGA_575 : List Cond := Cond.selects RX3 yX3_allows yX3_allows :: wtGA_576
noncomputable def wtGA_574 : List Cond := Cond.instanceMethod yX3_allows :: wtGA_575
noncomputable def wtGA_573 : List Cond := Cond.methodLink RX9 52 yX3_allows :: wtGA_574
noncomputable def wtGA_572 : List Cond := Cond.code yX9_countBefore cX9_countBefore 4 none :: wtGA_573
noncomputable def wtGA_571 : List Cond := Cond.selects RX9 yX9_countBefore yX9_countBefore :: wtGA_572
noncomputable def wtGA_570 : List Cond := Cond.instanceMethod yX9_countBefore :: wtGA_571
noncomputable def wtGA_569 : List Cond := Cond.methodLink RX9 42 yX9_countBefore :: wtGA_570
noncomputable def wtGA_568 : List Cond := Cond.code yJ7_fill_53178 cJ7_fill_53178 4 none :: wtGA_569
noncomputable def wtGA_567 : List Cond := Cond.initialized RJ7 :: wtGA_568
noncomputable def wtGA_566 : List Cond := Cond.static yJ7_fill_53178 :: wtGA_567
noncomputable def wtGA_565 : List Cond := Cond.methodLink RX9 36 yJ7_fill_53178 :: wtGA_566
noncomputable def wtGA_564 : List Cond := Cond.fieldLink RX9 35 "SightedMonths$Tally" "lean" "I" :: wtGA_565
noncomputable def wtGA_563 : List Cond := Cond.fieldLink RX9 32 "SightedMonths$Frame" "lean" "I" :: wtGA_564
noncomputable def wtGA_562 : List Cond := Cond.fieldLink RX9 31 "SightedMonths$Tally" "full" "I" :: wtGA_563
noncomputable def wtGA_561 : List Cond := Cond.fieldLink RX9 28 "SightedMonths$Frame" "full" "I" :: wtGA_562
noncomputable def wtGA_560 : List Cond := Cond.fieldLink RX9 27 "SightedMonths$Tally" "months" "I" :: wtGA_561
noncomputable def wtGA_559 : List Cond := Cond.fieldLink RX9 21 "SightedMonths$Frame" "months" "I" :: wtGA_560
noncomputable def wtGA_558 : List Cond := Cond.code yX9_fill cX9_fill 2 none :: wtGA_559
noncomputable def wtGA_557 : List Cond := Cond.selects RX9 yX9_fill yX9_fill :: wtGA_558
noncomputable def wtGA_556 : List Cond := Cond.instanceMethod yX9_fill :: wtGA_557
noncomputable def wtGA_555 : List Cond := Cond.methodLink RX11 406 yX9_fill :: wtGA_556
noncomputable def wtGA_554 : List Cond := Cond.fieldLink RX11 338 "SightedMonths$Court" "frame" "LSightedMonths$Frame;" :: wtGA_555
noncomputable def wtGA_553 : List Cond := Cond.code yX11_tallyBy cX11_tallyBy 3 (some (.object "SightedMonths$Tally")) :: wtGA_554
noncomputable def wtGA_552 : List Cond := Cond.selects RX11 yX11_tallyBy yX11_tallyBy :: wtGA_553
noncomputable def wtGA_551 : List Cond := Cond.instanceMethod yX11_tallyBy :: wtGA_552
noncomputable def wtGA_550 : List Cond := Cond.methodLink RX11 275 yX11_tallyBy :: wtGA_551
noncomputable def wtGA_549 : List Cond := Cond.code yX11_ways cX11_ways 2 (some .int) :: wtGA_550
noncomputable def wtGA_548 : List Cond := Cond.selects RX11 yX11_ways yX11_ways :: wtGA_549
noncomputable def wtGA_547 : List Cond := Cond.instanceMethod yX11_ways :: wtGA_548
noncomputable def wtGA_546 : List Cond := Cond.methodLink RX11 244 yX7_isKnownBy :: wtGA_547
noncomputable def wtGA_545 : List Cond := Cond.code yX11_blind cX11_blind 6 (some .int) :: wtGA_546
noncomputable def wtGA_544 : List Cond := Cond.selects RX11 yX11_blind yX11_blind :: wtGA_545
noncomputable def wtGA_543 : List Cond := Cond.instanceMethod yX11_blind :: wtGA_544
noncomputable def wtGA_542 : List Cond := Cond.methodLink RX11 415 yX3_fits :: wtGA_543
noncomputable def wtGA_541 : List Cond := Cond.methodLink RX11 412 yX3_narrow :: wtGA_542
noncomputable def wtGA_540 : List Cond := Cond.methodLink RX11 355 yX3_open :: wtGA_541
noncomputable def wtGA_539 : List Cond := Cond.code yX11_canBothBe cX11_canBothBe 3 (some .boolean) :: wtGA_540
noncomputable def wtGA_538 : List Cond := Cond.selects RX11 yX11_canBothBe yX11_canBothBe :: wtGA_539
noncomputable def wtGA_537 : List Cond := Cond.instanceMethod yX11_canBothBe :: wtGA_538
noncomputable def wtGA_536 : List Cond := Cond.methodLink RX11 240 yX11_canBothBe :: wtGA_537
noncomputable def wtGA_535 : List Cond := Cond.code yX11_against cX11_against 6 (some .int) :: wtGA_536
noncomputable def wtGA_534 : List Cond := Cond.selects RX11 yX11_against yX11_against :: wtGA_535
noncomputable def wtGA_533 : List Cond := Cond.instanceMethod yX11_against :: wtGA_534
noncomputable def wtGA_532 : List Cond := Cond.fieldLink RX11 237 "SightedMonths$Court" "queue" "[I" :: wtGA_533
noncomputable def wtGA_531 : List Cond := Cond.fieldLink RX11 234 "SightedMonths$Court" "queueLength" "I" :: wtGA_532
noncomputable def wtGA_530 : List Cond := Cond.code yX11_order cX11_order 4 (some .int) :: wtGA_531
noncomputable def wtGA_529 : List Cond := Cond.selects RX11 yX11_order yX11_order :: wtGA_530
noncomputable def wtGA_528 : List Cond := Cond.instanceMethod yX11_order :: wtGA_529
noncomputable def wtGA_527 : List Cond := Cond.constant RJ6 267 (252645135) :: wtGA_528
noncomputable def wtGA_526 : List Cond := Cond.constant RJ6 266 (858993459) :: wtGA_527
noncomputable def wtGA_525 : List Cond := Cond.constant RJ6 265 (1431655765) :: wtGA_526
noncomputable def wtGA_524 : List Cond := Cond.code yJ6_bitCount_0f7a4 cJ6_bitCount_0f7a4 1 (some .int) :: wtGA_525
noncomputable def wtGA_523 : List Cond := Cond.initialized RJ6 :: wtGA_524
noncomputable def wtGA_522 : List Cond := Cond.static yJ6_bitCount_0f7a4 :: wtGA_523
noncomputable def wtGA_521 : List Cond := Cond.methodLink RX11 229 yJ6_bitCount_0f7a4 :: wtGA_522
noncomputable def wtGA_520 : List Cond := Cond.fieldLink RX11 226 "SightedMonths$Court" "takenBits" "I" :: wtGA_521
noncomputable def wtGA_519 : List Cond := Cond.code yX11_taken cX11_taken 2 (some .int) :: wtGA_520
noncomputable def wtGA_518 : List Cond := Cond.selects RX11 yX11_taken yX11_taken :: wtGA_519
noncomputable def wtGA_517 : List Cond := Cond.instanceMethod yX11_taken :: wtGA_518
noncomputable def wtGA_516 : List Cond := Cond.code yX11_dayOf cX11_dayOf 2 (some .int) :: wtGA_517
noncomputable def wtGA_515 : List Cond := Cond.static yX11_dayOf :: wtGA_516
noncomputable def wtGA_514 : List Cond := Cond.code yX3_beginsInto cX3_beginsInto 6 none :: wtGA_515
noncomputable def wtGA_513 : List Cond := Cond.selects RX3 yX3_beginsInto yX3_beginsInto :: wtGA_514
noncomputable def wtGA_512 : List Cond := Cond.instanceMethod yX3_beginsInto :: wtGA_513
noncomputable def wtGA_511 : List Cond := Cond.methodLink RX1 61 yX3_beginsInto :: wtGA_512
noncomputable def wtGA_510 : List Cond := Cond.code yX11_runWithLean cX11_runWithLean 3 (some .int) :: wtGA_511
noncomputable def wtGA_509 : List Cond := Cond.static yX11_runWithLean :: wtGA_510
noncomputable def wtGA_508 : List Cond := Cond.code yX11_runWithFull cX11_runWithFull 2 (some .int) :: wtGA_509
noncomputable def wtGA_507 : List Cond := Cond.static yX11_runWithFull :: wtGA_508
noncomputable def wtGA_506 : List Cond := Cond.code yX11_lastRun cX11_lastRun 3 (some .int) :: wtGA_507
noncomputable def wtGA_505 : List Cond := Cond.static yX11_lastRun :: wtGA_506
noncomputable def wtGA_504 : List Cond := Cond.code yX11_firstRun cX11_firstRun 1 (some .int) :: wtGA_505
noncomputable def wtGA_503 : List Cond := Cond.static yX11_firstRun :: wtGA_504
noncomputable def wtGA_502 : List Cond := Cond.code yX3_fits cX3_fits 6 (some .boolean) :: wtGA_503
noncomputable def wtGA_501 : List Cond := Cond.selects RX3 yX3_fits yX3_fits :: wtGA_502
noncomputable def wtGA_500 : List Cond := Cond.instanceMethod yX3_fits :: wtGA_501
noncomputable def wtGA_499 : List Cond := Cond.methodLink RX1 57 yX3_fits :: wtGA_500
noncomputable def wtGA_498 : List Cond := Cond.fieldLink RX3 41 "SightedMonths$Report" "kind" "I" :: wtGA_499
noncomputable def wtGA_497 : List Cond := Cond.fieldLink RX3 38 "SightedMonths$Report" "day" "I" :: wtGA_498
noncomputable def wtGA_496 : List Cond := Cond.code yX3_rightFor cX3_rightFor 3 (some .int) :: wtGA_497
noncomputable def wtGA_495 : List Cond := Cond.static yX3_rightFor :: wtGA_496
noncomputable def wtGA_494 : List Cond := Cond.methodLink RX3 44 yX3_rightFor :: wtGA_495
noncomputable def wtGA_493 : List Cond := Cond.fieldLink RX3 33 "SightedMonths$Report" "month" "I" :: wtGA_494
noncomputable def wtGA_492 : List Cond := Cond.code yX3_narrow cX3_narrow 2 none :: wtGA_493
noncomputable def wtGA_491 : List Cond := Cond.selects RX3 yX3_narrow yX3_narrow :: wtGA_492
noncomputable def wtGA_490 : List Cond := Cond.instanceMethod yX3_narrow :: wtGA_491
noncomputable def wtGA_489 : List Cond := Cond.methodLink RX1 125 yX3_narrow :: wtGA_490
noncomputable def wtGA_488 : List Cond := Cond.methodLink RX1 118 yX0_earlyOf :: wtGA_489
noncomputable def wtGA_487 : List Cond := Cond.fieldLink RX1 122 "SightedMonths$Frame" "allowed" "[I" :: wtGA_488
noncomputable def wtGA_486 : List Cond := Cond.fieldLink RX1 114 "SightedMonths$Almanac" "hasMoon" "Z" :: wtGA_487
noncomputable def wtGA_485 : List Cond := Cond.code yX1_verdictOn cX1_verdictOn 5 (some .int) :: wtGA_486
noncomputable def wtGA_484 : List Cond := Cond.selects RX1 yX1_verdictOn yX1_verdictOn :: wtGA_485
noncomputable def wtGA_483 : List Cond := Cond.instanceMethod yX1_verdictOn :: wtGA_484
noncomputable def wtGA_482 : List Cond := Cond.methodLink RX1 53 yX1_verdictOn :: wtGA_483
noncomputable def wtGA_481 : List Cond := Cond.fieldLink RX3 32 "SightedMonths$Frame" "lean" "I" :: wtGA_482
noncomputable def wtGA_480 : List Cond := Cond.fieldLink RX3 29 "SightedMonths$Almanac" "lean" "I" :: wtGA_481
noncomputable def wtGA_479 : List Cond := Cond.fieldLink RX3 28 "SightedMonths$Frame" "full" "I" :: wtGA_480
noncomputable def wtGA_478 : List Cond := Cond.fieldLink RX3 25 "SightedMonths$Almanac" "full" "I" :: wtGA_479
noncomputable def wtGA_477 : List Cond := Cond.fieldLink RX3 24 "SightedMonths$Frame" "months" "I" :: wtGA_478
noncomputable def wtGA_476 : List Cond := Cond.fieldLink RX3 18 "SightedMonths$Almanac" "months" "I" :: wtGA_477
noncomputable def wtGA_475 : List Cond := Cond.code yX3_open cX3_open 3 none :: wtGA_476
noncomputable def wtGA_474 : List Cond := Cond.selects RX3 yX3_open yX3_open :: wtGA_475
noncomputable def wtGA_473 : List Cond := Cond.instanceMethod yX3_open :: wtGA_474
noncomputable def wtGA_472 : List Cond := Cond.methodLink RX1 43 yX3_open :: wtGA_473
noncomputable def wtGA_471 : List Cond := Cond.code yX1_insert cX1_insert 5 none :: wtGA_472
noncomputable def wtGA_470 : List Cond := Cond.selects RX1 yX1_insert yX1_insert :: wtGA_471
noncomputable def wtGA_469 : List Cond := Cond.instanceMethod yX1_insert :: wtGA_470
noncomputable def wtGA_468 : List Cond := Cond.methodLink RX1 78 yX1_insert :: wtGA_469
noncomputable def wtGA_467 : List Cond := Cond.fieldLink RX1 111 "SightedMonths$Report" "kind" "I" :: wtGA_468
noncomputable def wtGA_466 : List Cond := Cond.constantLong RX1 109 (3) :: wtGA_467
noncomputable def wtGA_465 : List Cond := Cond.fieldLink RX1 106 "SightedMonths$Report" "day" "I" :: wtGA_466
noncomputable def wtGA_464 : List Cond := Cond.constantLong RX1 104 (1000) :: wtGA_465
noncomputable def wtGA_463 : List Cond := Cond.fieldLink RX1 101 "SightedMonths$Report" "month" "I" :: wtGA_464
noncomputable def wtGA_462 : List Cond := Cond.constantLong RX1 99 (24) :: wtGA_463
noncomputable def wtGA_461 : List Cond := Cond.fieldLink RX1 96 "SightedMonths$Place" "name" "I" :: wtGA_462
noncomputable def wtGA_460 : List Cond := Cond.constantLong RX1 94 (387420489) :: wtGA_461
noncomputable def wtGA_459 : List Cond := Cond.fieldLink RX1 89 "SightedMonths$Place" "trust" "I" :: wtGA_460
noncomputable def wtGA_458 : List Cond := Cond.fieldLink RX1 86 "SightedMonths$Report" "place" "I" :: wtGA_459
noncomputable def wtGA_457 : List Cond := Cond.fieldLink RX1 82 "SightedMonths$Almanac" "places" "[LSightedMonths$Place;" :: wtGA_458
noncomputable def wtGA_456 : List Cond := Cond.code yX1_turnOf cX1_turnOf 6 (some .long) :: wtGA_457
noncomputable def wtGA_455 : List Cond := Cond.static yX1_turnOf :: wtGA_456
noncomputable def wtGA_454 : List Cond := Cond.methodLink RX1 74 yX1_turnOf :: wtGA_455
noncomputable def wtGA_453 : List Cond := Cond.methodLink RX1 68 yX7_isKnownBy :: wtGA_454
noncomputable def wtGA_452 : List Cond := Cond.fieldLink RX1 65 "SightedMonths$Almanac" "reportCount" "I" :: wtGA_453
noncomputable def wtGA_451 : List Cond := Cond.code yX1_lineUp cX1_lineUp 4 none :: wtGA_452
noncomputable def wtGA_450 : List Cond := Cond.selects RX1 yX1_lineUp yX1_lineUp :: wtGA_451
noncomputable def wtGA_449 : List Cond := Cond.instanceMethod yX1_lineUp :: wtGA_450
noncomputable def wtGA_448 : List Cond := Cond.methodLink RX1 39 yX1_lineUp :: wtGA_449
noncomputable def wtGA_447 : List Cond := Cond.fieldLink RX1 47 "SightedMonths$Almanac" "reports" "[LSightedMonths$Report;" :: wtGA_448
noncomputable def wtGA_446 : List Cond := Cond.code yX1_judge cX1_judge 5 none :: wtGA_447
noncomputable def wtGA_445 : List Cond := Cond.selects RX1 yX1_judge yX1_judge :: wtGA_446
noncomputable def wtGA_444 : List Cond := Cond.instanceMethod yX1_judge :: wtGA_445
noncomputable def wtGA_443 : List Cond := Cond.methodLink RX11 254 yX1_judge :: wtGA_444
noncomputable def wtGA_442 : List Cond := Cond.fieldLink RX7 13 "SightedMonths$Report" "known" "I" :: wtGA_443
noncomputable def wtGA_441 : List Cond := Cond.fieldLink RX7 7 "SightedMonths$Report" "struck" "Z" :: wtGA_442
noncomputable def wtGA_440 : List Cond := Cond.code yX7_isKnownBy cX7_isKnownBy 2 (some .boolean) :: wtGA_441
noncomputable def wtGA_439 : List Cond := Cond.selects RX7 yX7_isKnownBy yX7_isKnownBy :: wtGA_440
noncomputable def wtGA_438 : List Cond := Cond.instanceMethod yX7_isKnownBy :: wtGA_439
noncomputable def wtGA_437 : List Cond := Cond.methodLink RX0 111 yX7_isKnownBy :: wtGA_438
noncomputable def wtGA_436 : List Cond := Cond.methodLink RX0 115 Lib.Math.max.name :: wtGA_437
noncomputable def wtGA_435 : List Cond := Cond.code yX0_latestNews cX0_latestNews 4 (some .int) :: wtGA_436
noncomputable def wtGA_434 : List Cond := Cond.selects RX0 yX0_latestNews yX0_latestNews :: wtGA_435
noncomputable def wtGA_433 : List Cond := Cond.instanceMethod yX0_latestNews :: wtGA_434
noncomputable def wtGA_432 : List Cond := Cond.methodLink RX11 403 yX0_latestNews :: wtGA_433
noncomputable def wtGA_431 : List Cond := Cond.code yX11_courtBy cX11_courtBy 3 (some (.object "SightedMonths$Court")) :: wtGA_432
noncomputable def wtGA_430 : List Cond := Cond.selects RX11 yX11_courtBy yX11_courtBy :: wtGA_431
noncomputable def wtGA_429 : List Cond := Cond.instanceMethod yX11_courtBy :: wtGA_430
noncomputable def wtGA_428 : List Cond := Cond.methodLink RX11 219 yX11_courtBy :: wtGA_429
noncomputable def wtGA_427 : List Cond := Cond.code yX11_hasTime cX11_hasTime 2 (some .boolean) :: wtGA_428
noncomputable def wtGA_426 : List Cond := Cond.selects RX11 yX11_hasTime yX11_hasTime :: wtGA_427
noncomputable def wtGA_425 : List Cond := Cond.instanceMethod yX11_hasTime :: wtGA_426
noncomputable def wtGA_424 : List Cond := Cond.methodLink RX11 216 yX11_hasTime :: wtGA_425
noncomputable def wtGA_423 : List Cond := Cond.fieldLink RX11 223 "SightedMonths$Court" "verdicts" "[I" :: wtGA_424
noncomputable def wtGA_422 : List Cond := Cond.code yX11_judged cX11_judged 3 (some .int) :: wtGA_423
noncomputable def wtGA_421 : List Cond := Cond.selects RX11 yX11_judged yX11_judged :: wtGA_422
noncomputable def wtGA_420 : List Cond := Cond.instanceMethod yX11_judged :: wtGA_421
noncomputable def wtGA_419 : List Cond := Cond.code yX0_earlyOf cX0_earlyOf 2 (some .int) :: wtGA_420
noncomputable def wtGA_418 : List Cond := Cond.selects RX0 yX0_earlyOf yX0_earlyOf :: wtGA_419
noncomputable def wtGA_417 : List Cond := Cond.instanceMethod yX0_earlyOf :: wtGA_418
noncomputable def wtGA_416 : List Cond := Cond.methodLink RX11 213 yX0_earlyOf :: wtGA_417
noncomputable def wtGA_415 : List Cond := Cond.code yX11_isTold cX11_isTold 1 (some .boolean) :: wtGA_416
noncomputable def wtGA_414 : List Cond := Cond.selects RX11 yX11_isTold yX11_isTold :: wtGA_415
noncomputable def wtGA_413 : List Cond := Cond.instanceMethod yX11_isTold :: wtGA_414
noncomputable def wtGA_412 : List Cond := Cond.methodLink RX11 395 yX11_isTold :: wtGA_413
noncomputable def wtGA_411 : List Cond := Cond.code yX11_hasMonth cX11_hasMonth 4 (some .boolean) :: wtGA_412
noncomputable def wtGA_410 : List Cond := Cond.selects RX11 yX11_hasMonth yX11_hasMonth :: wtGA_411
noncomputable def wtGA_409 : List Cond := Cond.instanceMethod yX11_hasMonth :: wtGA_410
noncomputable def wtGA_408 : List Cond := Cond.methodLink RX11 209 yX11_hasMonth :: wtGA_409
noncomputable def wtGA_407 : List Cond := Cond.fieldLink RX11 206 "SightedMonths$Almanac" "hasMoon" "Z" :: wtGA_408
noncomputable def wtGA_406 : List Cond := Cond.code yX11_early cX11_early 2 (some .int) :: wtGA_407
noncomputable def wtGA_405 : List Cond := Cond.selects RX11 yX11_early yX11_early :: wtGA_406
noncomputable def wtGA_404 : List Cond := Cond.instanceMethod yX11_early :: wtGA_405
noncomputable def wtGA_403 : List Cond := Cond.code yX11_hasDeed cX11_hasDeed 2 (some .boolean) :: wtGA_404
noncomputable def wtGA_402 : List Cond := Cond.selects RX11 yX11_hasDeed yX11_hasDeed :: wtGA_403
noncomputable def wtGA_401 : List Cond := Cond.instanceMethod yX11_hasDeed :: wtGA_402
noncomputable def wtGA_400 : List Cond := Cond.methodLink RX11 191 yX11_hasDeed :: wtGA_401
noncomputable def wtGA_399 : List Cond := Cond.fieldLink RX11 203 "SightedMonths$Deed" "inDays" "Z" :: wtGA_400
noncomputable def wtGA_398 : List Cond := Cond.fieldLink RX11 202 "SightedMonths$Deed" "length" "I" :: wtGA_399
noncomputable def wtGA_397 : List Cond := Cond.fieldLink RX11 201 "SightedMonths$Deed" "day" "I" :: wtGA_398
noncomputable def wtGA_396 : List Cond := Cond.fieldLink RX11 198 "SightedMonths$Deed" "month" "I" :: wtGA_397
noncomputable def wtGA_395 : List Cond := Cond.fieldLink RX11 194 "SightedMonths$Almanac" "deeds" "[LSightedMonths$Deed;" :: wtGA_396
noncomputable def wtGA_394 : List Cond := Cond.code yX11_deed cX11_deed 4 (some .int) :: wtGA_395
noncomputable def wtGA_393 : List Cond := Cond.selects RX11 yX11_deed yX11_deed :: wtGA_394
noncomputable def wtGA_392 : List Cond := Cond.instanceMethod yX11_deed :: wtGA_393
noncomputable def wtGA_391 : List Cond := Cond.code yX11_hasReport cX11_hasReport 2 (some .boolean) :: wtGA_392
noncomputable def wtGA_390 : List Cond := Cond.selects RX11 yX11_hasReport yX11_hasReport :: wtGA_391
noncomputable def wtGA_389 : List Cond := Cond.instanceMethod yX11_hasReport :: wtGA_390
noncomputable def wtGA_388 : List Cond := Cond.methodLink RX11 164 yX11_hasReport :: wtGA_389
noncomputable def wtGA_387 : List Cond := Cond.fieldLink RX11 188 "SightedMonths$Report" "known" "I" :: wtGA_388
noncomputable def wtGA_386 : List Cond := Cond.fieldLink RX11 185 "SightedMonths$Report" "day" "I" :: wtGA_387
noncomputable def wtGA_385 : List Cond := Cond.fieldLink RX11 182 "SightedMonths$Report" "month" "I" :: wtGA_386
noncomputable def wtGA_384 : List Cond := Cond.fieldLink RX11 179 "SightedMonths$Report" "kind" "I" :: wtGA_385
noncomputable def wtGA_383 : List Cond := Cond.fieldLink RX11 176 "SightedMonths$Report" "struck" "Z" :: wtGA_384
noncomputable def wtGA_382 : List Cond := Cond.fieldLink RX11 171 "SightedMonths$Report" "place" "I" :: wtGA_383
noncomputable def wtGA_381 : List Cond := Cond.fieldLink RX11 167 "SightedMonths$Almanac" "reports" "[LSightedMonths$Report;" :: wtGA_382
noncomputable def wtGA_380 : List Cond := Cond.code yX11_report cX11_report 4 (some .int) :: wtGA_381
noncomputable def wtGA_379 : List Cond := Cond.selects RX11 yX11_report yX11_report :: wtGA_380
noncomputable def wtGA_378 : List Cond := Cond.instanceMethod yX11_report :: wtGA_379
noncomputable def wtGA_377 : List Cond := Cond.code yX0_standingOf cX0_standingOf 4 (some .int) :: wtGA_378
noncomputable def wtGA_376 : List Cond := Cond.selects RX0 yX0_standingOf yX0_standingOf :: wtGA_377
noncomputable def wtGA_375 : List Cond := Cond.instanceMethod yX0_standingOf :: wtGA_376
noncomputable def wtGA_374 : List Cond := Cond.methodLink RX11 161 yX0_standingOf :: wtGA_375
noncomputable def wtGA_373 : List Cond := Cond.code yX0_namesAhead cX0_namesAhead 4 (some .int) :: wtGA_374
noncomputable def wtGA_372 : List Cond := Cond.selects RX0 yX0_namesAhead yX0_namesAhead :: wtGA_373
noncomputable def wtGA_371 : List Cond := Cond.instanceMethod yX0_namesAhead :: wtGA_372
noncomputable def wtGA_370 : List Cond := Cond.methodLink RX11 157 yX0_namesAhead :: wtGA_371
noncomputable def wtGA_369 : List Cond := Cond.code yX11_hasPlace cX11_hasPlace 2 (some .boolean) :: wtGA_370
noncomputable def wtGA_368 : List Cond := Cond.selects RX11 yX11_hasPlace yX11_hasPlace :: wtGA_369
noncomputable def wtGA_367 : List Cond := Cond.instanceMethod yX11_hasPlace :: wtGA_368
noncomputable def wtGA_366 : List Cond := Cond.methodLink RX11 144 yX11_hasPlace :: wtGA_367
noncomputable def wtGA_365 : List Cond := Cond.fieldLink RX11 152 "SightedMonths$Place" "trust" "I" :: wtGA_366
noncomputable def wtGA_364 : List Cond := Cond.fieldLink RX11 148 "SightedMonths$Almanac" "places" "[LSightedMonths$Place;" :: wtGA_365
noncomputable def wtGA_363 : List Cond := Cond.code yX11_place cX11_place 3 (some .int) :: wtGA_364
noncomputable def wtGA_362 : List Cond := Cond.selects RX11 yX11_place yX11_place :: wtGA_363
noncomputable def wtGA_361 : List Cond := Cond.instanceMethod yX11_place :: wtGA_362
noncomputable def wtGA_360 : List Cond := Cond.fieldLink RX11 141 "SightedMonths$Almanac" "moonStep" "I" :: wtGA_361
noncomputable def wtGA_359 : List Cond := Cond.fieldLink RX11 138 "SightedMonths$Almanac" "moonStart" "I" :: wtGA_360
noncomputable def wtGA_358 : List Cond := Cond.fieldLink RX11 135 "SightedMonths$Almanac" "deedCount" "I" :: wtGA_359
noncomputable def wtGA_357 : List Cond := Cond.fieldLink RX11 132 "SightedMonths$Almanac" "reportCount" "I" :: wtGA_358
noncomputable def wtGA_356 : List Cond := Cond.fieldLink RX11 129 "SightedMonths$Almanac" "placeCount" "I" :: wtGA_357
noncomputable def wtGA_355 : List Cond := Cond.fieldLink RX11 126 "SightedMonths$Almanac" "lean" "I" :: wtGA_356
noncomputable def wtGA_354 : List Cond := Cond.fieldLink RX11 123 "SightedMonths$Almanac" "full" "I" :: wtGA_355
noncomputable def wtGA_353 : List Cond := Cond.fieldLink RX11 120 "SightedMonths$Almanac" "months" "I" :: wtGA_354
noncomputable def wtGA_352 : List Cond := Cond.code yX11_count cX11_count 2 (some .int) :: wtGA_353
noncomputable def wtGA_351 : List Cond := Cond.selects RX11 yX11_count yX11_count :: wtGA_352
noncomputable def wtGA_350 : List Cond := Cond.instanceMethod yX11_count :: wtGA_351
noncomputable def wtGA_349 : List Cond := Cond.fieldLink RX11 117 "SightedMonths$Reader" "faultPlace" "I" :: wtGA_350
noncomputable def wtGA_348 : List Cond := Cond.code yX11_fault cX11_fault 2 (some .int) :: wtGA_349
noncomputable def wtGA_347 : List Cond := Cond.selects RX11 yX11_fault yX11_fault :: wtGA_348
noncomputable def wtGA_346 : List Cond := Cond.instanceMethod yX11_fault :: wtGA_347
noncomputable def wtGA_345 : List Cond := Cond.code Lib.Math.max.name Lib.Math.max.code 2 (some .int) :: wtGA_346
noncomputable def wtGA_344 : List Cond := Cond.static Lib.Math.max.name :: wtGA_345
noncomputable def wtGA_343 : List Cond := Cond.code yX11_forget cX11_forget 1 none :: wtGA_344
noncomputable def wtGA_342 : List Cond := Cond.selects RX11 yX11_forget yX11_forget :: wtGA_343
noncomputable def wtGA_341 : List Cond := Cond.instanceMethod yX11_forget :: wtGA_342
noncomputable def wtGA_340 : List Cond := Cond.methodLink RX11 111 yX11_forget :: wtGA_341
noncomputable def wtGA_339 : List Cond := Cond.code yX6_passSign cX6_passSign 1 none :: wtGA_340
noncomputable def wtGA_338 : List Cond := Cond.selects RX6 yX6_passSign yX6_passSign :: wtGA_339
noncomputable def wtGA_337 : List Cond := Cond.instanceMethod yX6_passSign :: wtGA_338
noncomputable def wtGA_336 : List Cond := Cond.methodLink RX6 89 yX6_passSign :: wtGA_337
noncomputable def wtGA_335 : List Cond := Cond.fieldLink RX0 104 "SightedMonths$Deed" "inDays" "Z" :: wtGA_336
noncomputable def wtGA_334 : List Cond := Cond.fieldLink RX0 101 "SightedMonths$Deed" "length" "I" :: wtGA_335
noncomputable def wtGA_333 : List Cond := Cond.fieldLink RX0 100 "SightedMonths$Deed" "day" "I" :: wtGA_334
noncomputable def wtGA_332 : List Cond := Cond.fieldLink RX0 99 "SightedMonths$Deed" "month" "I" :: wtGA_333
noncomputable def wtGA_331 : List Cond := Cond.code yX0_addDeed cX0_addDeed 6 none :: wtGA_332
noncomputable def wtGA_330 : List Cond := Cond.selects RX0 yX0_addDeed yX0_addDeed :: wtGA_331
noncomputable def wtGA_329 : List Cond := Cond.instanceMethod yX0_addDeed :: wtGA_330
noncomputable def wtGA_328 : List Cond := Cond.methodLink RX6 170 yX0_addDeed :: wtGA_329
noncomputable def wtGA_327 : List Cond := Cond.fieldLink RX6 156 "SightedMonths$Almanac" "deedCount" "I" :: wtGA_328
noncomputable def wtGA_326 : List Cond := Cond.code yX6_readDeed cX6_readDeed 7 none :: wtGA_327
noncomputable def wtGA_325 : List Cond := Cond.selects RX6 yX6_readDeed yX6_readDeed :: wtGA_326
noncomputable def wtGA_324 : List Cond := Cond.instanceMethod yX6_readDeed :: wtGA_325
noncomputable def wtGA_323 : List Cond := Cond.methodLink RX6 82 yX6_readDeed :: wtGA_324
noncomputable def wtGA_322 : List Cond := Cond.fieldLink RX0 96 "SightedMonths$Report" "struck" "Z" :: wtGA_323
noncomputable def wtGA_321 : List Cond := Cond.fieldLink RX0 89 "SightedMonths$Report" "known" "I" :: wtGA_322
noncomputable def wtGA_320 : List Cond := Cond.fieldLink RX0 86 "SightedMonths$Report" "day" "I" :: wtGA_321
noncomputable def wtGA_319 : List Cond := Cond.fieldLink RX0 83 "SightedMonths$Report" "month" "I" :: wtGA_320
noncomputable def wtGA_318 : List Cond := Cond.fieldLink RX0 80 "SightedMonths$Report" "kind" "I" :: wtGA_319
noncomputable def wtGA_317 : List Cond := Cond.fieldLink RX0 77 "SightedMonths$Report" "place" "I" :: wtGA_318
noncomputable def wtGA_316 : List Cond := Cond.code yX0_addReport cX0_addReport 7 none :: wtGA_317
noncomputable def wtGA_315 : List Cond := Cond.selects RX0 yX0_addReport yX0_addReport :: wtGA_316
noncomputable def wtGA_314 : List Cond := Cond.instanceMethod yX0_addReport :: wtGA_315
noncomputable def wtGA_313 : List Cond := Cond.methodLink RX6 152 yX0_addReport :: wtGA_314
noncomputable def wtGA_312 : List Cond := Cond.fieldLink RX6 139 "SightedMonths$Almanac" "reportCount" "I" :: wtGA_313
noncomputable def wtGA_311 : List Cond := Cond.code yX6_readReport cX6_readReport 6 none :: wtGA_312
noncomputable def wtGA_310 : List Cond := Cond.selects RX6 yX6_readReport yX6_readReport :: wtGA_311
noncomputable def wtGA_309 : List Cond := Cond.instanceMethod yX6_readReport :: wtGA_310
noncomputable def wtGA_308 : List Cond := Cond.methodLink RX6 72 yX6_readReport :: wtGA_309
noncomputable def wtGA_307 : List Cond := Cond.fieldLink RX0 70 "SightedMonths$Place" "trust" "I" :: wtGA_308
noncomputable def wtGA_306 : List Cond := Cond.code yX0_addPlace cX0_addPlace 3 none :: wtGA_307
noncomputable def wtGA_305 : List Cond := Cond.selects RX0 yX0_addPlace yX0_addPlace :: wtGA_306
noncomputable def wtGA_304 : List Cond := Cond.instanceMethod yX0_addPlace :: wtGA_305
noncomputable def wtGA_303 : List Cond := Cond.methodLink RX6 136 yX0_addPlace :: wtGA_304
noncomputable def wtGA_302 : List Cond := Cond.fieldLink RX0 67 "SightedMonths$Place" "name" "I" :: wtGA_303
noncomputable def wtGA_301 : List Cond := Cond.code yX0_placeNamed cX0_placeNamed 3 (some .int) :: wtGA_302
noncomputable def wtGA_300 : List Cond := Cond.selects RX0 yX0_placeNamed yX0_placeNamed :: wtGA_301
noncomputable def wtGA_299 : List Cond := Cond.instanceMethod yX0_placeNamed :: wtGA_300
noncomputable def wtGA_298 : List Cond := Cond.methodLink RX6 148 yX0_placeNamed :: wtGA_299
noncomputable def wtGA_297 : List Cond := Cond.code yX6_nameHere cX6_nameHere 4 (some .int) :: wtGA_298
noncomputable def wtGA_296 : List Cond := Cond.selects RX6 yX6_nameHere yX6_nameHere :: wtGA_297
noncomputable def wtGA_295 : List Cond := Cond.instanceMethod yX6_nameHere :: wtGA_296
noncomputable def wtGA_294 : List Cond := Cond.methodLink RX6 178 yX6_nameHere :: wtGA_295
noncomputable def wtGA_293 : List Cond := Cond.code yX6_passName cX6_passName 3 (some .int) :: wtGA_294
noncomputable def wtGA_292 : List Cond := Cond.selects RX6 yX6_passName yX6_passName :: wtGA_293
noncomputable def wtGA_291 : List Cond := Cond.instanceMethod yX6_passName :: wtGA_292
noncomputable def wtGA_290 : List Cond := Cond.methodLink RX6 130 yX6_passName :: wtGA_291
noncomputable def wtGA_289 : List Cond := Cond.fieldLink RX6 127 "SightedMonths$Almanac" "placeCount" "I" :: wtGA_290
noncomputable def wtGA_288 : List Cond := Cond.code yX6_readPlace cX6_readPlace 3 none :: wtGA_289
noncomputable def wtGA_287 : List Cond := Cond.selects RX6 yX6_readPlace yX6_readPlace :: wtGA_288
noncomputable def wtGA_286 : List Cond := Cond.instanceMethod yX6_readPlace :: wtGA_287
noncomputable def wtGA_285 : List Cond := Cond.methodLink RX6 67 yX6_readPlace :: wtGA_286
noncomputable def wtGA_284 : List Cond := Cond.code yX0_setMoon cX0_setMoon 3 none :: wtGA_285
noncomputable def wtGA_283 : List Cond := Cond.selects RX0 yX0_setMoon yX0_setMoon :: wtGA_284
noncomputable def wtGA_282 : List Cond := Cond.instanceMethod yX0_setMoon :: wtGA_283
noncomputable def wtGA_281 : List Cond := Cond.methodLink RX6 124 yX0_setMoon :: wtGA_282
noncomputable def wtGA_280 : List Cond := Cond.code yX6_passHead cX6_passHead 2 none :: wtGA_281
noncomputable def wtGA_279 : List Cond := Cond.selects RX6 yX6_passHead yX6_passHead :: wtGA_280
noncomputable def wtGA_278 : List Cond := Cond.instanceMethod yX6_passHead :: wtGA_279
noncomputable def wtGA_277 : List Cond := Cond.methodLink RX6 118 yX6_passHead :: wtGA_278
noncomputable def wtGA_276 : List Cond := Cond.constant RX6 122 (99999) :: wtGA_277
noncomputable def wtGA_275 : List Cond := Cond.fieldLink RX6 114 "SightedMonths$Almanac" "hasMoon" "Z" :: wtGA_276
noncomputable def wtGA_274 : List Cond := Cond.code yX6_readMoon cX6_readMoon 3 none :: wtGA_275
noncomputable def wtGA_273 : List Cond := Cond.selects RX6 yX6_readMoon yX6_readMoon :: wtGA_274
noncomputable def wtGA_272 : List Cond := Cond.instanceMethod yX6_readMoon :: wtGA_273
noncomputable def wtGA_271 : List Cond := Cond.methodLink RX6 62 yX6_readMoon :: wtGA_272
noncomputable def wtGA_270 : List Cond := Cond.code Lib.Math.min.name Lib.Math.min.code 2 (some .int) :: wtGA_271
noncomputable def wtGA_269 : List Cond := Cond.initialized "java/lang/Math" :: wtGA_270
noncomputable def wtGA_268 : List Cond := Cond.static Lib.Math.min.name :: wtGA_269
noncomputable def wtGA_267 : List Cond := Cond.methodLink RX6 191 Lib.Math.min.name :: wtGA_268
noncomputable def wtGA_266 : List Cond := Cond.constant RX6 163 (1000000) :: wtGA_267
noncomputable def wtGA_265 : List Cond := Cond.code yX6_valueHere cX6_valueHere 4 (some .int) :: wtGA_266
noncomputable def wtGA_264 : List Cond := Cond.selects RX6 yX6_valueHere yX6_valueHere :: wtGA_265
noncomputable def wtGA_263 : List Cond := Cond.instanceMethod yX6_valueHere :: wtGA_264
noncomputable def wtGA_262 : List Cond := Cond.methodLink RX6 174 yX6_valueHere :: wtGA_263
noncomputable def wtGA_261 : List Cond := Cond.code yX6_passNumber cX6_passNumber 4 (some .int) :: wtGA_262
noncomputable def wtGA_260 : List Cond := Cond.selects RX6 yX6_passNumber yX6_passNumber :: wtGA_261
noncomputable def wtGA_259 : List Cond := Cond.instanceMethod yX6_passNumber :: wtGA_260
noncomputable def wtGA_258 : List Cond := Cond.methodLink RX6 100 yX6_passNumber :: wtGA_259
noncomputable def wtGA_257 : List Cond := Cond.code yX6_blame cX6_blame 3 none :: wtGA_258
noncomputable def wtGA_256 : List Cond := Cond.selects RX6 yX6_blame yX6_blame :: wtGA_257
noncomputable def wtGA_255 : List Cond := Cond.instanceMethod yX6_blame :: wtGA_256
noncomputable def wtGA_254 : List Cond := Cond.methodLink RX6 85 yX6_blame :: wtGA_255
noncomputable def wtGA_253 : List Cond := Cond.code yX6_expect cX6_expect 3 none :: wtGA_254
noncomputable def wtGA_252 : List Cond := Cond.selects RX6 yX6_expect yX6_expect :: wtGA_253
noncomputable def wtGA_251 : List Cond := Cond.instanceMethod yX6_expect :: wtGA_252
noncomputable def wtGA_250 : List Cond := Cond.methodLink RX6 166 yX6_expect :: wtGA_251
noncomputable def wtGA_249 : List Cond := Cond.fieldLink RJ2 63 "java/lang/StringUTF16" "LO_BYTE_SHIFT" "I" :: wtGA_250
noncomputable def wtGA_248 : List Cond := Cond.fieldLink RJ2 59 "java/lang/StringUTF16" "HI_BYTE_SHIFT" "I" :: wtGA_249
noncomputable def wtGA_247 : List Cond := Cond.fieldLink RJ2 44 "java/lang/StringUTF16" "$assertionsDisabled" "Z" :: wtGA_248
noncomputable def wtGA_246 : List Cond := Cond.code yJ2_getChar_3b067 cJ2_getChar_3b067 2 (some .char) :: wtGA_247
noncomputable def wtGA_245 : List Cond := Cond.static yJ2_getChar_3b067 :: wtGA_246
noncomputable def wtGA_244 : List Cond := Cond.methodLink RJ2 71 yJ2_getChar_3b067 :: wtGA_245
noncomputable def wtGA_243 : List Cond := Cond.methodLink RJ2 414 yJ0_checkIndex_df160 :: wtGA_244
noncomputable def wtGA_242 : List Cond := Cond.code yJ2_length_9d52b cJ2_length_9d52b 1 (some .int) :: wtGA_243
noncomputable def wtGA_241 : List Cond := Cond.static yJ2_length_9d52b :: wtGA_242
noncomputable def wtGA_240 : List Cond := Cond.methodLink RJ2 48 yJ2_length_9d52b :: wtGA_241
noncomputable def wtGA_239 : List Cond := Cond.code yJ2_checkIndex_2214a cJ2_checkIndex_2214a 2 none :: wtGA_240
noncomputable def wtGA_238 : List Cond := Cond.static yJ2_checkIndex_2214a :: wtGA_239
noncomputable def wtGA_237 : List Cond := Cond.methodLink RJ2 67 yJ2_checkIndex_2214a :: wtGA_238
noncomputable def wtGA_236 : List Cond := Cond.code yJ2_charAt_3b067 cJ2_charAt_3b067 2 (some .char) :: wtGA_237
noncomputable def wtGA_235 : List Cond := Cond.initialized RJ2 :: wtGA_236
noncomputable def wtGA_234 : List Cond := Cond.static yJ2_charAt_3b067 :: wtGA_235
noncomputable def wtGA_233 : List Cond := Cond.methodLink RJ0 498 yJ2_charAt_3b067 :: wtGA_234
noncomputable def wtGA_232 : List Cond := Cond.code yJ3_checkIndex_8e157 cJ3_checkIndex_8e157 3 (some .int) :: wtGA_233
noncomputable def wtGA_231 : List Cond := Cond.initialized RJ3 :: wtGA_232
noncomputable def wtGA_230 : List Cond := Cond.static yJ3_checkIndex_8e157 :: wtGA_231
noncomputable def wtGA_229 : List Cond := Cond.methodLink RJ0 1059 yJ3_checkIndex_8e157 :: wtGA_230
noncomputable def wtGA_228 : List Cond := Cond.fieldLink RJ0 1053 "jdk/internal/util/Preconditions" "SIOOBE_FORMATTER" "Ljava/util/function/BiFunction;" :: wtGA_229
noncomputable def wtGA_227 : List Cond := Cond.code yJ0_checkIndex_df160 cJ0_checkIndex_df160 2 none :: wtGA_228
noncomputable def wtGA_226 : List Cond := Cond.static yJ0_checkIndex_df160 :: wtGA_227
noncomputable def wtGA_225 : List Cond := Cond.methodLink RJ1 9 yJ0_checkIndex_df160 :: wtGA_226
noncomputable def wtGA_224 : List Cond := Cond.code yJ1_charAt_3b067 cJ1_charAt_3b067 2 (some .char) :: wtGA_225
noncomputable def wtGA_223 : List Cond := Cond.initialized RJ1 :: wtGA_224
noncomputable def wtGA_222 : List Cond := Cond.static yJ1_charAt_3b067 :: wtGA_223
noncomputable def wtGA_221 : List Cond := Cond.methodLink RJ0 495 yJ1_charAt_3b067 :: wtGA_222
noncomputable def wtGA_220 : List Cond := Cond.code yJ0_isLatin1_aae02 cJ0_isLatin1_aae02 1 (some .boolean) :: wtGA_221
noncomputable def wtGA_219 : List Cond := Cond.selects RJ0 yJ0_isLatin1_aae02 yJ0_isLatin1_aae02 :: wtGA_220
noncomputable def wtGA_218 : List Cond := Cond.instanceMethod yJ0_isLatin1_aae02 :: wtGA_219
noncomputable def wtGA_217 : List Cond := Cond.methodLink RJ0 492 yJ0_isLatin1_aae02 :: wtGA_218
noncomputable def wtGA_216 : List Cond := Cond.code yJ0_charAt_5068e cJ0_charAt_5068e 2 (some .char) :: wtGA_217
noncomputable def wtGA_215 : List Cond := Cond.selects RJ0 yJ0_charAt_5068e yJ0_charAt_5068e :: wtGA_216
noncomputable def wtGA_214 : List Cond := Cond.instanceMethod yJ0_charAt_5068e :: wtGA_215
noncomputable def wtGA_213 : List Cond := Cond.methodLink RX6 201 yJ0_charAt_5068e :: wtGA_214
noncomputable def wtGA_212 : List Cond := Cond.fieldLink RJ0 15 "java/lang/String" "coder" "B" :: wtGA_213
noncomputable def wtGA_211 : List Cond := Cond.fieldLink RJ0 38 "java/lang/String" "COMPACT_STRINGS" "Z" :: wtGA_212
noncomputable def wtGA_210 : List Cond := Cond.code yJ0_coder_7d493 cJ0_coder_7d493 1 (some .byte) :: wtGA_211
noncomputable def wtGA_209 : List Cond := Cond.selects RJ0 yJ0_coder_7d493 yJ0_coder_7d493 :: wtGA_210
noncomputable def wtGA_208 : List Cond := Cond.instanceMethod yJ0_coder_7d493 :: wtGA_209
noncomputable def wtGA_207 : List Cond := Cond.methodLink RJ0 335 yJ0_coder_7d493 :: wtGA_208
noncomputable def wtGA_206 : List Cond := Cond.fieldLink RJ0 9 "java/lang/String" "value" "[B" :: wtGA_207
noncomputable def wtGA_205 : List Cond := Cond.code yJ0_length_8abf5 cJ0_length_8abf5 1 (some .int) :: wtGA_206
noncomputable def wtGA_204 : List Cond := Cond.initialized RJ0 :: wtGA_205
noncomputable def wtGA_203 : List Cond := Cond.selects RJ0 yJ0_length_8abf5 yJ0_length_8abf5 :: wtGA_204
noncomputable def wtGA_202 : List Cond := Cond.instanceMethod yJ0_length_8abf5 :: wtGA_203
noncomputable def wtGA_201 : List Cond := Cond.methodLink RX6 196 yJ0_length_8abf5 :: wtGA_202
noncomputable def wtGA_200 : List Cond := Cond.code yX6_isWord cX6_isWord 3 (some .boolean) :: wtGA_201
noncomputable def wtGA_199 : List Cond := Cond.selects RX6 yX6_isWord yX6_isWord :: wtGA_200
noncomputable def wtGA_198 : List Cond := Cond.instanceMethod yX6_isWord :: wtGA_199
noncomputable def wtGA_197 : List Cond := Cond.methodLink RX6 58 yX6_isWord :: wtGA_198
noncomputable def wtGA_196 : List Cond := Cond.code yX6_passWord cX6_passWord 2 none :: wtGA_197
noncomputable def wtGA_195 : List Cond := Cond.selects RX6 yX6_passWord yX6_passWord :: wtGA_196
noncomputable def wtGA_194 : List Cond := Cond.instanceMethod yX6_passWord :: wtGA_195
noncomputable def wtGA_193 : List Cond := Cond.methodLink RX6 94 yX6_passWord :: wtGA_194
noncomputable def wtGA_192 : List Cond := Cond.fieldLink RX6 112 "SightedMonths$Almanac" "lean" "I" :: wtGA_193
noncomputable def wtGA_191 : List Cond := Cond.fieldLink RX6 110 "SightedMonths$Almanac" "full" "I" :: wtGA_192
noncomputable def wtGA_190 : List Cond := Cond.fieldLink RX6 108 "SightedMonths$Almanac" "months" "I" :: wtGA_191
noncomputable def wtGA_189 : List Cond := Cond.code yX6_readFirst cX6_readFirst 4 none :: wtGA_190
noncomputable def wtGA_188 : List Cond := Cond.selects RX6 yX6_readFirst yX6_readFirst :: wtGA_189
noncomputable def wtGA_187 : List Cond := Cond.instanceMethod yX6_readFirst :: wtGA_188
noncomputable def wtGA_186 : List Cond := Cond.methodLink RX6 53 yX6_readFirst :: wtGA_187
noncomputable def wtGA_185 : List Cond := Cond.fieldLink RX6 50 "SightedMonths$Almanac" "lines" "I" :: wtGA_186
noncomputable def wtGA_184 : List Cond := Cond.code yX6_readLine cX6_readLine 1 none :: wtGA_185
noncomputable def wtGA_183 : List Cond := Cond.selects RX6 yX6_readLine yX6_readLine :: wtGA_184
noncomputable def wtGA_182 : List Cond := Cond.instanceMethod yX6_readLine :: wtGA_183
noncomputable def wtGA_181 : List Cond := Cond.methodLink RX6 47 yX6_readLine :: wtGA_182
noncomputable def wtGA_180 : List Cond := Cond.code yX6_isDigit cX6_isDigit 1 (some .boolean) :: wtGA_181
noncomputable def wtGA_179 : List Cond := Cond.static yX6_isDigit :: wtGA_180
noncomputable def wtGA_178 : List Cond := Cond.methodLink RX6 188 yX6_isDigit :: wtGA_179
noncomputable def wtGA_177 : List Cond := Cond.code yX6_isLetter cX6_isLetter 1 (some .boolean) :: wtGA_178
noncomputable def wtGA_176 : List Cond := Cond.static yX6_isLetter :: wtGA_177
noncomputable def wtGA_175 : List Cond := Cond.methodLink RX6 184 yX6_isLetter :: wtGA_176
noncomputable def wtGA_174 : List Cond := Cond.code yX6_isBlank cX6_isBlank 1 (some .boolean) :: wtGA_175
noncomputable def wtGA_173 : List Cond := Cond.static yX6_isBlank :: wtGA_174
noncomputable def wtGA_172 : List Cond := Cond.methodLink RX6 207 yX6_isBlank :: wtGA_173
noncomputable def wtGA_171 : List Cond := Cond.fieldLink RX6 210 "SightedMonths$Tape" "bytes" "[B" :: wtGA_172
noncomputable def wtGA_170 : List Cond := Cond.code yX6_byteAt cX6_byteAt 2 (some .int) :: wtGA_171
noncomputable def wtGA_169 : List Cond := Cond.selects RX6 yX6_byteAt yX6_byteAt :: wtGA_170
noncomputable def wtGA_168 : List Cond := Cond.instanceMethod yX6_byteAt :: wtGA_169
noncomputable def wtGA_167 : List Cond := Cond.methodLink RX6 181 yX6_byteAt :: wtGA_168
noncomputable def wtGA_166 : List Cond := Cond.fieldLink RX6 205 "SightedMonths$Tape" "length" "I" :: wtGA_167
noncomputable def wtGA_165 : List Cond := Cond.code yX6_step cX6_step 2 none :: wtGA_166
noncomputable def wtGA_164 : List Cond := Cond.selects RX6 yX6_step yX6_step :: wtGA_165
noncomputable def wtGA_163 : List Cond := Cond.instanceMethod yX6_step :: wtGA_164
noncomputable def wtGA_162 : List Cond := Cond.methodLink RX6 44 yX6_step :: wtGA_163
noncomputable def wtGA_161 : List Cond := Cond.fieldLink RX0 61 "SightedMonths$Almanac" "deedCount" "I" :: wtGA_162
noncomputable def wtGA_160 : List Cond := Cond.fieldLink RX0 58 "SightedMonths$Almanac" "reportCount" "I" :: wtGA_161
noncomputable def wtGA_159 : List Cond := Cond.fieldLink RX0 55 "SightedMonths$Almanac" "placeCount" "I" :: wtGA_160
noncomputable def wtGA_158 : List Cond := Cond.fieldLink RX0 52 "SightedMonths$Almanac" "moonStep" "I" :: wtGA_159
noncomputable def wtGA_157 : List Cond := Cond.fieldLink RX0 49 "SightedMonths$Almanac" "moonStart" "I" :: wtGA_158
noncomputable def wtGA_156 : List Cond := Cond.fieldLink RX0 45 "SightedMonths$Almanac" "hasMoon" "Z" :: wtGA_157
noncomputable def wtGA_155 : List Cond := Cond.fieldLink RX0 42 "SightedMonths$Almanac" "lines" "I" :: wtGA_156
noncomputable def wtGA_154 : List Cond := Cond.fieldLink RX0 39 "SightedMonths$Almanac" "lean" "I" :: wtGA_155
noncomputable def wtGA_153 : List Cond := Cond.fieldLink RX0 36 "SightedMonths$Almanac" "full" "I" :: wtGA_154
noncomputable def wtGA_152 : List Cond := Cond.fieldLink RX0 32 "SightedMonths$Almanac" "months" "I" :: wtGA_153
noncomputable def wtGA_151 : List Cond := Cond.code yX0_wipe cX0_wipe 1 none :: wtGA_152
noncomputable def wtGA_150 : List Cond := Cond.selects RX0 yX0_wipe yX0_wipe :: wtGA_151
noncomputable def wtGA_149 : List Cond := Cond.instanceMethod yX0_wipe :: wtGA_150
noncomputable def wtGA_148 : List Cond := Cond.methodLink RX6 41 yX0_wipe :: wtGA_149
noncomputable def wtGA_147 : List Cond := Cond.code yX6_read cX6_read 2 none :: wtGA_148
noncomputable def wtGA_146 : List Cond := Cond.selects RX6 yX6_read yX6_read :: wtGA_147
noncomputable def wtGA_145 : List Cond := Cond.instanceMethod yX6_read :: wtGA_146
noncomputable def wtGA_144 : List Cond := Cond.methodLink RX11 102 yX6_read :: wtGA_145
noncomputable def wtGA_143 : List Cond := Cond.fieldLink RX11 114 "SightedMonths$Almanac" "lines" "I" :: wtGA_144
noncomputable def wtGA_142 : List Cond := Cond.fieldLink RX11 108 "SightedMonths$Reader" "draft" "LSightedMonths$Almanac;" :: wtGA_143
noncomputable def wtGA_141 : List Cond := Cond.fieldLink RX11 105 "SightedMonths$Reader" "faultKind" "I" :: wtGA_142
noncomputable def wtGA_140 : List Cond := Cond.code yX11_almanac cX11_almanac 2 (some .int) :: wtGA_141
noncomputable def wtGA_139 : List Cond := Cond.selects RX11 yX11_almanac yX11_almanac :: wtGA_140
noncomputable def wtGA_138 : List Cond := Cond.instanceMethod yX11_almanac :: wtGA_139
noncomputable def wtGA_137 : List Cond := Cond.code yX11_end cX11_end 2 (some .int) :: wtGA_138
noncomputable def wtGA_136 : List Cond := Cond.selects RX11 yX11_end yX11_end :: wtGA_137
noncomputable def wtGA_135 : List Cond := Cond.instanceMethod yX11_end :: wtGA_136
noncomputable def wtGA_134 : List Cond := Cond.code yX10_put cX10_put 2 none :: wtGA_135
noncomputable def wtGA_133 : List Cond := Cond.selects RX10 yX10_put yX10_put :: wtGA_134
noncomputable def wtGA_132 : List Cond := Cond.instanceMethod yX10_put :: wtGA_133
noncomputable def wtGA_131 : List Cond := Cond.methodLink RX11 98 yX10_put :: wtGA_132
noncomputable def wtGA_130 : List Cond := Cond.fieldLink RX11 93 "SightedMonths$Tape" "length" "I" :: wtGA_131
noncomputable def wtGA_129 : List Cond := Cond.fieldLink RX11 89 "SightedMonths$Reader" "tape" "LSightedMonths$Tape;" :: wtGA_130
noncomputable def wtGA_128 : List Cond := Cond.code yX11_feed cX11_feed 7 (some .int) :: wtGA_129
noncomputable def wtGA_127 : List Cond := Cond.selects RX11 yX11_feed yX11_feed :: wtGA_128
noncomputable def wtGA_126 : List Cond := Cond.instanceMethod yX11_feed :: wtGA_127
noncomputable def wtGA_125 : List Cond := Cond.arrayClass .boolean :: wtGA_126
noncomputable def wtGA_124 : List Cond := Cond.fieldLink RX4 18 "SightedMonths$History" "eras" "I" :: wtGA_125
noncomputable def wtGA_123 : List Cond := Cond.fieldLink RX4 15 "SightedMonths$History" "begins" "[I" :: wtGA_124
noncomputable def wtGA_122 : List Cond := Cond.fieldLink RX4 11 "SightedMonths$History" "since" "[I" :: wtGA_123
noncomputable def wtGA_121 : List Cond := Cond.methodLink RX4 3 objectInit :: wtGA_122
noncomputable def wtGA_120 : List Cond := Cond.code yX4_init cX4_init 1 none :: wtGA_121
noncomputable def wtGA_119 : List Cond := Cond.instanceMethod yX4_init :: wtGA_120
noncomputable def wtGA_118 : List Cond := Cond.fieldLink RX8 15 "SightedMonths$Search" "leasts" "[I" :: wtGA_119
noncomputable def wtGA_117 : List Cond := Cond.fieldLink RX8 9 "SightedMonths$Search" "costs" "[I" :: wtGA_118
noncomputable def wtGA_116 : List Cond := Cond.methodLink RX8 3 objectInit :: wtGA_117
noncomputable def wtGA_115 : List Cond := Cond.code yX8_init cX8_init 1 none :: wtGA_116
noncomputable def wtGA_114 : List Cond := Cond.instanceMethod yX8_init :: wtGA_115
noncomputable def wtGA_113 : List Cond := Cond.fieldLink RX9 18 "SightedMonths$Tally" "starts" "[I" :: wtGA_114
noncomputable def wtGA_112 : List Cond := Cond.fieldLink RX9 15 "SightedMonths$Tally" "behind" "[I" :: wtGA_113
noncomputable def wtGA_111 : List Cond := Cond.fieldLink RX9 9 "SightedMonths$Tally" "before" "[I" :: wtGA_112
noncomputable def wtGA_110 : List Cond := Cond.methodLink RX9 3 objectInit :: wtGA_111
noncomputable def wtGA_109 : List Cond := Cond.code yX9_init cX9_init 1 none :: wtGA_110
noncomputable def wtGA_108 : List Cond := Cond.instanceMethod yX9_init :: wtGA_109
noncomputable def wtGA_107 : List Cond := Cond.fieldLink RX1 36 "SightedMonths$Court" "takenBits" "I" :: wtGA_108
noncomputable def wtGA_106 : List Cond := Cond.fieldLink RX1 32 "SightedMonths$Court" "queueLength" "I" :: wtGA_107
noncomputable def wtGA_105 : List Cond := Cond.fieldLink RX1 29 "SightedMonths$Court" "begins" "[I" :: wtGA_106
noncomputable def wtGA_104 : List Cond := Cond.fieldLink RX1 25 "SightedMonths$Court" "turns" "[J" :: wtGA_105
noncomputable def wtGA_103 : List Cond := Cond.arrayClass .long :: wtGA_104
noncomputable def wtGA_102 : List Cond := Cond.fieldLink RX1 22 "SightedMonths$Court" "queue" "[I" :: wtGA_103
noncomputable def wtGA_101 : List Cond := Cond.fieldLink RX1 18 "SightedMonths$Court" "verdicts" "[I" :: wtGA_102
noncomputable def wtGA_100 : List Cond := Cond.fieldLink RX1 12 "SightedMonths$Court" "frame" "LSightedMonths$Frame;" :: wtGA_101
noncomputable def wtGA_99 : List Cond := Cond.classLink RX1 9 RX3 :: wtGA_100
noncomputable def wtGA_98 : List Cond := Cond.methodLink RX1 3 objectInit :: wtGA_99
noncomputable def wtGA_97 : List Cond := Cond.code yX1_init cX1_init 1 none :: wtGA_98
noncomputable def wtGA_96 : List Cond := Cond.instanceMethod yX1_init :: wtGA_97
noncomputable def wtGA_95 : List Cond := Cond.fieldLink RX3 15 "SightedMonths$Frame" "onward" "[I" :: wtGA_96
noncomputable def wtGA_94 : List Cond := Cond.fieldLink RX3 9 "SightedMonths$Frame" "allowed" "[I" :: wtGA_95
noncomputable def wtGA_93 : List Cond := Cond.methodLink RX3 3 objectInit :: wtGA_94
noncomputable def wtGA_92 : List Cond := Cond.code yX3_init cX3_init 1 none :: wtGA_93
noncomputable def wtGA_91 : List Cond := Cond.instanceMethod yX3_init :: wtGA_92
noncomputable def wtGA_90 : List Cond := Cond.methodLink RX11 18 yX0_init :: wtGA_91
noncomputable def wtGA_89 : List Cond := Cond.methodLink RX2 1 objectInit :: wtGA_90
noncomputable def wtGA_88 : List Cond := Cond.code yX2_init cX2_init 1 none :: wtGA_89
noncomputable def wtGA_87 : List Cond := Cond.instanceMethod yX2_init :: wtGA_88
noncomputable def wtGA_86 : List Cond := Cond.methodLink RX7 1 objectInit :: wtGA_87
noncomputable def wtGA_85 : List Cond := Cond.code yX7_init cX7_init 1 none :: wtGA_86
noncomputable def wtGA_84 : List Cond := Cond.instanceMethod yX7_init :: wtGA_85
noncomputable def wtGA_83 : List Cond := Cond.methodLink RX5 1 objectInit :: wtGA_84
noncomputable def wtGA_82 : List Cond := Cond.code yX5_init cX5_init 1 none :: wtGA_83
noncomputable def wtGA_81 : List Cond := Cond.instanceMethod yX5_init :: wtGA_82
noncomputable def wtGA_80 : List Cond := Cond.initialized RX2 :: wtGA_81
noncomputable def wtGA_79 : List Cond := Cond.instantiable RX2 4 :: wtGA_80
noncomputable def wtGA_78 : List Cond := Cond.initialized RX7 :: wtGA_79
noncomputable def wtGA_77 : List Cond := Cond.instantiable RX7 6 :: wtGA_78
noncomputable def wtGA_76 : List Cond := Cond.initialized RX5 :: wtGA_77
noncomputable def wtGA_75 : List Cond := Cond.instantiable RX5 2 :: wtGA_76
noncomputable def wtGA_74 : List Cond := Cond.fieldLink RX0 25 "SightedMonths$Almanac" "deeds" "[LSightedMonths$Deed;" :: wtGA_75
noncomputable def wtGA_73 : List Cond := Cond.classLink RX0 23 RX2 :: wtGA_74
noncomputable def wtGA_72 : List Cond := Cond.fieldLink RX0 19 "SightedMonths$Almanac" "reports" "[LSightedMonths$Report;" :: wtGA_73
noncomputable def wtGA_71 : List Cond := Cond.classLink RX0 17 RX7 :: wtGA_72
noncomputable def wtGA_70 : List Cond := Cond.fieldLink RX0 11 "SightedMonths$Almanac" "places" "[LSightedMonths$Place;" :: wtGA_71
noncomputable def wtGA_69 : List Cond := Cond.classLink RX0 9 RX5 :: wtGA_70
noncomputable def wtGA_68 : List Cond := Cond.methodLink RX0 3 objectInit :: wtGA_69
noncomputable def wtGA_67 : List Cond := Cond.code yX0_init cX0_init 2 none :: wtGA_68
noncomputable def wtGA_66 : List Cond := Cond.instanceMethod yX0_init :: wtGA_67
noncomputable def wtGA_65 : List Cond := Cond.methodLink RX6 20 yX0_init :: wtGA_66
noncomputable def wtGA_64 : List Cond := Cond.fieldLink RX10 15 "SightedMonths$Tape" "length" "I" :: wtGA_65
noncomputable def wtGA_63 : List Cond := Cond.fieldLink RX10 9 "SightedMonths$Tape" "bytes" "[B" :: wtGA_64
noncomputable def wtGA_62 : List Cond := Cond.methodLink RX10 3 objectInit :: wtGA_63
noncomputable def wtGA_61 : List Cond := Cond.code yX10_init cX10_init 1 none :: wtGA_62
noncomputable def wtGA_60 : List Cond := Cond.instanceMethod yX10_init :: wtGA_61
noncomputable def wtGA_59 : List Cond := Cond.fieldLink RX6 38 "SightedMonths$Reader" "stop" "I" :: wtGA_60
noncomputable def wtGA_58 : List Cond := Cond.fieldLink RX6 35 "SightedMonths$Reader" "start" "I" :: wtGA_59
noncomputable def wtGA_57 : List Cond := Cond.fieldLink RX6 32 "SightedMonths$Reader" "token" "I" :: wtGA_58
noncomputable def wtGA_56 : List Cond := Cond.fieldLink RX6 29 "SightedMonths$Reader" "faultPlace" "I" :: wtGA_57
noncomputable def wtGA_55 : List Cond := Cond.fieldLink RX6 25 "SightedMonths$Reader" "faultKind" "I" :: wtGA_56
noncomputable def wtGA_54 : List Cond := Cond.fieldLink RX6 21 "SightedMonths$Reader" "draft" "LSightedMonths$Almanac;" :: wtGA_55
noncomputable def wtGA_53 : List Cond := Cond.classLink RX6 18 RX0 :: wtGA_54
noncomputable def wtGA_52 : List Cond := Cond.fieldLink RX6 12 "SightedMonths$Reader" "tape" "LSightedMonths$Tape;" :: wtGA_53
noncomputable def wtGA_51 : List Cond := Cond.initialized RX10 :: wtGA_52
noncomputable def wtGA_50 : List Cond := Cond.instantiable RX10 2 :: wtGA_51
noncomputable def wtGA_49 : List Cond := Cond.classLink RX6 9 RX10 :: wtGA_50
noncomputable def wtGA_48 : List Cond := Cond.methodLink RX6 3 objectInit :: wtGA_49
noncomputable def wtGA_47 : List Cond := Cond.code yX6_init cX6_init 1 none :: wtGA_48
noncomputable def wtGA_46 : List Cond := Cond.instanceMethod yX6_init :: wtGA_47
noncomputable def wtGA_45 : List Cond := Cond.fieldLink RX11 86 "SightedMonths" "historyStands" "Z" :: wtGA_46
noncomputable def wtGA_44 : List Cond := Cond.fieldLink RX11 83 "SightedMonths" "tallyStands" "Z" :: wtGA_45
noncomputable def wtGA_43 : List Cond := Cond.fieldLink RX11 80 "SightedMonths" "courtNews" "I" :: wtGA_44
noncomputable def wtGA_42 : List Cond := Cond.fieldLink RX11 76 "SightedMonths" "courtStands" "Z" :: wtGA_43
noncomputable def wtGA_41 : List Cond := Cond.fieldLink RX11 72 "SightedMonths" "outLength" "I" :: wtGA_42
noncomputable def wtGA_40 : List Cond := Cond.fieldLink RX11 68 "SightedMonths" "out" "[B" :: wtGA_41
noncomputable def wtGA_39 : List Cond := Cond.arrayClass .byte :: wtGA_40
noncomputable def wtGA_38 : List Cond := Cond.fieldLink RX11 64 "SightedMonths" "kept" "[I" :: wtGA_39
noncomputable def wtGA_37 : List Cond := Cond.arrayClass .int :: wtGA_38
noncomputable def wtGA_36 : List Cond := Cond.fieldLink RX11 60 "SightedMonths" "history" "LSightedMonths$History;" :: wtGA_37
noncomputable def wtGA_35 : List Cond := Cond.initialized RX4 :: wtGA_36
noncomputable def wtGA_34 : List Cond := Cond.instantiable RX4 3 :: wtGA_35
noncomputable def wtGA_33 : List Cond := Cond.classLink RX11 57 RX4 :: wtGA_34
noncomputable def wtGA_32 : List Cond := Cond.fieldLink RX11 53 "SightedMonths" "search" "LSightedMonths$Search;" :: wtGA_33
noncomputable def wtGA_31 : List Cond := Cond.initialized RX8 :: wtGA_32
noncomputable def wtGA_30 : List Cond := Cond.instantiable RX8 5 :: wtGA_31
noncomputable def wtGA_29 : List Cond := Cond.classLink RX11 50 RX8 :: wtGA_30
noncomputable def wtGA_28 : List Cond := Cond.fieldLink RX11 46 "SightedMonths" "tally" "LSightedMonths$Tally;" :: wtGA_29
noncomputable def wtGA_27 : List Cond := Cond.initialized RX9 :: wtGA_28
noncomputable def wtGA_26 : List Cond := Cond.instantiable RX9 6 :: wtGA_27
noncomputable def wtGA_25 : List Cond := Cond.classLink RX11 43 RX9 :: wtGA_26
noncomputable def wtGA_24 : List Cond := Cond.fieldLink RX11 40 "SightedMonths" "otherCourt" "LSightedMonths$Court;" :: wtGA_25
noncomputable def wtGA_23 : List Cond := Cond.fieldLink RX11 36 "SightedMonths" "court" "LSightedMonths$Court;" :: wtGA_24
noncomputable def wtGA_22 : List Cond := Cond.initialized RX1 :: wtGA_23
noncomputable def wtGA_21 : List Cond := Cond.instantiable RX1 7 :: wtGA_22
noncomputable def wtGA_20 : List Cond := Cond.classLink RX11 33 RX1 :: wtGA_21
noncomputable def wtGA_19 : List Cond := Cond.fieldLink RX11 29 "SightedMonths" "freeFrame" "LSightedMonths$Frame;" :: wtGA_20
noncomputable def wtGA_18 : List Cond := Cond.initialized RX3 :: wtGA_19
noncomputable def wtGA_17 : List Cond := Cond.instantiable RX3 5 :: wtGA_18
noncomputable def wtGA_16 : List Cond := Cond.classLink RX11 26 RX3 :: wtGA_17
noncomputable def wtGA_15 : List Cond := Cond.fieldLink RX11 23 "SightedMonths" "spare" "LSightedMonths$Almanac;" :: wtGA_16
noncomputable def wtGA_14 : List Cond := Cond.fieldLink RX11 19 "SightedMonths" "almanac" "LSightedMonths$Almanac;" :: wtGA_15
noncomputable def wtGA_13 : List Cond := Cond.initialized RX0 :: wtGA_14
noncomputable def wtGA_12 : List Cond := Cond.instantiable RX0 13 :: wtGA_13
noncomputable def wtGA_11 : List Cond := Cond.classLink RX11 16 RX0 :: wtGA_12
noncomputable def wtGA_10 : List Cond := Cond.fieldLink RX11 12 "SightedMonths" "reader" "LSightedMonths$Reader;" :: wtGA_11
noncomputable def wtGA_9 : List Cond := Cond.initialized RX6 :: wtGA_10
noncomputable def wtGA_8 : List Cond := Cond.instantiable RX6 7 :: wtGA_9
noncomputable def wtGA_7 : List Cond := Cond.classLink RX11 9 RX6 :: wtGA_8
noncomputable def wtGA_6 : List Cond := Cond.code objectInit ⟨#[0xb1]⟩ 1 none :: wtGA_7
noncomputable def wtGA_5 : List Cond := Cond.instanceMethod objectInit :: wtGA_6
noncomputable def wtGA_4 : List Cond := Cond.methodLink RX11 3 objectInit :: wtGA_5
noncomputable def wtGA_3 : List Cond := Cond.code yX11_init cX11_init 1 none :: wtGA_4
noncomputable def wtGA_2 : List Cond := Cond.instanceMethod yX11_init :: wtGA_3
noncomputable def wtGA_1 : List Cond := Cond.initialized RX11 :: wtGA_2
noncomputable def wtGA_0 : List Cond := Cond.instantiable RX11 16 :: wtGA_1
noncomputable def wsGA : List Cond := wtGA_0
theorem twGA_0 : ∀ w ∈ wtGA_0, w ∈ wsGA := fun _ h => h
theorem mGA_0 : Cond.instantiable RX11 16 ∈ wsGA := twGA_0 _ (List.mem_cons_self : Cond.instantiable RX11 16 ∈ Cond.instantiable RX11 16 :: wtGA_1)
theorem twGA_1 : ∀ w ∈ wtGA_1, w ∈ wsGA := fun w h => twGA_0 w (List.mem_cons_of_mem (Cond.instantiable RX11 16) h)
theorem mGA_1 : Cond.initialized RX11 ∈ wsGA := twGA_1 _ (List.mem_cons_self : Cond.initialized RX11 ∈ Cond.initialized RX11 :: wtGA_2)
theorem twGA_2 : ∀ w ∈ wtGA_2, w ∈ wsGA := fun w h => twGA_1 w (List.mem_cons_of_mem (Cond.initialized RX11) h)
theorem mGA_2 : Cond.instanceMethod yX11_init ∈ wsGA := twGA_2 _ (List.mem_cons_self : Cond.instanceMethod yX11_init ∈ Cond.instanceMethod yX11_init :: wtGA_3)
theorem twGA_3 : ∀ w ∈ wtGA_3, w ∈ wsGA := fun w h => twGA_2 w (List.mem_cons_of_mem (Cond.instanceMethod yX11_init) h)
theorem mGA_3 : Cond.code yX11_init cX11_init 1 none ∈ wsGA := twGA_3 _ (List.mem_cons_self : Cond.code yX11_init cX11_init 1 none ∈ Cond.code yX11_init cX11_init 1 none :: wtGA_4)
theorem twGA_4 : ∀ w ∈ wtGA_4, w ∈ wsGA := fun w h => twGA_3 w (List.mem_cons_of_mem (Cond.code yX11_init cX11_init 1 none) h)
theorem mGA_4 : Cond.methodLink RX11 3 objectInit ∈ wsGA := twGA_4 _ (List.mem_cons_self : Cond.methodLink RX11 3 objectInit ∈ Cond.methodLink RX11 3 objectInit :: wtGA_5)
theorem twGA_5 : ∀ w ∈ wtGA_5, w ∈ wsGA := fun w h => twGA_4 w (List.mem_cons_of_mem (Cond.methodLink RX11 3 objectInit) h)
theorem mGA_5 : Cond.instanceMethod objectInit ∈ wsGA := twGA_5 _ (List.mem_cons_self : Cond.instanceMethod objectInit ∈ Cond.instanceMethod objectInit :: wtGA_6)
theorem twGA_6 : ∀ w ∈ wtGA_6, w ∈ wsGA := fun w h => twGA_5 w (List.mem_cons_of_mem (Cond.instanceMethod objectInit) h)
theorem mGA_6 : Cond.code objectInit ⟨#[0xb1]⟩ 1 none ∈ wsGA := twGA_6 _ (List.mem_cons_self : Cond.code objectInit ⟨#[0xb1]⟩ 1 none ∈ Cond.code objectInit ⟨#[0xb1]⟩ 1 none :: wtGA_7)
theorem twGA_7 : ∀ w ∈ wtGA_7, w ∈ wsGA := fun w h => twGA_6 w (List.mem_cons_of_mem (Cond.code objectInit ⟨#[0xb1]⟩ 1 none) h)
theorem mGA_7 : Cond.classLink RX11 9 RX6 ∈ wsGA := twGA_7 _ (List.mem_cons_self : Cond.classLink RX11 9 RX6 ∈ Cond.classLink RX11 9 RX6 :: wtGA_8)
theorem twGA_8 : ∀ w ∈ wtGA_8, w ∈ wsGA := fun w h => twGA_7 w (List.mem_cons_of_mem (Cond.classLink RX11 9 RX6) h)
theorem mGA_8 : Cond.instantiable RX6 7 ∈ wsGA := twGA_8 _ (List.mem_cons_self : Cond.instantiable RX6 7 ∈ Cond.instantiable RX6 7 :: wtGA_9)
theorem twGA_9 : ∀ w ∈ wtGA_9, w ∈ wsGA := fun w h => twGA_8 w (List.mem_cons_of_mem (Cond.instantiable RX6 7) h)
theorem mGA_9 : Cond.initialized RX6 ∈ wsGA := twGA_9 _ (List.mem_cons_self : Cond.initialized RX6 ∈ Cond.initialized RX6 :: wtGA_10)
theorem twGA_10 : ∀ w ∈ wtGA_10, w ∈ wsGA := fun w h => twGA_9 w (List.mem_cons_of_mem (Cond.initialized RX6) h)
theorem mGA_10 : Cond.fieldLink RX11 12 "SightedMonths" "reader" "LSightedMonths$Reader;" ∈ wsGA := twGA_10 _ (List.mem_cons_self : Cond.fieldLink RX11 12 "SightedMonths" "reader" "LSightedMonths$Reader;" ∈ Cond.fieldLink RX11 12 "SightedMonths" "reader" "LSightedMonths$Reader;" :: wtGA_11)
theorem twGA_11 : ∀ w ∈ wtGA_11, w ∈ wsGA := fun w h => twGA_10 w (List.mem_cons_of_mem (Cond.fieldLink RX11 12 "SightedMonths" "reader" "LSightedMonths$Reader;") h)
theorem mGA_11 : Cond.classLink RX11 16 RX0 ∈ wsGA := twGA_11 _ (List.mem_cons_self : Cond.classLink RX11 16 RX0 ∈ Cond.classLink RX11 16 RX0 :: wtGA_12)
theorem twGA_12 : ∀ w ∈ wtGA_12, w ∈ wsGA := fun w h => twGA_11 w (List.mem_cons_of_mem (Cond.classLink RX11 16 RX0) h)
theorem mGA_12 : Cond.instantiable RX0 13 ∈ wsGA := twGA_12 _ (List.mem_cons_self : Cond.instantiable RX0 13 ∈ Cond.instantiable RX0 13 :: wtGA_13)
theorem twGA_13 : ∀ w ∈ wtGA_13, w ∈ wsGA := fun w h => twGA_12 w (List.mem_cons_of_mem (Cond.instantiable RX0 13) h)
theorem mGA_13 : Cond.initialized RX0 ∈ wsGA := twGA_13 _ (List.mem_cons_self : Cond.initialized RX0 ∈ Cond.initialized RX0 :: wtGA_14)
theorem twGA_14 : ∀ w ∈ wtGA_14, w ∈ wsGA := fun w h => twGA_13 w (List.mem_cons_of_mem (Cond.initialized RX0) h)
theorem mGA_14 : Cond.fieldLink RX11 19 "SightedMonths" "almanac" "LSightedMonths$Almanac;" ∈ wsGA := twGA_14 _ (List.mem_cons_self : Cond.fieldLink RX11 19 "SightedMonths" "almanac" "LSightedMonths$Almanac;" ∈ Cond.fieldLink RX11 19 "SightedMonths" "almanac" "LSightedMonths$Almanac;" :: wtGA_15)
theorem twGA_15 : ∀ w ∈ wtGA_15, w ∈ wsGA := fun w h => twGA_14 w (List.mem_cons_of_mem (Cond.fieldLink RX11 19 "SightedMonths" "almanac" "LSightedMonths$Almanac;") h)
theorem mGA_15 : Cond.fieldLink RX11 23 "SightedMonths" "spare" "LSightedMonths$Almanac;" ∈ wsGA := twGA_15 _ (List.mem_cons_self : Cond.fieldLink RX11 23 "SightedMonths" "spare" "LSightedMonths$Almanac;" ∈ Cond.fieldLink RX11 23 "SightedMonths" "spare" "LSightedMonths$Almanac;" :: wtGA_16)
theorem twGA_16 : ∀ w ∈ wtGA_16, w ∈ wsGA := fun w h => twGA_15 w (List.mem_cons_of_mem (Cond.fieldLink RX11 23 "SightedMonths" "spare" "LSightedMonths$Almanac;") h)
theorem mGA_16 : Cond.classLink RX11 26 RX3 ∈ wsGA := twGA_16 _ (List.mem_cons_self : Cond.classLink RX11 26 RX3 ∈ Cond.classLink RX11 26 RX3 :: wtGA_17)
theorem twGA_17 : ∀ w ∈ wtGA_17, w ∈ wsGA := fun w h => twGA_16 w (List.mem_cons_of_mem (Cond.classLink RX11 26 RX3) h)
theorem mGA_17 : Cond.instantiable RX3 5 ∈ wsGA := twGA_17 _ (List.mem_cons_self : Cond.instantiable RX3 5 ∈ Cond.instantiable RX3 5 :: wtGA_18)
theorem twGA_18 : ∀ w ∈ wtGA_18, w ∈ wsGA := fun w h => twGA_17 w (List.mem_cons_of_mem (Cond.instantiable RX3 5) h)
theorem mGA_18 : Cond.initialized RX3 ∈ wsGA := twGA_18 _ (List.mem_cons_self : Cond.initialized RX3 ∈ Cond.initialized RX3 :: wtGA_19)
theorem twGA_19 : ∀ w ∈ wtGA_19, w ∈ wsGA := fun w h => twGA_18 w (List.mem_cons_of_mem (Cond.initialized RX3) h)
theorem mGA_19 : Cond.fieldLink RX11 29 "SightedMonths" "freeFrame" "LSightedMonths$Frame;" ∈ wsGA := twGA_19 _ (List.mem_cons_self : Cond.fieldLink RX11 29 "SightedMonths" "freeFrame" "LSightedMonths$Frame;" ∈ Cond.fieldLink RX11 29 "SightedMonths" "freeFrame" "LSightedMonths$Frame;" :: wtGA_20)
theorem twGA_20 : ∀ w ∈ wtGA_20, w ∈ wsGA := fun w h => twGA_19 w (List.mem_cons_of_mem (Cond.fieldLink RX11 29 "SightedMonths" "freeFrame" "LSightedMonths$Frame;") h)
theorem mGA_20 : Cond.classLink RX11 33 RX1 ∈ wsGA := twGA_20 _ (List.mem_cons_self : Cond.classLink RX11 33 RX1 ∈ Cond.classLink RX11 33 RX1 :: wtGA_21)
theorem twGA_21 : ∀ w ∈ wtGA_21, w ∈ wsGA := fun w h => twGA_20 w (List.mem_cons_of_mem (Cond.classLink RX11 33 RX1) h)
theorem mGA_21 : Cond.instantiable RX1 7 ∈ wsGA := twGA_21 _ (List.mem_cons_self : Cond.instantiable RX1 7 ∈ Cond.instantiable RX1 7 :: wtGA_22)
theorem twGA_22 : ∀ w ∈ wtGA_22, w ∈ wsGA := fun w h => twGA_21 w (List.mem_cons_of_mem (Cond.instantiable RX1 7) h)
theorem mGA_22 : Cond.initialized RX1 ∈ wsGA := twGA_22 _ (List.mem_cons_self : Cond.initialized RX1 ∈ Cond.initialized RX1 :: wtGA_23)
theorem twGA_23 : ∀ w ∈ wtGA_23, w ∈ wsGA := fun w h => twGA_22 w (List.mem_cons_of_mem (Cond.initialized RX1) h)
theorem mGA_23 : Cond.fieldLink RX11 36 "SightedMonths" "court" "LSightedMonths$Court;" ∈ wsGA := twGA_23 _ (List.mem_cons_self : Cond.fieldLink RX11 36 "SightedMonths" "court" "LSightedMonths$Court;" ∈ Cond.fieldLink RX11 36 "SightedMonths" "court" "LSightedMonths$Court;" :: wtGA_24)
theorem twGA_24 : ∀ w ∈ wtGA_24, w ∈ wsGA := fun w h => twGA_23 w (List.mem_cons_of_mem (Cond.fieldLink RX11 36 "SightedMonths" "court" "LSightedMonths$Court;") h)
theorem mGA_24 : Cond.fieldLink RX11 40 "SightedMonths" "otherCourt" "LSightedMonths$Court;" ∈ wsGA := twGA_24 _ (List.mem_cons_self : Cond.fieldLink RX11 40 "SightedMonths" "otherCourt" "LSightedMonths$Court;" ∈ Cond.fieldLink RX11 40 "SightedMonths" "otherCourt" "LSightedMonths$Court;" :: wtGA_25)
theorem twGA_25 : ∀ w ∈ wtGA_25, w ∈ wsGA := fun w h => twGA_24 w (List.mem_cons_of_mem (Cond.fieldLink RX11 40 "SightedMonths" "otherCourt" "LSightedMonths$Court;") h)
theorem mGA_25 : Cond.classLink RX11 43 RX9 ∈ wsGA := twGA_25 _ (List.mem_cons_self : Cond.classLink RX11 43 RX9 ∈ Cond.classLink RX11 43 RX9 :: wtGA_26)
theorem twGA_26 : ∀ w ∈ wtGA_26, w ∈ wsGA := fun w h => twGA_25 w (List.mem_cons_of_mem (Cond.classLink RX11 43 RX9) h)
theorem mGA_26 : Cond.instantiable RX9 6 ∈ wsGA := twGA_26 _ (List.mem_cons_self : Cond.instantiable RX9 6 ∈ Cond.instantiable RX9 6 :: wtGA_27)
theorem twGA_27 : ∀ w ∈ wtGA_27, w ∈ wsGA := fun w h => twGA_26 w (List.mem_cons_of_mem (Cond.instantiable RX9 6) h)
theorem mGA_27 : Cond.initialized RX9 ∈ wsGA := twGA_27 _ (List.mem_cons_self : Cond.initialized RX9 ∈ Cond.initialized RX9 :: wtGA_28)
theorem twGA_28 : ∀ w ∈ wtGA_28, w ∈ wsGA := fun w h => twGA_27 w (List.mem_cons_of_mem (Cond.initialized RX9) h)
theorem mGA_28 : Cond.fieldLink RX11 46 "SightedMonths" "tally" "LSightedMonths$Tally;" ∈ wsGA := twGA_28 _ (List.mem_cons_self : Cond.fieldLink RX11 46 "SightedMonths" "tally" "LSightedMonths$Tally;" ∈ Cond.fieldLink RX11 46 "SightedMonths" "tally" "LSightedMonths$Tally;" :: wtGA_29)
theorem twGA_29 : ∀ w ∈ wtGA_29, w ∈ wsGA := fun w h => twGA_28 w (List.mem_cons_of_mem (Cond.fieldLink RX11 46 "SightedMonths" "tally" "LSightedMonths$Tally;") h)
theorem mGA_29 : Cond.classLink RX11 50 RX8 ∈ wsGA := twGA_29 _ (List.mem_cons_self : Cond.classLink RX11 50 RX8 ∈ Cond.classLink RX11 50 RX8 :: wtGA_30)
theorem twGA_30 : ∀ w ∈ wtGA_30, w ∈ wsGA := fun w h => twGA_29 w (List.mem_cons_of_mem (Cond.classLink RX11 50 RX8) h)
theorem mGA_30 : Cond.instantiable RX8 5 ∈ wsGA := twGA_30 _ (List.mem_cons_self : Cond.instantiable RX8 5 ∈ Cond.instantiable RX8 5 :: wtGA_31)
theorem twGA_31 : ∀ w ∈ wtGA_31, w ∈ wsGA := fun w h => twGA_30 w (List.mem_cons_of_mem (Cond.instantiable RX8 5) h)
theorem mGA_31 : Cond.initialized RX8 ∈ wsGA := twGA_31 _ (List.mem_cons_self : Cond.initialized RX8 ∈ Cond.initialized RX8 :: wtGA_32)
theorem twGA_32 : ∀ w ∈ wtGA_32, w ∈ wsGA := fun w h => twGA_31 w (List.mem_cons_of_mem (Cond.initialized RX8) h)
theorem mGA_32 : Cond.fieldLink RX11 53 "SightedMonths" "search" "LSightedMonths$Search;" ∈ wsGA := twGA_32 _ (List.mem_cons_self : Cond.fieldLink RX11 53 "SightedMonths" "search" "LSightedMonths$Search;" ∈ Cond.fieldLink RX11 53 "SightedMonths" "search" "LSightedMonths$Search;" :: wtGA_33)
theorem twGA_33 : ∀ w ∈ wtGA_33, w ∈ wsGA := fun w h => twGA_32 w (List.mem_cons_of_mem (Cond.fieldLink RX11 53 "SightedMonths" "search" "LSightedMonths$Search;") h)
theorem mGA_33 : Cond.classLink RX11 57 RX4 ∈ wsGA := twGA_33 _ (List.mem_cons_self : Cond.classLink RX11 57 RX4 ∈ Cond.classLink RX11 57 RX4 :: wtGA_34)
theorem twGA_34 : ∀ w ∈ wtGA_34, w ∈ wsGA := fun w h => twGA_33 w (List.mem_cons_of_mem (Cond.classLink RX11 57 RX4) h)
theorem mGA_34 : Cond.instantiable RX4 3 ∈ wsGA := twGA_34 _ (List.mem_cons_self : Cond.instantiable RX4 3 ∈ Cond.instantiable RX4 3 :: wtGA_35)
theorem twGA_35 : ∀ w ∈ wtGA_35, w ∈ wsGA := fun w h => twGA_34 w (List.mem_cons_of_mem (Cond.instantiable RX4 3) h)
theorem mGA_35 : Cond.initialized RX4 ∈ wsGA := twGA_35 _ (List.mem_cons_self : Cond.initialized RX4 ∈ Cond.initialized RX4 :: wtGA_36)
theorem twGA_36 : ∀ w ∈ wtGA_36, w ∈ wsGA := fun w h => twGA_35 w (List.mem_cons_of_mem (Cond.initialized RX4) h)
theorem mGA_36 : Cond.fieldLink RX11 60 "SightedMonths" "history" "LSightedMonths$History;" ∈ wsGA := twGA_36 _ (List.mem_cons_self : Cond.fieldLink RX11 60 "SightedMonths" "history" "LSightedMonths$History;" ∈ Cond.fieldLink RX11 60 "SightedMonths" "history" "LSightedMonths$History;" :: wtGA_37)
theorem twGA_37 : ∀ w ∈ wtGA_37, w ∈ wsGA := fun w h => twGA_36 w (List.mem_cons_of_mem (Cond.fieldLink RX11 60 "SightedMonths" "history" "LSightedMonths$History;") h)
theorem mGA_37 : Cond.arrayClass .int ∈ wsGA := twGA_37 _ (List.mem_cons_self : Cond.arrayClass .int ∈ Cond.arrayClass .int :: wtGA_38)
theorem twGA_38 : ∀ w ∈ wtGA_38, w ∈ wsGA := fun w h => twGA_37 w (List.mem_cons_of_mem (Cond.arrayClass .int) h)
theorem mGA_38 : Cond.fieldLink RX11 64 "SightedMonths" "kept" "[I" ∈ wsGA := twGA_38 _ (List.mem_cons_self : Cond.fieldLink RX11 64 "SightedMonths" "kept" "[I" ∈ Cond.fieldLink RX11 64 "SightedMonths" "kept" "[I" :: wtGA_39)
theorem twGA_39 : ∀ w ∈ wtGA_39, w ∈ wsGA := fun w h => twGA_38 w (List.mem_cons_of_mem (Cond.fieldLink RX11 64 "SightedMonths" "kept" "[I") h)
theorem mGA_39 : Cond.arrayClass .byte ∈ wsGA := twGA_39 _ (List.mem_cons_self : Cond.arrayClass .byte ∈ Cond.arrayClass .byte :: wtGA_40)
theorem twGA_40 : ∀ w ∈ wtGA_40, w ∈ wsGA := fun w h => twGA_39 w (List.mem_cons_of_mem (Cond.arrayClass .byte) h)
theorem mGA_40 : Cond.fieldLink RX11 68 "SightedMonths" "out" "[B" ∈ wsGA := twGA_40 _ (List.mem_cons_self : Cond.fieldLink RX11 68 "SightedMonths" "out" "[B" ∈ Cond.fieldLink RX11 68 "SightedMonths" "out" "[B" :: wtGA_41)
theorem twGA_41 : ∀ w ∈ wtGA_41, w ∈ wsGA := fun w h => twGA_40 w (List.mem_cons_of_mem (Cond.fieldLink RX11 68 "SightedMonths" "out" "[B") h)
theorem mGA_41 : Cond.fieldLink RX11 72 "SightedMonths" "outLength" "I" ∈ wsGA := twGA_41 _ (List.mem_cons_self : Cond.fieldLink RX11 72 "SightedMonths" "outLength" "I" ∈ Cond.fieldLink RX11 72 "SightedMonths" "outLength" "I" :: wtGA_42)
theorem twGA_42 : ∀ w ∈ wtGA_42, w ∈ wsGA := fun w h => twGA_41 w (List.mem_cons_of_mem (Cond.fieldLink RX11 72 "SightedMonths" "outLength" "I") h)
theorem mGA_42 : Cond.fieldLink RX11 76 "SightedMonths" "courtStands" "Z" ∈ wsGA := twGA_42 _ (List.mem_cons_self : Cond.fieldLink RX11 76 "SightedMonths" "courtStands" "Z" ∈ Cond.fieldLink RX11 76 "SightedMonths" "courtStands" "Z" :: wtGA_43)
theorem twGA_43 : ∀ w ∈ wtGA_43, w ∈ wsGA := fun w h => twGA_42 w (List.mem_cons_of_mem (Cond.fieldLink RX11 76 "SightedMonths" "courtStands" "Z") h)
theorem mGA_43 : Cond.fieldLink RX11 80 "SightedMonths" "courtNews" "I" ∈ wsGA := twGA_43 _ (List.mem_cons_self : Cond.fieldLink RX11 80 "SightedMonths" "courtNews" "I" ∈ Cond.fieldLink RX11 80 "SightedMonths" "courtNews" "I" :: wtGA_44)
theorem twGA_44 : ∀ w ∈ wtGA_44, w ∈ wsGA := fun w h => twGA_43 w (List.mem_cons_of_mem (Cond.fieldLink RX11 80 "SightedMonths" "courtNews" "I") h)
theorem mGA_44 : Cond.fieldLink RX11 83 "SightedMonths" "tallyStands" "Z" ∈ wsGA := twGA_44 _ (List.mem_cons_self : Cond.fieldLink RX11 83 "SightedMonths" "tallyStands" "Z" ∈ Cond.fieldLink RX11 83 "SightedMonths" "tallyStands" "Z" :: wtGA_45)
theorem twGA_45 : ∀ w ∈ wtGA_45, w ∈ wsGA := fun w h => twGA_44 w (List.mem_cons_of_mem (Cond.fieldLink RX11 83 "SightedMonths" "tallyStands" "Z") h)
theorem mGA_45 : Cond.fieldLink RX11 86 "SightedMonths" "historyStands" "Z" ∈ wsGA := twGA_45 _ (List.mem_cons_self : Cond.fieldLink RX11 86 "SightedMonths" "historyStands" "Z" ∈ Cond.fieldLink RX11 86 "SightedMonths" "historyStands" "Z" :: wtGA_46)
theorem twGA_46 : ∀ w ∈ wtGA_46, w ∈ wsGA := fun w h => twGA_45 w (List.mem_cons_of_mem (Cond.fieldLink RX11 86 "SightedMonths" "historyStands" "Z") h)
theorem mGA_46 : Cond.instanceMethod yX6_init ∈ wsGA := twGA_46 _ (List.mem_cons_self : Cond.instanceMethod yX6_init ∈ Cond.instanceMethod yX6_init :: wtGA_47)
theorem twGA_47 : ∀ w ∈ wtGA_47, w ∈ wsGA := fun w h => twGA_46 w (List.mem_cons_of_mem (Cond.instanceMethod yX6_init) h)
theorem mGA_47 : Cond.code yX6_init cX6_init 1 none ∈ wsGA := twGA_47 _ (List.mem_cons_self : Cond.code yX6_init cX6_init 1 none ∈ Cond.code yX6_init cX6_init 1 none :: wtGA_48)
theorem twGA_48 : ∀ w ∈ wtGA_48, w ∈ wsGA := fun w h => twGA_47 w (List.mem_cons_of_mem (Cond.code yX6_init cX6_init 1 none) h)
theorem mGA_48 : Cond.methodLink RX6 3 objectInit ∈ wsGA := twGA_48 _ (List.mem_cons_self : Cond.methodLink RX6 3 objectInit ∈ Cond.methodLink RX6 3 objectInit :: wtGA_49)
theorem twGA_49 : ∀ w ∈ wtGA_49, w ∈ wsGA := fun w h => twGA_48 w (List.mem_cons_of_mem (Cond.methodLink RX6 3 objectInit) h)
theorem mGA_49 : Cond.classLink RX6 9 RX10 ∈ wsGA := twGA_49 _ (List.mem_cons_self : Cond.classLink RX6 9 RX10 ∈ Cond.classLink RX6 9 RX10 :: wtGA_50)
theorem twGA_50 : ∀ w ∈ wtGA_50, w ∈ wsGA := fun w h => twGA_49 w (List.mem_cons_of_mem (Cond.classLink RX6 9 RX10) h)
theorem mGA_50 : Cond.instantiable RX10 2 ∈ wsGA := twGA_50 _ (List.mem_cons_self : Cond.instantiable RX10 2 ∈ Cond.instantiable RX10 2 :: wtGA_51)
theorem twGA_51 : ∀ w ∈ wtGA_51, w ∈ wsGA := fun w h => twGA_50 w (List.mem_cons_of_mem (Cond.instantiable RX10 2) h)
theorem mGA_51 : Cond.initialized RX10 ∈ wsGA := twGA_51 _ (List.mem_cons_self : Cond.initialized RX10 ∈ Cond.initialized RX10 :: wtGA_52)
theorem twGA_52 : ∀ w ∈ wtGA_52, w ∈ wsGA := fun w h => twGA_51 w (List.mem_cons_of_mem (Cond.initialized RX10) h)
theorem mGA_52 : Cond.fieldLink RX6 12 "SightedMonths$Reader" "tape" "LSightedMonths$Tape;" ∈ wsGA := twGA_52 _ (List.mem_cons_self : Cond.fieldLink RX6 12 "SightedMonths$Reader" "tape" "LSightedMonths$Tape;" ∈ Cond.fieldLink RX6 12 "SightedMonths$Reader" "tape" "LSightedMonths$Tape;" :: wtGA_53)
theorem twGA_53 : ∀ w ∈ wtGA_53, w ∈ wsGA := fun w h => twGA_52 w (List.mem_cons_of_mem (Cond.fieldLink RX6 12 "SightedMonths$Reader" "tape" "LSightedMonths$Tape;") h)
theorem mGA_53 : Cond.classLink RX6 18 RX0 ∈ wsGA := twGA_53 _ (List.mem_cons_self : Cond.classLink RX6 18 RX0 ∈ Cond.classLink RX6 18 RX0 :: wtGA_54)
theorem twGA_54 : ∀ w ∈ wtGA_54, w ∈ wsGA := fun w h => twGA_53 w (List.mem_cons_of_mem (Cond.classLink RX6 18 RX0) h)
theorem mGA_54 : Cond.fieldLink RX6 21 "SightedMonths$Reader" "draft" "LSightedMonths$Almanac;" ∈ wsGA := twGA_54 _ (List.mem_cons_self : Cond.fieldLink RX6 21 "SightedMonths$Reader" "draft" "LSightedMonths$Almanac;" ∈ Cond.fieldLink RX6 21 "SightedMonths$Reader" "draft" "LSightedMonths$Almanac;" :: wtGA_55)
theorem twGA_55 : ∀ w ∈ wtGA_55, w ∈ wsGA := fun w h => twGA_54 w (List.mem_cons_of_mem (Cond.fieldLink RX6 21 "SightedMonths$Reader" "draft" "LSightedMonths$Almanac;") h)
theorem mGA_55 : Cond.fieldLink RX6 25 "SightedMonths$Reader" "faultKind" "I" ∈ wsGA := twGA_55 _ (List.mem_cons_self : Cond.fieldLink RX6 25 "SightedMonths$Reader" "faultKind" "I" ∈ Cond.fieldLink RX6 25 "SightedMonths$Reader" "faultKind" "I" :: wtGA_56)
theorem twGA_56 : ∀ w ∈ wtGA_56, w ∈ wsGA := fun w h => twGA_55 w (List.mem_cons_of_mem (Cond.fieldLink RX6 25 "SightedMonths$Reader" "faultKind" "I") h)
theorem mGA_56 : Cond.fieldLink RX6 29 "SightedMonths$Reader" "faultPlace" "I" ∈ wsGA := twGA_56 _ (List.mem_cons_self : Cond.fieldLink RX6 29 "SightedMonths$Reader" "faultPlace" "I" ∈ Cond.fieldLink RX6 29 "SightedMonths$Reader" "faultPlace" "I" :: wtGA_57)
theorem twGA_57 : ∀ w ∈ wtGA_57, w ∈ wsGA := fun w h => twGA_56 w (List.mem_cons_of_mem (Cond.fieldLink RX6 29 "SightedMonths$Reader" "faultPlace" "I") h)
theorem mGA_57 : Cond.fieldLink RX6 32 "SightedMonths$Reader" "token" "I" ∈ wsGA := twGA_57 _ (List.mem_cons_self : Cond.fieldLink RX6 32 "SightedMonths$Reader" "token" "I" ∈ Cond.fieldLink RX6 32 "SightedMonths$Reader" "token" "I" :: wtGA_58)
theorem twGA_58 : ∀ w ∈ wtGA_58, w ∈ wsGA := fun w h => twGA_57 w (List.mem_cons_of_mem (Cond.fieldLink RX6 32 "SightedMonths$Reader" "token" "I") h)
theorem mGA_58 : Cond.fieldLink RX6 35 "SightedMonths$Reader" "start" "I" ∈ wsGA := twGA_58 _ (List.mem_cons_self : Cond.fieldLink RX6 35 "SightedMonths$Reader" "start" "I" ∈ Cond.fieldLink RX6 35 "SightedMonths$Reader" "start" "I" :: wtGA_59)
theorem twGA_59 : ∀ w ∈ wtGA_59, w ∈ wsGA := fun w h => twGA_58 w (List.mem_cons_of_mem (Cond.fieldLink RX6 35 "SightedMonths$Reader" "start" "I") h)
theorem mGA_59 : Cond.fieldLink RX6 38 "SightedMonths$Reader" "stop" "I" ∈ wsGA := twGA_59 _ (List.mem_cons_self : Cond.fieldLink RX6 38 "SightedMonths$Reader" "stop" "I" ∈ Cond.fieldLink RX6 38 "SightedMonths$Reader" "stop" "I" :: wtGA_60)
theorem twGA_60 : ∀ w ∈ wtGA_60, w ∈ wsGA := fun w h => twGA_59 w (List.mem_cons_of_mem (Cond.fieldLink RX6 38 "SightedMonths$Reader" "stop" "I") h)
theorem mGA_60 : Cond.instanceMethod yX10_init ∈ wsGA := twGA_60 _ (List.mem_cons_self : Cond.instanceMethod yX10_init ∈ Cond.instanceMethod yX10_init :: wtGA_61)
theorem twGA_61 : ∀ w ∈ wtGA_61, w ∈ wsGA := fun w h => twGA_60 w (List.mem_cons_of_mem (Cond.instanceMethod yX10_init) h)
theorem mGA_61 : Cond.code yX10_init cX10_init 1 none ∈ wsGA := twGA_61 _ (List.mem_cons_self : Cond.code yX10_init cX10_init 1 none ∈ Cond.code yX10_init cX10_init 1 none :: wtGA_62)
theorem twGA_62 : ∀ w ∈ wtGA_62, w ∈ wsGA := fun w h => twGA_61 w (List.mem_cons_of_mem (Cond.code yX10_init cX10_init 1 none) h)
theorem mGA_62 : Cond.methodLink RX10 3 objectInit ∈ wsGA := twGA_62 _ (List.mem_cons_self : Cond.methodLink RX10 3 objectInit ∈ Cond.methodLink RX10 3 objectInit :: wtGA_63)
theorem twGA_63 : ∀ w ∈ wtGA_63, w ∈ wsGA := fun w h => twGA_62 w (List.mem_cons_of_mem (Cond.methodLink RX10 3 objectInit) h)
theorem mGA_63 : Cond.fieldLink RX10 9 "SightedMonths$Tape" "bytes" "[B" ∈ wsGA := twGA_63 _ (List.mem_cons_self : Cond.fieldLink RX10 9 "SightedMonths$Tape" "bytes" "[B" ∈ Cond.fieldLink RX10 9 "SightedMonths$Tape" "bytes" "[B" :: wtGA_64)
theorem twGA_64 : ∀ w ∈ wtGA_64, w ∈ wsGA := fun w h => twGA_63 w (List.mem_cons_of_mem (Cond.fieldLink RX10 9 "SightedMonths$Tape" "bytes" "[B") h)
theorem mGA_64 : Cond.fieldLink RX10 15 "SightedMonths$Tape" "length" "I" ∈ wsGA := twGA_64 _ (List.mem_cons_self : Cond.fieldLink RX10 15 "SightedMonths$Tape" "length" "I" ∈ Cond.fieldLink RX10 15 "SightedMonths$Tape" "length" "I" :: wtGA_65)
theorem twGA_65 : ∀ w ∈ wtGA_65, w ∈ wsGA := fun w h => twGA_64 w (List.mem_cons_of_mem (Cond.fieldLink RX10 15 "SightedMonths$Tape" "length" "I") h)
theorem mGA_65 : Cond.methodLink RX6 20 yX0_init ∈ wsGA := twGA_65 _ (List.mem_cons_self : Cond.methodLink RX6 20 yX0_init ∈ Cond.methodLink RX6 20 yX0_init :: wtGA_66)
theorem twGA_66 : ∀ w ∈ wtGA_66, w ∈ wsGA := fun w h => twGA_65 w (List.mem_cons_of_mem (Cond.methodLink RX6 20 yX0_init) h)
theorem mGA_66 : Cond.instanceMethod yX0_init ∈ wsGA := twGA_66 _ (List.mem_cons_self : Cond.instanceMethod yX0_init ∈ Cond.instanceMethod yX0_init :: wtGA_67)
theorem twGA_67 : ∀ w ∈ wtGA_67, w ∈ wsGA := fun w h => twGA_66 w (List.mem_cons_of_mem (Cond.instanceMethod yX0_init) h)
theorem mGA_67 : Cond.code yX0_init cX0_init 2 none ∈ wsGA := twGA_67 _ (List.mem_cons_self : Cond.code yX0_init cX0_init 2 none ∈ Cond.code yX0_init cX0_init 2 none :: wtGA_68)
theorem twGA_68 : ∀ w ∈ wtGA_68, w ∈ wsGA := fun w h => twGA_67 w (List.mem_cons_of_mem (Cond.code yX0_init cX0_init 2 none) h)
theorem mGA_68 : Cond.methodLink RX0 3 objectInit ∈ wsGA := twGA_68 _ (List.mem_cons_self : Cond.methodLink RX0 3 objectInit ∈ Cond.methodLink RX0 3 objectInit :: wtGA_69)
theorem twGA_69 : ∀ w ∈ wtGA_69, w ∈ wsGA := fun w h => twGA_68 w (List.mem_cons_of_mem (Cond.methodLink RX0 3 objectInit) h)
theorem mGA_69 : Cond.classLink RX0 9 RX5 ∈ wsGA := twGA_69 _ (List.mem_cons_self : Cond.classLink RX0 9 RX5 ∈ Cond.classLink RX0 9 RX5 :: wtGA_70)
theorem twGA_70 : ∀ w ∈ wtGA_70, w ∈ wsGA := fun w h => twGA_69 w (List.mem_cons_of_mem (Cond.classLink RX0 9 RX5) h)
theorem mGA_70 : Cond.fieldLink RX0 11 "SightedMonths$Almanac" "places" "[LSightedMonths$Place;" ∈ wsGA := twGA_70 _ (List.mem_cons_self : Cond.fieldLink RX0 11 "SightedMonths$Almanac" "places" "[LSightedMonths$Place;" ∈ Cond.fieldLink RX0 11 "SightedMonths$Almanac" "places" "[LSightedMonths$Place;" :: wtGA_71)
theorem twGA_71 : ∀ w ∈ wtGA_71, w ∈ wsGA := fun w h => twGA_70 w (List.mem_cons_of_mem (Cond.fieldLink RX0 11 "SightedMonths$Almanac" "places" "[LSightedMonths$Place;") h)
theorem mGA_71 : Cond.classLink RX0 17 RX7 ∈ wsGA := twGA_71 _ (List.mem_cons_self : Cond.classLink RX0 17 RX7 ∈ Cond.classLink RX0 17 RX7 :: wtGA_72)
theorem twGA_72 : ∀ w ∈ wtGA_72, w ∈ wsGA := fun w h => twGA_71 w (List.mem_cons_of_mem (Cond.classLink RX0 17 RX7) h)
theorem mGA_72 : Cond.fieldLink RX0 19 "SightedMonths$Almanac" "reports" "[LSightedMonths$Report;" ∈ wsGA := twGA_72 _ (List.mem_cons_self : Cond.fieldLink RX0 19 "SightedMonths$Almanac" "reports" "[LSightedMonths$Report;" ∈ Cond.fieldLink RX0 19 "SightedMonths$Almanac" "reports" "[LSightedMonths$Report;" :: wtGA_73)
theorem twGA_73 : ∀ w ∈ wtGA_73, w ∈ wsGA := fun w h => twGA_72 w (List.mem_cons_of_mem (Cond.fieldLink RX0 19 "SightedMonths$Almanac" "reports" "[LSightedMonths$Report;") h)
theorem mGA_73 : Cond.classLink RX0 23 RX2 ∈ wsGA := twGA_73 _ (List.mem_cons_self : Cond.classLink RX0 23 RX2 ∈ Cond.classLink RX0 23 RX2 :: wtGA_74)
theorem twGA_74 : ∀ w ∈ wtGA_74, w ∈ wsGA := fun w h => twGA_73 w (List.mem_cons_of_mem (Cond.classLink RX0 23 RX2) h)
theorem mGA_74 : Cond.fieldLink RX0 25 "SightedMonths$Almanac" "deeds" "[LSightedMonths$Deed;" ∈ wsGA := twGA_74 _ (List.mem_cons_self : Cond.fieldLink RX0 25 "SightedMonths$Almanac" "deeds" "[LSightedMonths$Deed;" ∈ Cond.fieldLink RX0 25 "SightedMonths$Almanac" "deeds" "[LSightedMonths$Deed;" :: wtGA_75)
theorem twGA_75 : ∀ w ∈ wtGA_75, w ∈ wsGA := fun w h => twGA_74 w (List.mem_cons_of_mem (Cond.fieldLink RX0 25 "SightedMonths$Almanac" "deeds" "[LSightedMonths$Deed;") h)
theorem mGA_75 : Cond.instantiable RX5 2 ∈ wsGA := twGA_75 _ (List.mem_cons_self : Cond.instantiable RX5 2 ∈ Cond.instantiable RX5 2 :: wtGA_76)
theorem twGA_76 : ∀ w ∈ wtGA_76, w ∈ wsGA := fun w h => twGA_75 w (List.mem_cons_of_mem (Cond.instantiable RX5 2) h)
theorem mGA_76 : Cond.initialized RX5 ∈ wsGA := twGA_76 _ (List.mem_cons_self : Cond.initialized RX5 ∈ Cond.initialized RX5 :: wtGA_77)
theorem twGA_77 : ∀ w ∈ wtGA_77, w ∈ wsGA := fun w h => twGA_76 w (List.mem_cons_of_mem (Cond.initialized RX5) h)
theorem mGA_77 : Cond.instantiable RX7 6 ∈ wsGA := twGA_77 _ (List.mem_cons_self : Cond.instantiable RX7 6 ∈ Cond.instantiable RX7 6 :: wtGA_78)
theorem twGA_78 : ∀ w ∈ wtGA_78, w ∈ wsGA := fun w h => twGA_77 w (List.mem_cons_of_mem (Cond.instantiable RX7 6) h)
theorem mGA_78 : Cond.initialized RX7 ∈ wsGA := twGA_78 _ (List.mem_cons_self : Cond.initialized RX7 ∈ Cond.initialized RX7 :: wtGA_79)
theorem twGA_79 : ∀ w ∈ wtGA_79, w ∈ wsGA := fun w h => twGA_78 w (List.mem_cons_of_mem (Cond.initialized RX7) h)
theorem mGA_79 : Cond.instantiable RX2 4 ∈ wsGA := twGA_79 _ (List.mem_cons_self : Cond.instantiable RX2 4 ∈ Cond.instantiable RX2 4 :: wtGA_80)
theorem twGA_80 : ∀ w ∈ wtGA_80, w ∈ wsGA := fun w h => twGA_79 w (List.mem_cons_of_mem (Cond.instantiable RX2 4) h)
theorem mGA_80 : Cond.initialized RX2 ∈ wsGA := twGA_80 _ (List.mem_cons_self : Cond.initialized RX2 ∈ Cond.initialized RX2 :: wtGA_81)
theorem twGA_81 : ∀ w ∈ wtGA_81, w ∈ wsGA := fun w h => twGA_80 w (List.mem_cons_of_mem (Cond.initialized RX2) h)
theorem mGA_81 : Cond.instanceMethod yX5_init ∈ wsGA := twGA_81 _ (List.mem_cons_self : Cond.instanceMethod yX5_init ∈ Cond.instanceMethod yX5_init :: wtGA_82)
theorem twGA_82 : ∀ w ∈ wtGA_82, w ∈ wsGA := fun w h => twGA_81 w (List.mem_cons_of_mem (Cond.instanceMethod yX5_init) h)
theorem mGA_82 : Cond.code yX5_init cX5_init 1 none ∈ wsGA := twGA_82 _ (List.mem_cons_self : Cond.code yX5_init cX5_init 1 none ∈ Cond.code yX5_init cX5_init 1 none :: wtGA_83)
theorem twGA_83 : ∀ w ∈ wtGA_83, w ∈ wsGA := fun w h => twGA_82 w (List.mem_cons_of_mem (Cond.code yX5_init cX5_init 1 none) h)
theorem mGA_83 : Cond.methodLink RX5 1 objectInit ∈ wsGA := twGA_83 _ (List.mem_cons_self : Cond.methodLink RX5 1 objectInit ∈ Cond.methodLink RX5 1 objectInit :: wtGA_84)
theorem twGA_84 : ∀ w ∈ wtGA_84, w ∈ wsGA := fun w h => twGA_83 w (List.mem_cons_of_mem (Cond.methodLink RX5 1 objectInit) h)
theorem mGA_84 : Cond.instanceMethod yX7_init ∈ wsGA := twGA_84 _ (List.mem_cons_self : Cond.instanceMethod yX7_init ∈ Cond.instanceMethod yX7_init :: wtGA_85)
theorem twGA_85 : ∀ w ∈ wtGA_85, w ∈ wsGA := fun w h => twGA_84 w (List.mem_cons_of_mem (Cond.instanceMethod yX7_init) h)
theorem mGA_85 : Cond.code yX7_init cX7_init 1 none ∈ wsGA := twGA_85 _ (List.mem_cons_self : Cond.code yX7_init cX7_init 1 none ∈ Cond.code yX7_init cX7_init 1 none :: wtGA_86)
theorem twGA_86 : ∀ w ∈ wtGA_86, w ∈ wsGA := fun w h => twGA_85 w (List.mem_cons_of_mem (Cond.code yX7_init cX7_init 1 none) h)
theorem mGA_86 : Cond.methodLink RX7 1 objectInit ∈ wsGA := twGA_86 _ (List.mem_cons_self : Cond.methodLink RX7 1 objectInit ∈ Cond.methodLink RX7 1 objectInit :: wtGA_87)
theorem twGA_87 : ∀ w ∈ wtGA_87, w ∈ wsGA := fun w h => twGA_86 w (List.mem_cons_of_mem (Cond.methodLink RX7 1 objectInit) h)
theorem mGA_87 : Cond.instanceMethod yX2_init ∈ wsGA := twGA_87 _ (List.mem_cons_self : Cond.instanceMethod yX2_init ∈ Cond.instanceMethod yX2_init :: wtGA_88)
theorem twGA_88 : ∀ w ∈ wtGA_88, w ∈ wsGA := fun w h => twGA_87 w (List.mem_cons_of_mem (Cond.instanceMethod yX2_init) h)
theorem mGA_88 : Cond.code yX2_init cX2_init 1 none ∈ wsGA := twGA_88 _ (List.mem_cons_self : Cond.code yX2_init cX2_init 1 none ∈ Cond.code yX2_init cX2_init 1 none :: wtGA_89)
theorem twGA_89 : ∀ w ∈ wtGA_89, w ∈ wsGA := fun w h => twGA_88 w (List.mem_cons_of_mem (Cond.code yX2_init cX2_init 1 none) h)
theorem mGA_89 : Cond.methodLink RX2 1 objectInit ∈ wsGA := twGA_89 _ (List.mem_cons_self : Cond.methodLink RX2 1 objectInit ∈ Cond.methodLink RX2 1 objectInit :: wtGA_90)
theorem twGA_90 : ∀ w ∈ wtGA_90, w ∈ wsGA := fun w h => twGA_89 w (List.mem_cons_of_mem (Cond.methodLink RX2 1 objectInit) h)
theorem mGA_90 : Cond.methodLink RX11 18 yX0_init ∈ wsGA := twGA_90 _ (List.mem_cons_self : Cond.methodLink RX11 18 yX0_init ∈ Cond.methodLink RX11 18 yX0_init :: wtGA_91)
theorem twGA_91 : ∀ w ∈ wtGA_91, w ∈ wsGA := fun w h => twGA_90 w (List.mem_cons_of_mem (Cond.methodLink RX11 18 yX0_init) h)
theorem mGA_91 : Cond.instanceMethod yX3_init ∈ wsGA := twGA_91 _ (List.mem_cons_self : Cond.instanceMethod yX3_init ∈ Cond.instanceMethod yX3_init :: wtGA_92)
theorem twGA_92 : ∀ w ∈ wtGA_92, w ∈ wsGA := fun w h => twGA_91 w (List.mem_cons_of_mem (Cond.instanceMethod yX3_init) h)
theorem mGA_92 : Cond.code yX3_init cX3_init 1 none ∈ wsGA := twGA_92 _ (List.mem_cons_self : Cond.code yX3_init cX3_init 1 none ∈ Cond.code yX3_init cX3_init 1 none :: wtGA_93)
theorem twGA_93 : ∀ w ∈ wtGA_93, w ∈ wsGA := fun w h => twGA_92 w (List.mem_cons_of_mem (Cond.code yX3_init cX3_init 1 none) h)
theorem mGA_93 : Cond.methodLink RX3 3 objectInit ∈ wsGA := twGA_93 _ (List.mem_cons_self : Cond.methodLink RX3 3 objectInit ∈ Cond.methodLink RX3 3 objectInit :: wtGA_94)
theorem twGA_94 : ∀ w ∈ wtGA_94, w ∈ wsGA := fun w h => twGA_93 w (List.mem_cons_of_mem (Cond.methodLink RX3 3 objectInit) h)
theorem mGA_94 : Cond.fieldLink RX3 9 "SightedMonths$Frame" "allowed" "[I" ∈ wsGA := twGA_94 _ (List.mem_cons_self : Cond.fieldLink RX3 9 "SightedMonths$Frame" "allowed" "[I" ∈ Cond.fieldLink RX3 9 "SightedMonths$Frame" "allowed" "[I" :: wtGA_95)
theorem twGA_95 : ∀ w ∈ wtGA_95, w ∈ wsGA := fun w h => twGA_94 w (List.mem_cons_of_mem (Cond.fieldLink RX3 9 "SightedMonths$Frame" "allowed" "[I") h)
theorem mGA_95 : Cond.fieldLink RX3 15 "SightedMonths$Frame" "onward" "[I" ∈ wsGA := twGA_95 _ (List.mem_cons_self : Cond.fieldLink RX3 15 "SightedMonths$Frame" "onward" "[I" ∈ Cond.fieldLink RX3 15 "SightedMonths$Frame" "onward" "[I" :: wtGA_96)
theorem twGA_96 : ∀ w ∈ wtGA_96, w ∈ wsGA := fun w h => twGA_95 w (List.mem_cons_of_mem (Cond.fieldLink RX3 15 "SightedMonths$Frame" "onward" "[I") h)
theorem mGA_96 : Cond.instanceMethod yX1_init ∈ wsGA := twGA_96 _ (List.mem_cons_self : Cond.instanceMethod yX1_init ∈ Cond.instanceMethod yX1_init :: wtGA_97)
theorem twGA_97 : ∀ w ∈ wtGA_97, w ∈ wsGA := fun w h => twGA_96 w (List.mem_cons_of_mem (Cond.instanceMethod yX1_init) h)
theorem mGA_97 : Cond.code yX1_init cX1_init 1 none ∈ wsGA := twGA_97 _ (List.mem_cons_self : Cond.code yX1_init cX1_init 1 none ∈ Cond.code yX1_init cX1_init 1 none :: wtGA_98)
theorem twGA_98 : ∀ w ∈ wtGA_98, w ∈ wsGA := fun w h => twGA_97 w (List.mem_cons_of_mem (Cond.code yX1_init cX1_init 1 none) h)
theorem mGA_98 : Cond.methodLink RX1 3 objectInit ∈ wsGA := twGA_98 _ (List.mem_cons_self : Cond.methodLink RX1 3 objectInit ∈ Cond.methodLink RX1 3 objectInit :: wtGA_99)
theorem twGA_99 : ∀ w ∈ wtGA_99, w ∈ wsGA := fun w h => twGA_98 w (List.mem_cons_of_mem (Cond.methodLink RX1 3 objectInit) h)
theorem mGA_99 : Cond.classLink RX1 9 RX3 ∈ wsGA := twGA_99 _ (List.mem_cons_self : Cond.classLink RX1 9 RX3 ∈ Cond.classLink RX1 9 RX3 :: wtGA_100)
theorem twGA_100 : ∀ w ∈ wtGA_100, w ∈ wsGA := fun w h => twGA_99 w (List.mem_cons_of_mem (Cond.classLink RX1 9 RX3) h)
theorem mGA_100 : Cond.fieldLink RX1 12 "SightedMonths$Court" "frame" "LSightedMonths$Frame;" ∈ wsGA := twGA_100 _ (List.mem_cons_self : Cond.fieldLink RX1 12 "SightedMonths$Court" "frame" "LSightedMonths$Frame;" ∈ Cond.fieldLink RX1 12 "SightedMonths$Court" "frame" "LSightedMonths$Frame;" :: wtGA_101)
theorem twGA_101 : ∀ w ∈ wtGA_101, w ∈ wsGA := fun w h => twGA_100 w (List.mem_cons_of_mem (Cond.fieldLink RX1 12 "SightedMonths$Court" "frame" "LSightedMonths$Frame;") h)
theorem mGA_101 : Cond.fieldLink RX1 18 "SightedMonths$Court" "verdicts" "[I" ∈ wsGA := twGA_101 _ (List.mem_cons_self : Cond.fieldLink RX1 18 "SightedMonths$Court" "verdicts" "[I" ∈ Cond.fieldLink RX1 18 "SightedMonths$Court" "verdicts" "[I" :: wtGA_102)
theorem twGA_102 : ∀ w ∈ wtGA_102, w ∈ wsGA := fun w h => twGA_101 w (List.mem_cons_of_mem (Cond.fieldLink RX1 18 "SightedMonths$Court" "verdicts" "[I") h)
theorem mGA_102 : Cond.fieldLink RX1 22 "SightedMonths$Court" "queue" "[I" ∈ wsGA := twGA_102 _ (List.mem_cons_self : Cond.fieldLink RX1 22 "SightedMonths$Court" "queue" "[I" ∈ Cond.fieldLink RX1 22 "SightedMonths$Court" "queue" "[I" :: wtGA_103)
theorem twGA_103 : ∀ w ∈ wtGA_103, w ∈ wsGA := fun w h => twGA_102 w (List.mem_cons_of_mem (Cond.fieldLink RX1 22 "SightedMonths$Court" "queue" "[I") h)
theorem mGA_103 : Cond.arrayClass .long ∈ wsGA := twGA_103 _ (List.mem_cons_self : Cond.arrayClass .long ∈ Cond.arrayClass .long :: wtGA_104)
theorem twGA_104 : ∀ w ∈ wtGA_104, w ∈ wsGA := fun w h => twGA_103 w (List.mem_cons_of_mem (Cond.arrayClass .long) h)
theorem mGA_104 : Cond.fieldLink RX1 25 "SightedMonths$Court" "turns" "[J" ∈ wsGA := twGA_104 _ (List.mem_cons_self : Cond.fieldLink RX1 25 "SightedMonths$Court" "turns" "[J" ∈ Cond.fieldLink RX1 25 "SightedMonths$Court" "turns" "[J" :: wtGA_105)
theorem twGA_105 : ∀ w ∈ wtGA_105, w ∈ wsGA := fun w h => twGA_104 w (List.mem_cons_of_mem (Cond.fieldLink RX1 25 "SightedMonths$Court" "turns" "[J") h)
theorem mGA_105 : Cond.fieldLink RX1 29 "SightedMonths$Court" "begins" "[I" ∈ wsGA := twGA_105 _ (List.mem_cons_self : Cond.fieldLink RX1 29 "SightedMonths$Court" "begins" "[I" ∈ Cond.fieldLink RX1 29 "SightedMonths$Court" "begins" "[I" :: wtGA_106)
theorem twGA_106 : ∀ w ∈ wtGA_106, w ∈ wsGA := fun w h => twGA_105 w (List.mem_cons_of_mem (Cond.fieldLink RX1 29 "SightedMonths$Court" "begins" "[I") h)
theorem mGA_106 : Cond.fieldLink RX1 32 "SightedMonths$Court" "queueLength" "I" ∈ wsGA := twGA_106 _ (List.mem_cons_self : Cond.fieldLink RX1 32 "SightedMonths$Court" "queueLength" "I" ∈ Cond.fieldLink RX1 32 "SightedMonths$Court" "queueLength" "I" :: wtGA_107)
theorem twGA_107 : ∀ w ∈ wtGA_107, w ∈ wsGA := fun w h => twGA_106 w (List.mem_cons_of_mem (Cond.fieldLink RX1 32 "SightedMonths$Court" "queueLength" "I") h)
theorem mGA_107 : Cond.fieldLink RX1 36 "SightedMonths$Court" "takenBits" "I" ∈ wsGA := twGA_107 _ (List.mem_cons_self : Cond.fieldLink RX1 36 "SightedMonths$Court" "takenBits" "I" ∈ Cond.fieldLink RX1 36 "SightedMonths$Court" "takenBits" "I" :: wtGA_108)
theorem twGA_108 : ∀ w ∈ wtGA_108, w ∈ wsGA := fun w h => twGA_107 w (List.mem_cons_of_mem (Cond.fieldLink RX1 36 "SightedMonths$Court" "takenBits" "I") h)
theorem mGA_108 : Cond.instanceMethod yX9_init ∈ wsGA := twGA_108 _ (List.mem_cons_self : Cond.instanceMethod yX9_init ∈ Cond.instanceMethod yX9_init :: wtGA_109)
theorem twGA_109 : ∀ w ∈ wtGA_109, w ∈ wsGA := fun w h => twGA_108 w (List.mem_cons_of_mem (Cond.instanceMethod yX9_init) h)
theorem mGA_109 : Cond.code yX9_init cX9_init 1 none ∈ wsGA := twGA_109 _ (List.mem_cons_self : Cond.code yX9_init cX9_init 1 none ∈ Cond.code yX9_init cX9_init 1 none :: wtGA_110)
theorem twGA_110 : ∀ w ∈ wtGA_110, w ∈ wsGA := fun w h => twGA_109 w (List.mem_cons_of_mem (Cond.code yX9_init cX9_init 1 none) h)
theorem mGA_110 : Cond.methodLink RX9 3 objectInit ∈ wsGA := twGA_110 _ (List.mem_cons_self : Cond.methodLink RX9 3 objectInit ∈ Cond.methodLink RX9 3 objectInit :: wtGA_111)
theorem twGA_111 : ∀ w ∈ wtGA_111, w ∈ wsGA := fun w h => twGA_110 w (List.mem_cons_of_mem (Cond.methodLink RX9 3 objectInit) h)
theorem mGA_111 : Cond.fieldLink RX9 9 "SightedMonths$Tally" "before" "[I" ∈ wsGA := twGA_111 _ (List.mem_cons_self : Cond.fieldLink RX9 9 "SightedMonths$Tally" "before" "[I" ∈ Cond.fieldLink RX9 9 "SightedMonths$Tally" "before" "[I" :: wtGA_112)
theorem twGA_112 : ∀ w ∈ wtGA_112, w ∈ wsGA := fun w h => twGA_111 w (List.mem_cons_of_mem (Cond.fieldLink RX9 9 "SightedMonths$Tally" "before" "[I") h)
theorem mGA_112 : Cond.fieldLink RX9 15 "SightedMonths$Tally" "behind" "[I" ∈ wsGA := twGA_112 _ (List.mem_cons_self : Cond.fieldLink RX9 15 "SightedMonths$Tally" "behind" "[I" ∈ Cond.fieldLink RX9 15 "SightedMonths$Tally" "behind" "[I" :: wtGA_113)
theorem twGA_113 : ∀ w ∈ wtGA_113, w ∈ wsGA := fun w h => twGA_112 w (List.mem_cons_of_mem (Cond.fieldLink RX9 15 "SightedMonths$Tally" "behind" "[I") h)
theorem mGA_113 : Cond.fieldLink RX9 18 "SightedMonths$Tally" "starts" "[I" ∈ wsGA := twGA_113 _ (List.mem_cons_self : Cond.fieldLink RX9 18 "SightedMonths$Tally" "starts" "[I" ∈ Cond.fieldLink RX9 18 "SightedMonths$Tally" "starts" "[I" :: wtGA_114)
theorem twGA_114 : ∀ w ∈ wtGA_114, w ∈ wsGA := fun w h => twGA_113 w (List.mem_cons_of_mem (Cond.fieldLink RX9 18 "SightedMonths$Tally" "starts" "[I") h)
theorem mGA_114 : Cond.instanceMethod yX8_init ∈ wsGA := twGA_114 _ (List.mem_cons_self : Cond.instanceMethod yX8_init ∈ Cond.instanceMethod yX8_init :: wtGA_115)
theorem twGA_115 : ∀ w ∈ wtGA_115, w ∈ wsGA := fun w h => twGA_114 w (List.mem_cons_of_mem (Cond.instanceMethod yX8_init) h)
theorem mGA_115 : Cond.code yX8_init cX8_init 1 none ∈ wsGA := twGA_115 _ (List.mem_cons_self : Cond.code yX8_init cX8_init 1 none ∈ Cond.code yX8_init cX8_init 1 none :: wtGA_116)
theorem twGA_116 : ∀ w ∈ wtGA_116, w ∈ wsGA := fun w h => twGA_115 w (List.mem_cons_of_mem (Cond.code yX8_init cX8_init 1 none) h)
theorem mGA_116 : Cond.methodLink RX8 3 objectInit ∈ wsGA := twGA_116 _ (List.mem_cons_self : Cond.methodLink RX8 3 objectInit ∈ Cond.methodLink RX8 3 objectInit :: wtGA_117)
theorem twGA_117 : ∀ w ∈ wtGA_117, w ∈ wsGA := fun w h => twGA_116 w (List.mem_cons_of_mem (Cond.methodLink RX8 3 objectInit) h)
theorem mGA_117 : Cond.fieldLink RX8 9 "SightedMonths$Search" "costs" "[I" ∈ wsGA := twGA_117 _ (List.mem_cons_self : Cond.fieldLink RX8 9 "SightedMonths$Search" "costs" "[I" ∈ Cond.fieldLink RX8 9 "SightedMonths$Search" "costs" "[I" :: wtGA_118)
theorem twGA_118 : ∀ w ∈ wtGA_118, w ∈ wsGA := fun w h => twGA_117 w (List.mem_cons_of_mem (Cond.fieldLink RX8 9 "SightedMonths$Search" "costs" "[I") h)
theorem mGA_118 : Cond.fieldLink RX8 15 "SightedMonths$Search" "leasts" "[I" ∈ wsGA := twGA_118 _ (List.mem_cons_self : Cond.fieldLink RX8 15 "SightedMonths$Search" "leasts" "[I" ∈ Cond.fieldLink RX8 15 "SightedMonths$Search" "leasts" "[I" :: wtGA_119)
theorem twGA_119 : ∀ w ∈ wtGA_119, w ∈ wsGA := fun w h => twGA_118 w (List.mem_cons_of_mem (Cond.fieldLink RX8 15 "SightedMonths$Search" "leasts" "[I") h)
theorem mGA_119 : Cond.instanceMethod yX4_init ∈ wsGA := twGA_119 _ (List.mem_cons_self : Cond.instanceMethod yX4_init ∈ Cond.instanceMethod yX4_init :: wtGA_120)
theorem twGA_120 : ∀ w ∈ wtGA_120, w ∈ wsGA := fun w h => twGA_119 w (List.mem_cons_of_mem (Cond.instanceMethod yX4_init) h)
theorem mGA_120 : Cond.code yX4_init cX4_init 1 none ∈ wsGA := twGA_120 _ (List.mem_cons_self : Cond.code yX4_init cX4_init 1 none ∈ Cond.code yX4_init cX4_init 1 none :: wtGA_121)
theorem twGA_121 : ∀ w ∈ wtGA_121, w ∈ wsGA := fun w h => twGA_120 w (List.mem_cons_of_mem (Cond.code yX4_init cX4_init 1 none) h)
theorem mGA_121 : Cond.methodLink RX4 3 objectInit ∈ wsGA := twGA_121 _ (List.mem_cons_self : Cond.methodLink RX4 3 objectInit ∈ Cond.methodLink RX4 3 objectInit :: wtGA_122)
theorem twGA_122 : ∀ w ∈ wtGA_122, w ∈ wsGA := fun w h => twGA_121 w (List.mem_cons_of_mem (Cond.methodLink RX4 3 objectInit) h)
theorem mGA_122 : Cond.fieldLink RX4 11 "SightedMonths$History" "since" "[I" ∈ wsGA := twGA_122 _ (List.mem_cons_self : Cond.fieldLink RX4 11 "SightedMonths$History" "since" "[I" ∈ Cond.fieldLink RX4 11 "SightedMonths$History" "since" "[I" :: wtGA_123)
theorem twGA_123 : ∀ w ∈ wtGA_123, w ∈ wsGA := fun w h => twGA_122 w (List.mem_cons_of_mem (Cond.fieldLink RX4 11 "SightedMonths$History" "since" "[I") h)
theorem mGA_123 : Cond.fieldLink RX4 15 "SightedMonths$History" "begins" "[I" ∈ wsGA := twGA_123 _ (List.mem_cons_self : Cond.fieldLink RX4 15 "SightedMonths$History" "begins" "[I" ∈ Cond.fieldLink RX4 15 "SightedMonths$History" "begins" "[I" :: wtGA_124)
theorem twGA_124 : ∀ w ∈ wtGA_124, w ∈ wsGA := fun w h => twGA_123 w (List.mem_cons_of_mem (Cond.fieldLink RX4 15 "SightedMonths$History" "begins" "[I") h)
theorem mGA_124 : Cond.fieldLink RX4 18 "SightedMonths$History" "eras" "I" ∈ wsGA := twGA_124 _ (List.mem_cons_self : Cond.fieldLink RX4 18 "SightedMonths$History" "eras" "I" ∈ Cond.fieldLink RX4 18 "SightedMonths$History" "eras" "I" :: wtGA_125)
theorem twGA_125 : ∀ w ∈ wtGA_125, w ∈ wsGA := fun w h => twGA_124 w (List.mem_cons_of_mem (Cond.fieldLink RX4 18 "SightedMonths$History" "eras" "I") h)
theorem mGA_125 : Cond.arrayClass .boolean ∈ wsGA := twGA_125 _ (List.mem_cons_self : Cond.arrayClass .boolean ∈ Cond.arrayClass .boolean :: wtGA_126)
theorem twGA_126 : ∀ w ∈ wtGA_126, w ∈ wsGA := fun w h => twGA_125 w (List.mem_cons_of_mem (Cond.arrayClass .boolean) h)
theorem mGA_126 : Cond.instanceMethod yX11_feed ∈ wsGA := twGA_126 _ (List.mem_cons_self : Cond.instanceMethod yX11_feed ∈ Cond.instanceMethod yX11_feed :: wtGA_127)
theorem twGA_127 : ∀ w ∈ wtGA_127, w ∈ wsGA := fun w h => twGA_126 w (List.mem_cons_of_mem (Cond.instanceMethod yX11_feed) h)
theorem mGA_127 : Cond.selects RX11 yX11_feed yX11_feed ∈ wsGA := twGA_127 _ (List.mem_cons_self : Cond.selects RX11 yX11_feed yX11_feed ∈ Cond.selects RX11 yX11_feed yX11_feed :: wtGA_128)
theorem twGA_128 : ∀ w ∈ wtGA_128, w ∈ wsGA := fun w h => twGA_127 w (List.mem_cons_of_mem (Cond.selects RX11 yX11_feed yX11_feed) h)
theorem mGA_128 : Cond.code yX11_feed cX11_feed 7 (some .int) ∈ wsGA := twGA_128 _ (List.mem_cons_self : Cond.code yX11_feed cX11_feed 7 (some .int) ∈ Cond.code yX11_feed cX11_feed 7 (some .int) :: wtGA_129)
theorem twGA_129 : ∀ w ∈ wtGA_129, w ∈ wsGA := fun w h => twGA_128 w (List.mem_cons_of_mem (Cond.code yX11_feed cX11_feed 7 (some .int)) h)
theorem mGA_129 : Cond.fieldLink RX11 89 "SightedMonths$Reader" "tape" "LSightedMonths$Tape;" ∈ wsGA := twGA_129 _ (List.mem_cons_self : Cond.fieldLink RX11 89 "SightedMonths$Reader" "tape" "LSightedMonths$Tape;" ∈ Cond.fieldLink RX11 89 "SightedMonths$Reader" "tape" "LSightedMonths$Tape;" :: wtGA_130)
theorem twGA_130 : ∀ w ∈ wtGA_130, w ∈ wsGA := fun w h => twGA_129 w (List.mem_cons_of_mem (Cond.fieldLink RX11 89 "SightedMonths$Reader" "tape" "LSightedMonths$Tape;") h)
theorem mGA_130 : Cond.fieldLink RX11 93 "SightedMonths$Tape" "length" "I" ∈ wsGA := twGA_130 _ (List.mem_cons_self : Cond.fieldLink RX11 93 "SightedMonths$Tape" "length" "I" ∈ Cond.fieldLink RX11 93 "SightedMonths$Tape" "length" "I" :: wtGA_131)
theorem twGA_131 : ∀ w ∈ wtGA_131, w ∈ wsGA := fun w h => twGA_130 w (List.mem_cons_of_mem (Cond.fieldLink RX11 93 "SightedMonths$Tape" "length" "I") h)
theorem mGA_131 : Cond.methodLink RX11 98 yX10_put ∈ wsGA := twGA_131 _ (List.mem_cons_self : Cond.methodLink RX11 98 yX10_put ∈ Cond.methodLink RX11 98 yX10_put :: wtGA_132)
theorem twGA_132 : ∀ w ∈ wtGA_132, w ∈ wsGA := fun w h => twGA_131 w (List.mem_cons_of_mem (Cond.methodLink RX11 98 yX10_put) h)
theorem mGA_132 : Cond.instanceMethod yX10_put ∈ wsGA := twGA_132 _ (List.mem_cons_self : Cond.instanceMethod yX10_put ∈ Cond.instanceMethod yX10_put :: wtGA_133)
theorem twGA_133 : ∀ w ∈ wtGA_133, w ∈ wsGA := fun w h => twGA_132 w (List.mem_cons_of_mem (Cond.instanceMethod yX10_put) h)
theorem mGA_133 : Cond.selects RX10 yX10_put yX10_put ∈ wsGA := twGA_133 _ (List.mem_cons_self : Cond.selects RX10 yX10_put yX10_put ∈ Cond.selects RX10 yX10_put yX10_put :: wtGA_134)
theorem twGA_134 : ∀ w ∈ wtGA_134, w ∈ wsGA := fun w h => twGA_133 w (List.mem_cons_of_mem (Cond.selects RX10 yX10_put yX10_put) h)
theorem mGA_134 : Cond.code yX10_put cX10_put 2 none ∈ wsGA := twGA_134 _ (List.mem_cons_self : Cond.code yX10_put cX10_put 2 none ∈ Cond.code yX10_put cX10_put 2 none :: wtGA_135)
theorem twGA_135 : ∀ w ∈ wtGA_135, w ∈ wsGA := fun w h => twGA_134 w (List.mem_cons_of_mem (Cond.code yX10_put cX10_put 2 none) h)
theorem mGA_135 : Cond.instanceMethod yX11_end ∈ wsGA := twGA_135 _ (List.mem_cons_self : Cond.instanceMethod yX11_end ∈ Cond.instanceMethod yX11_end :: wtGA_136)
theorem twGA_136 : ∀ w ∈ wtGA_136, w ∈ wsGA := fun w h => twGA_135 w (List.mem_cons_of_mem (Cond.instanceMethod yX11_end) h)
theorem mGA_136 : Cond.selects RX11 yX11_end yX11_end ∈ wsGA := twGA_136 _ (List.mem_cons_self : Cond.selects RX11 yX11_end yX11_end ∈ Cond.selects RX11 yX11_end yX11_end :: wtGA_137)
theorem twGA_137 : ∀ w ∈ wtGA_137, w ∈ wsGA := fun w h => twGA_136 w (List.mem_cons_of_mem (Cond.selects RX11 yX11_end yX11_end) h)
theorem mGA_137 : Cond.code yX11_end cX11_end 2 (some .int) ∈ wsGA := twGA_137 _ (List.mem_cons_self : Cond.code yX11_end cX11_end 2 (some .int) ∈ Cond.code yX11_end cX11_end 2 (some .int) :: wtGA_138)
theorem twGA_138 : ∀ w ∈ wtGA_138, w ∈ wsGA := fun w h => twGA_137 w (List.mem_cons_of_mem (Cond.code yX11_end cX11_end 2 (some .int)) h)
theorem mGA_138 : Cond.instanceMethod yX11_almanac ∈ wsGA := twGA_138 _ (List.mem_cons_self : Cond.instanceMethod yX11_almanac ∈ Cond.instanceMethod yX11_almanac :: wtGA_139)
theorem twGA_139 : ∀ w ∈ wtGA_139, w ∈ wsGA := fun w h => twGA_138 w (List.mem_cons_of_mem (Cond.instanceMethod yX11_almanac) h)
theorem mGA_139 : Cond.selects RX11 yX11_almanac yX11_almanac ∈ wsGA := twGA_139 _ (List.mem_cons_self : Cond.selects RX11 yX11_almanac yX11_almanac ∈ Cond.selects RX11 yX11_almanac yX11_almanac :: wtGA_140)
theorem twGA_140 : ∀ w ∈ wtGA_140, w ∈ wsGA := fun w h => twGA_139 w (List.mem_cons_of_mem (Cond.selects RX11 yX11_almanac yX11_almanac) h)
theorem mGA_140 : Cond.code yX11_almanac cX11_almanac 2 (some .int) ∈ wsGA := twGA_140 _ (List.mem_cons_self : Cond.code yX11_almanac cX11_almanac 2 (some .int) ∈ Cond.code yX11_almanac cX11_almanac 2 (some .int) :: wtGA_141)
theorem twGA_141 : ∀ w ∈ wtGA_141, w ∈ wsGA := fun w h => twGA_140 w (List.mem_cons_of_mem (Cond.code yX11_almanac cX11_almanac 2 (some .int)) h)
theorem mGA_141 : Cond.fieldLink RX11 105 "SightedMonths$Reader" "faultKind" "I" ∈ wsGA := twGA_141 _ (List.mem_cons_self : Cond.fieldLink RX11 105 "SightedMonths$Reader" "faultKind" "I" ∈ Cond.fieldLink RX11 105 "SightedMonths$Reader" "faultKind" "I" :: wtGA_142)
theorem twGA_142 : ∀ w ∈ wtGA_142, w ∈ wsGA := fun w h => twGA_141 w (List.mem_cons_of_mem (Cond.fieldLink RX11 105 "SightedMonths$Reader" "faultKind" "I") h)
theorem mGA_142 : Cond.fieldLink RX11 108 "SightedMonths$Reader" "draft" "LSightedMonths$Almanac;" ∈ wsGA := twGA_142 _ (List.mem_cons_self : Cond.fieldLink RX11 108 "SightedMonths$Reader" "draft" "LSightedMonths$Almanac;" ∈ Cond.fieldLink RX11 108 "SightedMonths$Reader" "draft" "LSightedMonths$Almanac;" :: wtGA_143)
theorem twGA_143 : ∀ w ∈ wtGA_143, w ∈ wsGA := fun w h => twGA_142 w (List.mem_cons_of_mem (Cond.fieldLink RX11 108 "SightedMonths$Reader" "draft" "LSightedMonths$Almanac;") h)
theorem mGA_143 : Cond.fieldLink RX11 114 "SightedMonths$Almanac" "lines" "I" ∈ wsGA := twGA_143 _ (List.mem_cons_self : Cond.fieldLink RX11 114 "SightedMonths$Almanac" "lines" "I" ∈ Cond.fieldLink RX11 114 "SightedMonths$Almanac" "lines" "I" :: wtGA_144)
theorem twGA_144 : ∀ w ∈ wtGA_144, w ∈ wsGA := fun w h => twGA_143 w (List.mem_cons_of_mem (Cond.fieldLink RX11 114 "SightedMonths$Almanac" "lines" "I") h)
theorem mGA_144 : Cond.methodLink RX11 102 yX6_read ∈ wsGA := twGA_144 _ (List.mem_cons_self : Cond.methodLink RX11 102 yX6_read ∈ Cond.methodLink RX11 102 yX6_read :: wtGA_145)
theorem twGA_145 : ∀ w ∈ wtGA_145, w ∈ wsGA := fun w h => twGA_144 w (List.mem_cons_of_mem (Cond.methodLink RX11 102 yX6_read) h)
theorem mGA_145 : Cond.instanceMethod yX6_read ∈ wsGA := twGA_145 _ (List.mem_cons_self : Cond.instanceMethod yX6_read ∈ Cond.instanceMethod yX6_read :: wtGA_146)
theorem twGA_146 : ∀ w ∈ wtGA_146, w ∈ wsGA := fun w h => twGA_145 w (List.mem_cons_of_mem (Cond.instanceMethod yX6_read) h)
theorem mGA_146 : Cond.selects RX6 yX6_read yX6_read ∈ wsGA := twGA_146 _ (List.mem_cons_self : Cond.selects RX6 yX6_read yX6_read ∈ Cond.selects RX6 yX6_read yX6_read :: wtGA_147)
theorem twGA_147 : ∀ w ∈ wtGA_147, w ∈ wsGA := fun w h => twGA_146 w (List.mem_cons_of_mem (Cond.selects RX6 yX6_read yX6_read) h)
theorem mGA_147 : Cond.code yX6_read cX6_read 2 none ∈ wsGA := twGA_147 _ (List.mem_cons_self : Cond.code yX6_read cX6_read 2 none ∈ Cond.code yX6_read cX6_read 2 none :: wtGA_148)
theorem twGA_148 : ∀ w ∈ wtGA_148, w ∈ wsGA := fun w h => twGA_147 w (List.mem_cons_of_mem (Cond.code yX6_read cX6_read 2 none) h)
theorem mGA_148 : Cond.methodLink RX6 41 yX0_wipe ∈ wsGA := twGA_148 _ (List.mem_cons_self : Cond.methodLink RX6 41 yX0_wipe ∈ Cond.methodLink RX6 41 yX0_wipe :: wtGA_149)
theorem twGA_149 : ∀ w ∈ wtGA_149, w ∈ wsGA := fun w h => twGA_148 w (List.mem_cons_of_mem (Cond.methodLink RX6 41 yX0_wipe) h)
theorem mGA_149 : Cond.instanceMethod yX0_wipe ∈ wsGA := twGA_149 _ (List.mem_cons_self : Cond.instanceMethod yX0_wipe ∈ Cond.instanceMethod yX0_wipe :: wtGA_150)
theorem twGA_150 : ∀ w ∈ wtGA_150, w ∈ wsGA := fun w h => twGA_149 w (List.mem_cons_of_mem (Cond.instanceMethod yX0_wipe) h)
theorem mGA_150 : Cond.selects RX0 yX0_wipe yX0_wipe ∈ wsGA := twGA_150 _ (List.mem_cons_self : Cond.selects RX0 yX0_wipe yX0_wipe ∈ Cond.selects RX0 yX0_wipe yX0_wipe :: wtGA_151)
theorem twGA_151 : ∀ w ∈ wtGA_151, w ∈ wsGA := fun w h => twGA_150 w (List.mem_cons_of_mem (Cond.selects RX0 yX0_wipe yX0_wipe) h)
theorem mGA_151 : Cond.code yX0_wipe cX0_wipe 1 none ∈ wsGA := twGA_151 _ (List.mem_cons_self : Cond.code yX0_wipe cX0_wipe 1 none ∈ Cond.code yX0_wipe cX0_wipe 1 none :: wtGA_152)
theorem twGA_152 : ∀ w ∈ wtGA_152, w ∈ wsGA := fun w h => twGA_151 w (List.mem_cons_of_mem (Cond.code yX0_wipe cX0_wipe 1 none) h)
theorem mGA_152 : Cond.fieldLink RX0 32 "SightedMonths$Almanac" "months" "I" ∈ wsGA := twGA_152 _ (List.mem_cons_self : Cond.fieldLink RX0 32 "SightedMonths$Almanac" "months" "I" ∈ Cond.fieldLink RX0 32 "SightedMonths$Almanac" "months" "I" :: wtGA_153)
theorem twGA_153 : ∀ w ∈ wtGA_153, w ∈ wsGA := fun w h => twGA_152 w (List.mem_cons_of_mem (Cond.fieldLink RX0 32 "SightedMonths$Almanac" "months" "I") h)
theorem mGA_153 : Cond.fieldLink RX0 36 "SightedMonths$Almanac" "full" "I" ∈ wsGA := twGA_153 _ (List.mem_cons_self : Cond.fieldLink RX0 36 "SightedMonths$Almanac" "full" "I" ∈ Cond.fieldLink RX0 36 "SightedMonths$Almanac" "full" "I" :: wtGA_154)
theorem twGA_154 : ∀ w ∈ wtGA_154, w ∈ wsGA := fun w h => twGA_153 w (List.mem_cons_of_mem (Cond.fieldLink RX0 36 "SightedMonths$Almanac" "full" "I") h)
theorem mGA_154 : Cond.fieldLink RX0 39 "SightedMonths$Almanac" "lean" "I" ∈ wsGA := twGA_154 _ (List.mem_cons_self : Cond.fieldLink RX0 39 "SightedMonths$Almanac" "lean" "I" ∈ Cond.fieldLink RX0 39 "SightedMonths$Almanac" "lean" "I" :: wtGA_155)
theorem twGA_155 : ∀ w ∈ wtGA_155, w ∈ wsGA := fun w h => twGA_154 w (List.mem_cons_of_mem (Cond.fieldLink RX0 39 "SightedMonths$Almanac" "lean" "I") h)
theorem mGA_155 : Cond.fieldLink RX0 42 "SightedMonths$Almanac" "lines" "I" ∈ wsGA := twGA_155 _ (List.mem_cons_self : Cond.fieldLink RX0 42 "SightedMonths$Almanac" "lines" "I" ∈ Cond.fieldLink RX0 42 "SightedMonths$Almanac" "lines" "I" :: wtGA_156)
theorem twGA_156 : ∀ w ∈ wtGA_156, w ∈ wsGA := fun w h => twGA_155 w (List.mem_cons_of_mem (Cond.fieldLink RX0 42 "SightedMonths$Almanac" "lines" "I") h)
theorem mGA_156 : Cond.fieldLink RX0 45 "SightedMonths$Almanac" "hasMoon" "Z" ∈ wsGA := twGA_156 _ (List.mem_cons_self : Cond.fieldLink RX0 45 "SightedMonths$Almanac" "hasMoon" "Z" ∈ Cond.fieldLink RX0 45 "SightedMonths$Almanac" "hasMoon" "Z" :: wtGA_157)
theorem twGA_157 : ∀ w ∈ wtGA_157, w ∈ wsGA := fun w h => twGA_156 w (List.mem_cons_of_mem (Cond.fieldLink RX0 45 "SightedMonths$Almanac" "hasMoon" "Z") h)
theorem mGA_157 : Cond.fieldLink RX0 49 "SightedMonths$Almanac" "moonStart" "I" ∈ wsGA := twGA_157 _ (List.mem_cons_self : Cond.fieldLink RX0 49 "SightedMonths$Almanac" "moonStart" "I" ∈ Cond.fieldLink RX0 49 "SightedMonths$Almanac" "moonStart" "I" :: wtGA_158)
theorem twGA_158 : ∀ w ∈ wtGA_158, w ∈ wsGA := fun w h => twGA_157 w (List.mem_cons_of_mem (Cond.fieldLink RX0 49 "SightedMonths$Almanac" "moonStart" "I") h)
theorem mGA_158 : Cond.fieldLink RX0 52 "SightedMonths$Almanac" "moonStep" "I" ∈ wsGA := twGA_158 _ (List.mem_cons_self : Cond.fieldLink RX0 52 "SightedMonths$Almanac" "moonStep" "I" ∈ Cond.fieldLink RX0 52 "SightedMonths$Almanac" "moonStep" "I" :: wtGA_159)
theorem twGA_159 : ∀ w ∈ wtGA_159, w ∈ wsGA := fun w h => twGA_158 w (List.mem_cons_of_mem (Cond.fieldLink RX0 52 "SightedMonths$Almanac" "moonStep" "I") h)
theorem mGA_159 : Cond.fieldLink RX0 55 "SightedMonths$Almanac" "placeCount" "I" ∈ wsGA := twGA_159 _ (List.mem_cons_self : Cond.fieldLink RX0 55 "SightedMonths$Almanac" "placeCount" "I" ∈ Cond.fieldLink RX0 55 "SightedMonths$Almanac" "placeCount" "I" :: wtGA_160)
theorem twGA_160 : ∀ w ∈ wtGA_160, w ∈ wsGA := fun w h => twGA_159 w (List.mem_cons_of_mem (Cond.fieldLink RX0 55 "SightedMonths$Almanac" "placeCount" "I") h)
theorem mGA_160 : Cond.fieldLink RX0 58 "SightedMonths$Almanac" "reportCount" "I" ∈ wsGA := twGA_160 _ (List.mem_cons_self : Cond.fieldLink RX0 58 "SightedMonths$Almanac" "reportCount" "I" ∈ Cond.fieldLink RX0 58 "SightedMonths$Almanac" "reportCount" "I" :: wtGA_161)
theorem twGA_161 : ∀ w ∈ wtGA_161, w ∈ wsGA := fun w h => twGA_160 w (List.mem_cons_of_mem (Cond.fieldLink RX0 58 "SightedMonths$Almanac" "reportCount" "I") h)
theorem mGA_161 : Cond.fieldLink RX0 61 "SightedMonths$Almanac" "deedCount" "I" ∈ wsGA := twGA_161 _ (List.mem_cons_self : Cond.fieldLink RX0 61 "SightedMonths$Almanac" "deedCount" "I" ∈ Cond.fieldLink RX0 61 "SightedMonths$Almanac" "deedCount" "I" :: wtGA_162)
theorem twGA_162 : ∀ w ∈ wtGA_162, w ∈ wsGA := fun w h => twGA_161 w (List.mem_cons_of_mem (Cond.fieldLink RX0 61 "SightedMonths$Almanac" "deedCount" "I") h)
theorem mGA_162 : Cond.methodLink RX6 44 yX6_step ∈ wsGA := twGA_162 _ (List.mem_cons_self : Cond.methodLink RX6 44 yX6_step ∈ Cond.methodLink RX6 44 yX6_step :: wtGA_163)
theorem twGA_163 : ∀ w ∈ wtGA_163, w ∈ wsGA := fun w h => twGA_162 w (List.mem_cons_of_mem (Cond.methodLink RX6 44 yX6_step) h)
theorem mGA_163 : Cond.instanceMethod yX6_step ∈ wsGA := twGA_163 _ (List.mem_cons_self : Cond.instanceMethod yX6_step ∈ Cond.instanceMethod yX6_step :: wtGA_164)
theorem twGA_164 : ∀ w ∈ wtGA_164, w ∈ wsGA := fun w h => twGA_163 w (List.mem_cons_of_mem (Cond.instanceMethod yX6_step) h)
theorem mGA_164 : Cond.selects RX6 yX6_step yX6_step ∈ wsGA := twGA_164 _ (List.mem_cons_self : Cond.selects RX6 yX6_step yX6_step ∈ Cond.selects RX6 yX6_step yX6_step :: wtGA_165)
theorem twGA_165 : ∀ w ∈ wtGA_165, w ∈ wsGA := fun w h => twGA_164 w (List.mem_cons_of_mem (Cond.selects RX6 yX6_step yX6_step) h)
theorem mGA_165 : Cond.code yX6_step cX6_step 2 none ∈ wsGA := twGA_165 _ (List.mem_cons_self : Cond.code yX6_step cX6_step 2 none ∈ Cond.code yX6_step cX6_step 2 none :: wtGA_166)
theorem twGA_166 : ∀ w ∈ wtGA_166, w ∈ wsGA := fun w h => twGA_165 w (List.mem_cons_of_mem (Cond.code yX6_step cX6_step 2 none) h)
theorem mGA_166 : Cond.fieldLink RX6 205 "SightedMonths$Tape" "length" "I" ∈ wsGA := twGA_166 _ (List.mem_cons_self : Cond.fieldLink RX6 205 "SightedMonths$Tape" "length" "I" ∈ Cond.fieldLink RX6 205 "SightedMonths$Tape" "length" "I" :: wtGA_167)
theorem twGA_167 : ∀ w ∈ wtGA_167, w ∈ wsGA := fun w h => twGA_166 w (List.mem_cons_of_mem (Cond.fieldLink RX6 205 "SightedMonths$Tape" "length" "I") h)
theorem mGA_167 : Cond.methodLink RX6 181 yX6_byteAt ∈ wsGA := twGA_167 _ (List.mem_cons_self : Cond.methodLink RX6 181 yX6_byteAt ∈ Cond.methodLink RX6 181 yX6_byteAt :: wtGA_168)
theorem twGA_168 : ∀ w ∈ wtGA_168, w ∈ wsGA := fun w h => twGA_167 w (List.mem_cons_of_mem (Cond.methodLink RX6 181 yX6_byteAt) h)
theorem mGA_168 : Cond.instanceMethod yX6_byteAt ∈ wsGA := twGA_168 _ (List.mem_cons_self : Cond.instanceMethod yX6_byteAt ∈ Cond.instanceMethod yX6_byteAt :: wtGA_169)
theorem twGA_169 : ∀ w ∈ wtGA_169, w ∈ wsGA := fun w h => twGA_168 w (List.mem_cons_of_mem (Cond.instanceMethod yX6_byteAt) h)
theorem mGA_169 : Cond.selects RX6 yX6_byteAt yX6_byteAt ∈ wsGA := twGA_169 _ (List.mem_cons_self : Cond.selects RX6 yX6_byteAt yX6_byteAt ∈ Cond.selects RX6 yX6_byteAt yX6_byteAt :: wtGA_170)
theorem twGA_170 : ∀ w ∈ wtGA_170, w ∈ wsGA := fun w h => twGA_169 w (List.mem_cons_of_mem (Cond.selects RX6 yX6_byteAt yX6_byteAt) h)
theorem mGA_170 : Cond.code yX6_byteAt cX6_byteAt 2 (some .int) ∈ wsGA := twGA_170 _ (List.mem_cons_self : Cond.code yX6_byteAt cX6_byteAt 2 (some .int) ∈ Cond.code yX6_byteAt cX6_byteAt 2 (some .int) :: wtGA_171)
theorem twGA_171 : ∀ w ∈ wtGA_171, w ∈ wsGA := fun w h => twGA_170 w (List.mem_cons_of_mem (Cond.code yX6_byteAt cX6_byteAt 2 (some .int)) h)
theorem mGA_171 : Cond.fieldLink RX6 210 "SightedMonths$Tape" "bytes" "[B" ∈ wsGA := twGA_171 _ (List.mem_cons_self : Cond.fieldLink RX6 210 "SightedMonths$Tape" "bytes" "[B" ∈ Cond.fieldLink RX6 210 "SightedMonths$Tape" "bytes" "[B" :: wtGA_172)
theorem twGA_172 : ∀ w ∈ wtGA_172, w ∈ wsGA := fun w h => twGA_171 w (List.mem_cons_of_mem (Cond.fieldLink RX6 210 "SightedMonths$Tape" "bytes" "[B") h)
theorem mGA_172 : Cond.methodLink RX6 207 yX6_isBlank ∈ wsGA := twGA_172 _ (List.mem_cons_self : Cond.methodLink RX6 207 yX6_isBlank ∈ Cond.methodLink RX6 207 yX6_isBlank :: wtGA_173)
theorem twGA_173 : ∀ w ∈ wtGA_173, w ∈ wsGA := fun w h => twGA_172 w (List.mem_cons_of_mem (Cond.methodLink RX6 207 yX6_isBlank) h)
theorem mGA_173 : Cond.static yX6_isBlank ∈ wsGA := twGA_173 _ (List.mem_cons_self : Cond.static yX6_isBlank ∈ Cond.static yX6_isBlank :: wtGA_174)
theorem twGA_174 : ∀ w ∈ wtGA_174, w ∈ wsGA := fun w h => twGA_173 w (List.mem_cons_of_mem (Cond.static yX6_isBlank) h)
theorem mGA_174 : Cond.code yX6_isBlank cX6_isBlank 1 (some .boolean) ∈ wsGA := twGA_174 _ (List.mem_cons_self : Cond.code yX6_isBlank cX6_isBlank 1 (some .boolean) ∈ Cond.code yX6_isBlank cX6_isBlank 1 (some .boolean) :: wtGA_175)
theorem twGA_175 : ∀ w ∈ wtGA_175, w ∈ wsGA := fun w h => twGA_174 w (List.mem_cons_of_mem (Cond.code yX6_isBlank cX6_isBlank 1 (some .boolean)) h)
theorem mGA_175 : Cond.methodLink RX6 184 yX6_isLetter ∈ wsGA := twGA_175 _ (List.mem_cons_self : Cond.methodLink RX6 184 yX6_isLetter ∈ Cond.methodLink RX6 184 yX6_isLetter :: wtGA_176)
theorem twGA_176 : ∀ w ∈ wtGA_176, w ∈ wsGA := fun w h => twGA_175 w (List.mem_cons_of_mem (Cond.methodLink RX6 184 yX6_isLetter) h)
theorem mGA_176 : Cond.static yX6_isLetter ∈ wsGA := twGA_176 _ (List.mem_cons_self : Cond.static yX6_isLetter ∈ Cond.static yX6_isLetter :: wtGA_177)
theorem twGA_177 : ∀ w ∈ wtGA_177, w ∈ wsGA := fun w h => twGA_176 w (List.mem_cons_of_mem (Cond.static yX6_isLetter) h)
theorem mGA_177 : Cond.code yX6_isLetter cX6_isLetter 1 (some .boolean) ∈ wsGA := twGA_177 _ (List.mem_cons_self : Cond.code yX6_isLetter cX6_isLetter 1 (some .boolean) ∈ Cond.code yX6_isLetter cX6_isLetter 1 (some .boolean) :: wtGA_178)
theorem twGA_178 : ∀ w ∈ wtGA_178, w ∈ wsGA := fun w h => twGA_177 w (List.mem_cons_of_mem (Cond.code yX6_isLetter cX6_isLetter 1 (some .boolean)) h)
theorem mGA_178 : Cond.methodLink RX6 188 yX6_isDigit ∈ wsGA := twGA_178 _ (List.mem_cons_self : Cond.methodLink RX6 188 yX6_isDigit ∈ Cond.methodLink RX6 188 yX6_isDigit :: wtGA_179)
theorem twGA_179 : ∀ w ∈ wtGA_179, w ∈ wsGA := fun w h => twGA_178 w (List.mem_cons_of_mem (Cond.methodLink RX6 188 yX6_isDigit) h)
theorem mGA_179 : Cond.static yX6_isDigit ∈ wsGA := twGA_179 _ (List.mem_cons_self : Cond.static yX6_isDigit ∈ Cond.static yX6_isDigit :: wtGA_180)
theorem twGA_180 : ∀ w ∈ wtGA_180, w ∈ wsGA := fun w h => twGA_179 w (List.mem_cons_of_mem (Cond.static yX6_isDigit) h)
theorem mGA_180 : Cond.code yX6_isDigit cX6_isDigit 1 (some .boolean) ∈ wsGA := twGA_180 _ (List.mem_cons_self : Cond.code yX6_isDigit cX6_isDigit 1 (some .boolean) ∈ Cond.code yX6_isDigit cX6_isDigit 1 (some .boolean) :: wtGA_181)
theorem twGA_181 : ∀ w ∈ wtGA_181, w ∈ wsGA := fun w h => twGA_180 w (List.mem_cons_of_mem (Cond.code yX6_isDigit cX6_isDigit 1 (some .boolean)) h)
theorem mGA_181 : Cond.methodLink RX6 47 yX6_readLine ∈ wsGA := twGA_181 _ (List.mem_cons_self : Cond.methodLink RX6 47 yX6_readLine ∈ Cond.methodLink RX6 47 yX6_readLine :: wtGA_182)
theorem twGA_182 : ∀ w ∈ wtGA_182, w ∈ wsGA := fun w h => twGA_181 w (List.mem_cons_of_mem (Cond.methodLink RX6 47 yX6_readLine) h)
theorem mGA_182 : Cond.instanceMethod yX6_readLine ∈ wsGA := twGA_182 _ (List.mem_cons_self : Cond.instanceMethod yX6_readLine ∈ Cond.instanceMethod yX6_readLine :: wtGA_183)
theorem twGA_183 : ∀ w ∈ wtGA_183, w ∈ wsGA := fun w h => twGA_182 w (List.mem_cons_of_mem (Cond.instanceMethod yX6_readLine) h)
theorem mGA_183 : Cond.selects RX6 yX6_readLine yX6_readLine ∈ wsGA := twGA_183 _ (List.mem_cons_self : Cond.selects RX6 yX6_readLine yX6_readLine ∈ Cond.selects RX6 yX6_readLine yX6_readLine :: wtGA_184)
theorem twGA_184 : ∀ w ∈ wtGA_184, w ∈ wsGA := fun w h => twGA_183 w (List.mem_cons_of_mem (Cond.selects RX6 yX6_readLine yX6_readLine) h)
theorem mGA_184 : Cond.code yX6_readLine cX6_readLine 1 none ∈ wsGA := twGA_184 _ (List.mem_cons_self : Cond.code yX6_readLine cX6_readLine 1 none ∈ Cond.code yX6_readLine cX6_readLine 1 none :: wtGA_185)
theorem twGA_185 : ∀ w ∈ wtGA_185, w ∈ wsGA := fun w h => twGA_184 w (List.mem_cons_of_mem (Cond.code yX6_readLine cX6_readLine 1 none) h)
theorem mGA_185 : Cond.fieldLink RX6 50 "SightedMonths$Almanac" "lines" "I" ∈ wsGA := twGA_185 _ (List.mem_cons_self : Cond.fieldLink RX6 50 "SightedMonths$Almanac" "lines" "I" ∈ Cond.fieldLink RX6 50 "SightedMonths$Almanac" "lines" "I" :: wtGA_186)
theorem twGA_186 : ∀ w ∈ wtGA_186, w ∈ wsGA := fun w h => twGA_185 w (List.mem_cons_of_mem (Cond.fieldLink RX6 50 "SightedMonths$Almanac" "lines" "I") h)
theorem mGA_186 : Cond.methodLink RX6 53 yX6_readFirst ∈ wsGA := twGA_186 _ (List.mem_cons_self : Cond.methodLink RX6 53 yX6_readFirst ∈ Cond.methodLink RX6 53 yX6_readFirst :: wtGA_187)
theorem twGA_187 : ∀ w ∈ wtGA_187, w ∈ wsGA := fun w h => twGA_186 w (List.mem_cons_of_mem (Cond.methodLink RX6 53 yX6_readFirst) h)
theorem mGA_187 : Cond.instanceMethod yX6_readFirst ∈ wsGA := twGA_187 _ (List.mem_cons_self : Cond.instanceMethod yX6_readFirst ∈ Cond.instanceMethod yX6_readFirst :: wtGA_188)
theorem twGA_188 : ∀ w ∈ wtGA_188, w ∈ wsGA := fun w h => twGA_187 w (List.mem_cons_of_mem (Cond.instanceMethod yX6_readFirst) h)
theorem mGA_188 : Cond.selects RX6 yX6_readFirst yX6_readFirst ∈ wsGA := twGA_188 _ (List.mem_cons_self : Cond.selects RX6 yX6_readFirst yX6_readFirst ∈ Cond.selects RX6 yX6_readFirst yX6_readFirst :: wtGA_189)
theorem twGA_189 : ∀ w ∈ wtGA_189, w ∈ wsGA := fun w h => twGA_188 w (List.mem_cons_of_mem (Cond.selects RX6 yX6_readFirst yX6_readFirst) h)
theorem mGA_189 : Cond.code yX6_readFirst cX6_readFirst 4 none ∈ wsGA := twGA_189 _ (List.mem_cons_self : Cond.code yX6_readFirst cX6_readFirst 4 none ∈ Cond.code yX6_readFirst cX6_readFirst 4 none :: wtGA_190)
theorem twGA_190 : ∀ w ∈ wtGA_190, w ∈ wsGA := fun w h => twGA_189 w (List.mem_cons_of_mem (Cond.code yX6_readFirst cX6_readFirst 4 none) h)
theorem mGA_190 : Cond.fieldLink RX6 108 "SightedMonths$Almanac" "months" "I" ∈ wsGA := twGA_190 _ (List.mem_cons_self : Cond.fieldLink RX6 108 "SightedMonths$Almanac" "months" "I" ∈ Cond.fieldLink RX6 108 "SightedMonths$Almanac" "months" "I" :: wtGA_191)
theorem twGA_191 : ∀ w ∈ wtGA_191, w ∈ wsGA := fun w h => twGA_190 w (List.mem_cons_of_mem (Cond.fieldLink RX6 108 "SightedMonths$Almanac" "months" "I") h)
theorem mGA_191 : Cond.fieldLink RX6 110 "SightedMonths$Almanac" "full" "I" ∈ wsGA := twGA_191 _ (List.mem_cons_self : Cond.fieldLink RX6 110 "SightedMonths$Almanac" "full" "I" ∈ Cond.fieldLink RX6 110 "SightedMonths$Almanac" "full" "I" :: wtGA_192)
theorem twGA_192 : ∀ w ∈ wtGA_192, w ∈ wsGA := fun w h => twGA_191 w (List.mem_cons_of_mem (Cond.fieldLink RX6 110 "SightedMonths$Almanac" "full" "I") h)
theorem mGA_192 : Cond.fieldLink RX6 112 "SightedMonths$Almanac" "lean" "I" ∈ wsGA := twGA_192 _ (List.mem_cons_self : Cond.fieldLink RX6 112 "SightedMonths$Almanac" "lean" "I" ∈ Cond.fieldLink RX6 112 "SightedMonths$Almanac" "lean" "I" :: wtGA_193)
theorem twGA_193 : ∀ w ∈ wtGA_193, w ∈ wsGA := fun w h => twGA_192 w (List.mem_cons_of_mem (Cond.fieldLink RX6 112 "SightedMonths$Almanac" "lean" "I") h)
theorem mGA_193 : Cond.methodLink RX6 94 yX6_passWord ∈ wsGA := twGA_193 _ (List.mem_cons_self : Cond.methodLink RX6 94 yX6_passWord ∈ Cond.methodLink RX6 94 yX6_passWord :: wtGA_194)
theorem twGA_194 : ∀ w ∈ wtGA_194, w ∈ wsGA := fun w h => twGA_193 w (List.mem_cons_of_mem (Cond.methodLink RX6 94 yX6_passWord) h)
theorem mGA_194 : Cond.instanceMethod yX6_passWord ∈ wsGA := twGA_194 _ (List.mem_cons_self : Cond.instanceMethod yX6_passWord ∈ Cond.instanceMethod yX6_passWord :: wtGA_195)
theorem twGA_195 : ∀ w ∈ wtGA_195, w ∈ wsGA := fun w h => twGA_194 w (List.mem_cons_of_mem (Cond.instanceMethod yX6_passWord) h)
theorem mGA_195 : Cond.selects RX6 yX6_passWord yX6_passWord ∈ wsGA := twGA_195 _ (List.mem_cons_self : Cond.selects RX6 yX6_passWord yX6_passWord ∈ Cond.selects RX6 yX6_passWord yX6_passWord :: wtGA_196)
theorem twGA_196 : ∀ w ∈ wtGA_196, w ∈ wsGA := fun w h => twGA_195 w (List.mem_cons_of_mem (Cond.selects RX6 yX6_passWord yX6_passWord) h)
theorem mGA_196 : Cond.code yX6_passWord cX6_passWord 2 none ∈ wsGA := twGA_196 _ (List.mem_cons_self : Cond.code yX6_passWord cX6_passWord 2 none ∈ Cond.code yX6_passWord cX6_passWord 2 none :: wtGA_197)
theorem twGA_197 : ∀ w ∈ wtGA_197, w ∈ wsGA := fun w h => twGA_196 w (List.mem_cons_of_mem (Cond.code yX6_passWord cX6_passWord 2 none) h)
theorem mGA_197 : Cond.methodLink RX6 58 yX6_isWord ∈ wsGA := twGA_197 _ (List.mem_cons_self : Cond.methodLink RX6 58 yX6_isWord ∈ Cond.methodLink RX6 58 yX6_isWord :: wtGA_198)
theorem twGA_198 : ∀ w ∈ wtGA_198, w ∈ wsGA := fun w h => twGA_197 w (List.mem_cons_of_mem (Cond.methodLink RX6 58 yX6_isWord) h)
theorem mGA_198 : Cond.instanceMethod yX6_isWord ∈ wsGA := twGA_198 _ (List.mem_cons_self : Cond.instanceMethod yX6_isWord ∈ Cond.instanceMethod yX6_isWord :: wtGA_199)
theorem twGA_199 : ∀ w ∈ wtGA_199, w ∈ wsGA := fun w h => twGA_198 w (List.mem_cons_of_mem (Cond.instanceMethod yX6_isWord) h)
theorem mGA_199 : Cond.selects RX6 yX6_isWord yX6_isWord ∈ wsGA := twGA_199 _ (List.mem_cons_self : Cond.selects RX6 yX6_isWord yX6_isWord ∈ Cond.selects RX6 yX6_isWord yX6_isWord :: wtGA_200)
theorem twGA_200 : ∀ w ∈ wtGA_200, w ∈ wsGA := fun w h => twGA_199 w (List.mem_cons_of_mem (Cond.selects RX6 yX6_isWord yX6_isWord) h)
theorem mGA_200 : Cond.code yX6_isWord cX6_isWord 3 (some .boolean) ∈ wsGA := twGA_200 _ (List.mem_cons_self : Cond.code yX6_isWord cX6_isWord 3 (some .boolean) ∈ Cond.code yX6_isWord cX6_isWord 3 (some .boolean) :: wtGA_201)
theorem twGA_201 : ∀ w ∈ wtGA_201, w ∈ wsGA := fun w h => twGA_200 w (List.mem_cons_of_mem (Cond.code yX6_isWord cX6_isWord 3 (some .boolean)) h)
theorem mGA_201 : Cond.methodLink RX6 196 yJ0_length_8abf5 ∈ wsGA := twGA_201 _ (List.mem_cons_self : Cond.methodLink RX6 196 yJ0_length_8abf5 ∈ Cond.methodLink RX6 196 yJ0_length_8abf5 :: wtGA_202)
theorem twGA_202 : ∀ w ∈ wtGA_202, w ∈ wsGA := fun w h => twGA_201 w (List.mem_cons_of_mem (Cond.methodLink RX6 196 yJ0_length_8abf5) h)
theorem mGA_202 : Cond.instanceMethod yJ0_length_8abf5 ∈ wsGA := twGA_202 _ (List.mem_cons_self : Cond.instanceMethod yJ0_length_8abf5 ∈ Cond.instanceMethod yJ0_length_8abf5 :: wtGA_203)
theorem twGA_203 : ∀ w ∈ wtGA_203, w ∈ wsGA := fun w h => twGA_202 w (List.mem_cons_of_mem (Cond.instanceMethod yJ0_length_8abf5) h)
theorem mGA_203 : Cond.selects RJ0 yJ0_length_8abf5 yJ0_length_8abf5 ∈ wsGA := twGA_203 _ (List.mem_cons_self : Cond.selects RJ0 yJ0_length_8abf5 yJ0_length_8abf5 ∈ Cond.selects RJ0 yJ0_length_8abf5 yJ0_length_8abf5 :: wtGA_204)
theorem twGA_204 : ∀ w ∈ wtGA_204, w ∈ wsGA := fun w h => twGA_203 w (List.mem_cons_of_mem (Cond.selects RJ0 yJ0_length_8abf5 yJ0_length_8abf5) h)
theorem mGA_204 : Cond.initialized RJ0 ∈ wsGA := twGA_204 _ (List.mem_cons_self : Cond.initialized RJ0 ∈ Cond.initialized RJ0 :: wtGA_205)
theorem twGA_205 : ∀ w ∈ wtGA_205, w ∈ wsGA := fun w h => twGA_204 w (List.mem_cons_of_mem (Cond.initialized RJ0) h)
theorem mGA_205 : Cond.code yJ0_length_8abf5 cJ0_length_8abf5 1 (some .int) ∈ wsGA := twGA_205 _ (List.mem_cons_self : Cond.code yJ0_length_8abf5 cJ0_length_8abf5 1 (some .int) ∈ Cond.code yJ0_length_8abf5 cJ0_length_8abf5 1 (some .int) :: wtGA_206)
theorem twGA_206 : ∀ w ∈ wtGA_206, w ∈ wsGA := fun w h => twGA_205 w (List.mem_cons_of_mem (Cond.code yJ0_length_8abf5 cJ0_length_8abf5 1 (some .int)) h)
theorem mGA_206 : Cond.fieldLink RJ0 9 "java/lang/String" "value" "[B" ∈ wsGA := twGA_206 _ (List.mem_cons_self : Cond.fieldLink RJ0 9 "java/lang/String" "value" "[B" ∈ Cond.fieldLink RJ0 9 "java/lang/String" "value" "[B" :: wtGA_207)
theorem twGA_207 : ∀ w ∈ wtGA_207, w ∈ wsGA := fun w h => twGA_206 w (List.mem_cons_of_mem (Cond.fieldLink RJ0 9 "java/lang/String" "value" "[B") h)
theorem mGA_207 : Cond.methodLink RJ0 335 yJ0_coder_7d493 ∈ wsGA := twGA_207 _ (List.mem_cons_self : Cond.methodLink RJ0 335 yJ0_coder_7d493 ∈ Cond.methodLink RJ0 335 yJ0_coder_7d493 :: wtGA_208)
theorem twGA_208 : ∀ w ∈ wtGA_208, w ∈ wsGA := fun w h => twGA_207 w (List.mem_cons_of_mem (Cond.methodLink RJ0 335 yJ0_coder_7d493) h)
theorem mGA_208 : Cond.instanceMethod yJ0_coder_7d493 ∈ wsGA := twGA_208 _ (List.mem_cons_self : Cond.instanceMethod yJ0_coder_7d493 ∈ Cond.instanceMethod yJ0_coder_7d493 :: wtGA_209)
theorem twGA_209 : ∀ w ∈ wtGA_209, w ∈ wsGA := fun w h => twGA_208 w (List.mem_cons_of_mem (Cond.instanceMethod yJ0_coder_7d493) h)
theorem mGA_209 : Cond.selects RJ0 yJ0_coder_7d493 yJ0_coder_7d493 ∈ wsGA := twGA_209 _ (List.mem_cons_self : Cond.selects RJ0 yJ0_coder_7d493 yJ0_coder_7d493 ∈ Cond.selects RJ0 yJ0_coder_7d493 yJ0_coder_7d493 :: wtGA_210)
theorem twGA_210 : ∀ w ∈ wtGA_210, w ∈ wsGA := fun w h => twGA_209 w (List.mem_cons_of_mem (Cond.selects RJ0 yJ0_coder_7d493 yJ0_coder_7d493) h)
theorem mGA_210 : Cond.code yJ0_coder_7d493 cJ0_coder_7d493 1 (some .byte) ∈ wsGA := twGA_210 _ (List.mem_cons_self : Cond.code yJ0_coder_7d493 cJ0_coder_7d493 1 (some .byte) ∈ Cond.code yJ0_coder_7d493 cJ0_coder_7d493 1 (some .byte) :: wtGA_211)
theorem twGA_211 : ∀ w ∈ wtGA_211, w ∈ wsGA := fun w h => twGA_210 w (List.mem_cons_of_mem (Cond.code yJ0_coder_7d493 cJ0_coder_7d493 1 (some .byte)) h)
theorem mGA_211 : Cond.fieldLink RJ0 38 "java/lang/String" "COMPACT_STRINGS" "Z" ∈ wsGA := twGA_211 _ (List.mem_cons_self : Cond.fieldLink RJ0 38 "java/lang/String" "COMPACT_STRINGS" "Z" ∈ Cond.fieldLink RJ0 38 "java/lang/String" "COMPACT_STRINGS" "Z" :: wtGA_212)
theorem twGA_212 : ∀ w ∈ wtGA_212, w ∈ wsGA := fun w h => twGA_211 w (List.mem_cons_of_mem (Cond.fieldLink RJ0 38 "java/lang/String" "COMPACT_STRINGS" "Z") h)
theorem mGA_212 : Cond.fieldLink RJ0 15 "java/lang/String" "coder" "B" ∈ wsGA := twGA_212 _ (List.mem_cons_self : Cond.fieldLink RJ0 15 "java/lang/String" "coder" "B" ∈ Cond.fieldLink RJ0 15 "java/lang/String" "coder" "B" :: wtGA_213)
theorem twGA_213 : ∀ w ∈ wtGA_213, w ∈ wsGA := fun w h => twGA_212 w (List.mem_cons_of_mem (Cond.fieldLink RJ0 15 "java/lang/String" "coder" "B") h)
theorem mGA_213 : Cond.methodLink RX6 201 yJ0_charAt_5068e ∈ wsGA := twGA_213 _ (List.mem_cons_self : Cond.methodLink RX6 201 yJ0_charAt_5068e ∈ Cond.methodLink RX6 201 yJ0_charAt_5068e :: wtGA_214)
theorem twGA_214 : ∀ w ∈ wtGA_214, w ∈ wsGA := fun w h => twGA_213 w (List.mem_cons_of_mem (Cond.methodLink RX6 201 yJ0_charAt_5068e) h)
theorem mGA_214 : Cond.instanceMethod yJ0_charAt_5068e ∈ wsGA := twGA_214 _ (List.mem_cons_self : Cond.instanceMethod yJ0_charAt_5068e ∈ Cond.instanceMethod yJ0_charAt_5068e :: wtGA_215)
theorem twGA_215 : ∀ w ∈ wtGA_215, w ∈ wsGA := fun w h => twGA_214 w (List.mem_cons_of_mem (Cond.instanceMethod yJ0_charAt_5068e) h)
theorem mGA_215 : Cond.selects RJ0 yJ0_charAt_5068e yJ0_charAt_5068e ∈ wsGA := twGA_215 _ (List.mem_cons_self : Cond.selects RJ0 yJ0_charAt_5068e yJ0_charAt_5068e ∈ Cond.selects RJ0 yJ0_charAt_5068e yJ0_charAt_5068e :: wtGA_216)
theorem twGA_216 : ∀ w ∈ wtGA_216, w ∈ wsGA := fun w h => twGA_215 w (List.mem_cons_of_mem (Cond.selects RJ0 yJ0_charAt_5068e yJ0_charAt_5068e) h)
theorem mGA_216 : Cond.code yJ0_charAt_5068e cJ0_charAt_5068e 2 (some .char) ∈ wsGA := twGA_216 _ (List.mem_cons_self : Cond.code yJ0_charAt_5068e cJ0_charAt_5068e 2 (some .char) ∈ Cond.code yJ0_charAt_5068e cJ0_charAt_5068e 2 (some .char) :: wtGA_217)
theorem twGA_217 : ∀ w ∈ wtGA_217, w ∈ wsGA := fun w h => twGA_216 w (List.mem_cons_of_mem (Cond.code yJ0_charAt_5068e cJ0_charAt_5068e 2 (some .char)) h)
theorem mGA_217 : Cond.methodLink RJ0 492 yJ0_isLatin1_aae02 ∈ wsGA := twGA_217 _ (List.mem_cons_self : Cond.methodLink RJ0 492 yJ0_isLatin1_aae02 ∈ Cond.methodLink RJ0 492 yJ0_isLatin1_aae02 :: wtGA_218)
theorem twGA_218 : ∀ w ∈ wtGA_218, w ∈ wsGA := fun w h => twGA_217 w (List.mem_cons_of_mem (Cond.methodLink RJ0 492 yJ0_isLatin1_aae02) h)
theorem mGA_218 : Cond.instanceMethod yJ0_isLatin1_aae02 ∈ wsGA := twGA_218 _ (List.mem_cons_self : Cond.instanceMethod yJ0_isLatin1_aae02 ∈ Cond.instanceMethod yJ0_isLatin1_aae02 :: wtGA_219)
theorem twGA_219 : ∀ w ∈ wtGA_219, w ∈ wsGA := fun w h => twGA_218 w (List.mem_cons_of_mem (Cond.instanceMethod yJ0_isLatin1_aae02) h)
theorem mGA_219 : Cond.selects RJ0 yJ0_isLatin1_aae02 yJ0_isLatin1_aae02 ∈ wsGA := twGA_219 _ (List.mem_cons_self : Cond.selects RJ0 yJ0_isLatin1_aae02 yJ0_isLatin1_aae02 ∈ Cond.selects RJ0 yJ0_isLatin1_aae02 yJ0_isLatin1_aae02 :: wtGA_220)
theorem twGA_220 : ∀ w ∈ wtGA_220, w ∈ wsGA := fun w h => twGA_219 w (List.mem_cons_of_mem (Cond.selects RJ0 yJ0_isLatin1_aae02 yJ0_isLatin1_aae02) h)
theorem mGA_220 : Cond.code yJ0_isLatin1_aae02 cJ0_isLatin1_aae02 1 (some .boolean) ∈ wsGA := twGA_220 _ (List.mem_cons_self : Cond.code yJ0_isLatin1_aae02 cJ0_isLatin1_aae02 1 (some .boolean) ∈ Cond.code yJ0_isLatin1_aae02 cJ0_isLatin1_aae02 1 (some .boolean) :: wtGA_221)
theorem twGA_221 : ∀ w ∈ wtGA_221, w ∈ wsGA := fun w h => twGA_220 w (List.mem_cons_of_mem (Cond.code yJ0_isLatin1_aae02 cJ0_isLatin1_aae02 1 (some .boolean)) h)
theorem mGA_221 : Cond.methodLink RJ0 495 yJ1_charAt_3b067 ∈ wsGA := twGA_221 _ (List.mem_cons_self : Cond.methodLink RJ0 495 yJ1_charAt_3b067 ∈ Cond.methodLink RJ0 495 yJ1_charAt_3b067 :: wtGA_222)
theorem twGA_222 : ∀ w ∈ wtGA_222, w ∈ wsGA := fun w h => twGA_221 w (List.mem_cons_of_mem (Cond.methodLink RJ0 495 yJ1_charAt_3b067) h)
theorem mGA_222 : Cond.static yJ1_charAt_3b067 ∈ wsGA := twGA_222 _ (List.mem_cons_self : Cond.static yJ1_charAt_3b067 ∈ Cond.static yJ1_charAt_3b067 :: wtGA_223)
theorem twGA_223 : ∀ w ∈ wtGA_223, w ∈ wsGA := fun w h => twGA_222 w (List.mem_cons_of_mem (Cond.static yJ1_charAt_3b067) h)
theorem mGA_223 : Cond.initialized RJ1 ∈ wsGA := twGA_223 _ (List.mem_cons_self : Cond.initialized RJ1 ∈ Cond.initialized RJ1 :: wtGA_224)
theorem twGA_224 : ∀ w ∈ wtGA_224, w ∈ wsGA := fun w h => twGA_223 w (List.mem_cons_of_mem (Cond.initialized RJ1) h)
theorem mGA_224 : Cond.code yJ1_charAt_3b067 cJ1_charAt_3b067 2 (some .char) ∈ wsGA := twGA_224 _ (List.mem_cons_self : Cond.code yJ1_charAt_3b067 cJ1_charAt_3b067 2 (some .char) ∈ Cond.code yJ1_charAt_3b067 cJ1_charAt_3b067 2 (some .char) :: wtGA_225)
theorem twGA_225 : ∀ w ∈ wtGA_225, w ∈ wsGA := fun w h => twGA_224 w (List.mem_cons_of_mem (Cond.code yJ1_charAt_3b067 cJ1_charAt_3b067 2 (some .char)) h)
theorem mGA_225 : Cond.methodLink RJ1 9 yJ0_checkIndex_df160 ∈ wsGA := twGA_225 _ (List.mem_cons_self : Cond.methodLink RJ1 9 yJ0_checkIndex_df160 ∈ Cond.methodLink RJ1 9 yJ0_checkIndex_df160 :: wtGA_226)
theorem twGA_226 : ∀ w ∈ wtGA_226, w ∈ wsGA := fun w h => twGA_225 w (List.mem_cons_of_mem (Cond.methodLink RJ1 9 yJ0_checkIndex_df160) h)
theorem mGA_226 : Cond.static yJ0_checkIndex_df160 ∈ wsGA := twGA_226 _ (List.mem_cons_self : Cond.static yJ0_checkIndex_df160 ∈ Cond.static yJ0_checkIndex_df160 :: wtGA_227)
theorem twGA_227 : ∀ w ∈ wtGA_227, w ∈ wsGA := fun w h => twGA_226 w (List.mem_cons_of_mem (Cond.static yJ0_checkIndex_df160) h)
theorem mGA_227 : Cond.code yJ0_checkIndex_df160 cJ0_checkIndex_df160 2 none ∈ wsGA := twGA_227 _ (List.mem_cons_self : Cond.code yJ0_checkIndex_df160 cJ0_checkIndex_df160 2 none ∈ Cond.code yJ0_checkIndex_df160 cJ0_checkIndex_df160 2 none :: wtGA_228)
theorem twGA_228 : ∀ w ∈ wtGA_228, w ∈ wsGA := fun w h => twGA_227 w (List.mem_cons_of_mem (Cond.code yJ0_checkIndex_df160 cJ0_checkIndex_df160 2 none) h)
theorem mGA_228 : Cond.fieldLink RJ0 1053 "jdk/internal/util/Preconditions" "SIOOBE_FORMATTER" "Ljava/util/function/BiFunction;" ∈ wsGA := twGA_228 _ (List.mem_cons_self : Cond.fieldLink RJ0 1053 "jdk/internal/util/Preconditions" "SIOOBE_FORMATTER" "Ljava/util/function/BiFunction;" ∈ Cond.fieldLink RJ0 1053 "jdk/internal/util/Preconditions" "SIOOBE_FORMATTER" "Ljava/util/function/BiFunction;" :: wtGA_229)
theorem twGA_229 : ∀ w ∈ wtGA_229, w ∈ wsGA := fun w h => twGA_228 w (List.mem_cons_of_mem (Cond.fieldLink RJ0 1053 "jdk/internal/util/Preconditions" "SIOOBE_FORMATTER" "Ljava/util/function/BiFunction;") h)
theorem mGA_229 : Cond.methodLink RJ0 1059 yJ3_checkIndex_8e157 ∈ wsGA := twGA_229 _ (List.mem_cons_self : Cond.methodLink RJ0 1059 yJ3_checkIndex_8e157 ∈ Cond.methodLink RJ0 1059 yJ3_checkIndex_8e157 :: wtGA_230)
theorem twGA_230 : ∀ w ∈ wtGA_230, w ∈ wsGA := fun w h => twGA_229 w (List.mem_cons_of_mem (Cond.methodLink RJ0 1059 yJ3_checkIndex_8e157) h)
theorem mGA_230 : Cond.static yJ3_checkIndex_8e157 ∈ wsGA := twGA_230 _ (List.mem_cons_self : Cond.static yJ3_checkIndex_8e157 ∈ Cond.static yJ3_checkIndex_8e157 :: wtGA_231)
theorem twGA_231 : ∀ w ∈ wtGA_231, w ∈ wsGA := fun w h => twGA_230 w (List.mem_cons_of_mem (Cond.static yJ3_checkIndex_8e157) h)
theorem mGA_231 : Cond.initialized RJ3 ∈ wsGA := twGA_231 _ (List.mem_cons_self : Cond.initialized RJ3 ∈ Cond.initialized RJ3 :: wtGA_232)
theorem twGA_232 : ∀ w ∈ wtGA_232, w ∈ wsGA := fun w h => twGA_231 w (List.mem_cons_of_mem (Cond.initialized RJ3) h)
theorem mGA_232 : Cond.code yJ3_checkIndex_8e157 cJ3_checkIndex_8e157 3 (some .int) ∈ wsGA := twGA_232 _ (List.mem_cons_self : Cond.code yJ3_checkIndex_8e157 cJ3_checkIndex_8e157 3 (some .int) ∈ Cond.code yJ3_checkIndex_8e157 cJ3_checkIndex_8e157 3 (some .int) :: wtGA_233)
theorem twGA_233 : ∀ w ∈ wtGA_233, w ∈ wsGA := fun w h => twGA_232 w (List.mem_cons_of_mem (Cond.code yJ3_checkIndex_8e157 cJ3_checkIndex_8e157 3 (some .int)) h)
theorem mGA_233 : Cond.methodLink RJ0 498 yJ2_charAt_3b067 ∈ wsGA := twGA_233 _ (List.mem_cons_self : Cond.methodLink RJ0 498 yJ2_charAt_3b067 ∈ Cond.methodLink RJ0 498 yJ2_charAt_3b067 :: wtGA_234)
theorem twGA_234 : ∀ w ∈ wtGA_234, w ∈ wsGA := fun w h => twGA_233 w (List.mem_cons_of_mem (Cond.methodLink RJ0 498 yJ2_charAt_3b067) h)
theorem mGA_234 : Cond.static yJ2_charAt_3b067 ∈ wsGA := twGA_234 _ (List.mem_cons_self : Cond.static yJ2_charAt_3b067 ∈ Cond.static yJ2_charAt_3b067 :: wtGA_235)
theorem twGA_235 : ∀ w ∈ wtGA_235, w ∈ wsGA := fun w h => twGA_234 w (List.mem_cons_of_mem (Cond.static yJ2_charAt_3b067) h)
theorem mGA_235 : Cond.initialized RJ2 ∈ wsGA := twGA_235 _ (List.mem_cons_self : Cond.initialized RJ2 ∈ Cond.initialized RJ2 :: wtGA_236)
theorem twGA_236 : ∀ w ∈ wtGA_236, w ∈ wsGA := fun w h => twGA_235 w (List.mem_cons_of_mem (Cond.initialized RJ2) h)
theorem mGA_236 : Cond.code yJ2_charAt_3b067 cJ2_charAt_3b067 2 (some .char) ∈ wsGA := twGA_236 _ (List.mem_cons_self : Cond.code yJ2_charAt_3b067 cJ2_charAt_3b067 2 (some .char) ∈ Cond.code yJ2_charAt_3b067 cJ2_charAt_3b067 2 (some .char) :: wtGA_237)
theorem twGA_237 : ∀ w ∈ wtGA_237, w ∈ wsGA := fun w h => twGA_236 w (List.mem_cons_of_mem (Cond.code yJ2_charAt_3b067 cJ2_charAt_3b067 2 (some .char)) h)
theorem mGA_237 : Cond.methodLink RJ2 67 yJ2_checkIndex_2214a ∈ wsGA := twGA_237 _ (List.mem_cons_self : Cond.methodLink RJ2 67 yJ2_checkIndex_2214a ∈ Cond.methodLink RJ2 67 yJ2_checkIndex_2214a :: wtGA_238)
theorem twGA_238 : ∀ w ∈ wtGA_238, w ∈ wsGA := fun w h => twGA_237 w (List.mem_cons_of_mem (Cond.methodLink RJ2 67 yJ2_checkIndex_2214a) h)
theorem mGA_238 : Cond.static yJ2_checkIndex_2214a ∈ wsGA := twGA_238 _ (List.mem_cons_self : Cond.static yJ2_checkIndex_2214a ∈ Cond.static yJ2_checkIndex_2214a :: wtGA_239)
theorem twGA_239 : ∀ w ∈ wtGA_239, w ∈ wsGA := fun w h => twGA_238 w (List.mem_cons_of_mem (Cond.static yJ2_checkIndex_2214a) h)
theorem mGA_239 : Cond.code yJ2_checkIndex_2214a cJ2_checkIndex_2214a 2 none ∈ wsGA := twGA_239 _ (List.mem_cons_self : Cond.code yJ2_checkIndex_2214a cJ2_checkIndex_2214a 2 none ∈ Cond.code yJ2_checkIndex_2214a cJ2_checkIndex_2214a 2 none :: wtGA_240)
theorem twGA_240 : ∀ w ∈ wtGA_240, w ∈ wsGA := fun w h => twGA_239 w (List.mem_cons_of_mem (Cond.code yJ2_checkIndex_2214a cJ2_checkIndex_2214a 2 none) h)
theorem mGA_240 : Cond.methodLink RJ2 48 yJ2_length_9d52b ∈ wsGA := twGA_240 _ (List.mem_cons_self : Cond.methodLink RJ2 48 yJ2_length_9d52b ∈ Cond.methodLink RJ2 48 yJ2_length_9d52b :: wtGA_241)
theorem twGA_241 : ∀ w ∈ wtGA_241, w ∈ wsGA := fun w h => twGA_240 w (List.mem_cons_of_mem (Cond.methodLink RJ2 48 yJ2_length_9d52b) h)
theorem mGA_241 : Cond.static yJ2_length_9d52b ∈ wsGA := twGA_241 _ (List.mem_cons_self : Cond.static yJ2_length_9d52b ∈ Cond.static yJ2_length_9d52b :: wtGA_242)
theorem twGA_242 : ∀ w ∈ wtGA_242, w ∈ wsGA := fun w h => twGA_241 w (List.mem_cons_of_mem (Cond.static yJ2_length_9d52b) h)
theorem mGA_242 : Cond.code yJ2_length_9d52b cJ2_length_9d52b 1 (some .int) ∈ wsGA := twGA_242 _ (List.mem_cons_self : Cond.code yJ2_length_9d52b cJ2_length_9d52b 1 (some .int) ∈ Cond.code yJ2_length_9d52b cJ2_length_9d52b 1 (some .int) :: wtGA_243)
theorem twGA_243 : ∀ w ∈ wtGA_243, w ∈ wsGA := fun w h => twGA_242 w (List.mem_cons_of_mem (Cond.code yJ2_length_9d52b cJ2_length_9d52b 1 (some .int)) h)
theorem mGA_243 : Cond.methodLink RJ2 414 yJ0_checkIndex_df160 ∈ wsGA := twGA_243 _ (List.mem_cons_self : Cond.methodLink RJ2 414 yJ0_checkIndex_df160 ∈ Cond.methodLink RJ2 414 yJ0_checkIndex_df160 :: wtGA_244)
theorem twGA_244 : ∀ w ∈ wtGA_244, w ∈ wsGA := fun w h => twGA_243 w (List.mem_cons_of_mem (Cond.methodLink RJ2 414 yJ0_checkIndex_df160) h)
theorem mGA_244 : Cond.methodLink RJ2 71 yJ2_getChar_3b067 ∈ wsGA := twGA_244 _ (List.mem_cons_self : Cond.methodLink RJ2 71 yJ2_getChar_3b067 ∈ Cond.methodLink RJ2 71 yJ2_getChar_3b067 :: wtGA_245)
theorem twGA_245 : ∀ w ∈ wtGA_245, w ∈ wsGA := fun w h => twGA_244 w (List.mem_cons_of_mem (Cond.methodLink RJ2 71 yJ2_getChar_3b067) h)
theorem mGA_245 : Cond.static yJ2_getChar_3b067 ∈ wsGA := twGA_245 _ (List.mem_cons_self : Cond.static yJ2_getChar_3b067 ∈ Cond.static yJ2_getChar_3b067 :: wtGA_246)
theorem twGA_246 : ∀ w ∈ wtGA_246, w ∈ wsGA := fun w h => twGA_245 w (List.mem_cons_of_mem (Cond.static yJ2_getChar_3b067) h)
theorem mGA_246 : Cond.code yJ2_getChar_3b067 cJ2_getChar_3b067 2 (some .char) ∈ wsGA := twGA_246 _ (List.mem_cons_self : Cond.code yJ2_getChar_3b067 cJ2_getChar_3b067 2 (some .char) ∈ Cond.code yJ2_getChar_3b067 cJ2_getChar_3b067 2 (some .char) :: wtGA_247)
theorem twGA_247 : ∀ w ∈ wtGA_247, w ∈ wsGA := fun w h => twGA_246 w (List.mem_cons_of_mem (Cond.code yJ2_getChar_3b067 cJ2_getChar_3b067 2 (some .char)) h)
theorem mGA_247 : Cond.fieldLink RJ2 44 "java/lang/StringUTF16" "$assertionsDisabled" "Z" ∈ wsGA := twGA_247 _ (List.mem_cons_self : Cond.fieldLink RJ2 44 "java/lang/StringUTF16" "$assertionsDisabled" "Z" ∈ Cond.fieldLink RJ2 44 "java/lang/StringUTF16" "$assertionsDisabled" "Z" :: wtGA_248)
theorem twGA_248 : ∀ w ∈ wtGA_248, w ∈ wsGA := fun w h => twGA_247 w (List.mem_cons_of_mem (Cond.fieldLink RJ2 44 "java/lang/StringUTF16" "$assertionsDisabled" "Z") h)
theorem mGA_248 : Cond.fieldLink RJ2 59 "java/lang/StringUTF16" "HI_BYTE_SHIFT" "I" ∈ wsGA := twGA_248 _ (List.mem_cons_self : Cond.fieldLink RJ2 59 "java/lang/StringUTF16" "HI_BYTE_SHIFT" "I" ∈ Cond.fieldLink RJ2 59 "java/lang/StringUTF16" "HI_BYTE_SHIFT" "I" :: wtGA_249)
theorem twGA_249 : ∀ w ∈ wtGA_249, w ∈ wsGA := fun w h => twGA_248 w (List.mem_cons_of_mem (Cond.fieldLink RJ2 59 "java/lang/StringUTF16" "HI_BYTE_SHIFT" "I") h)
theorem mGA_249 : Cond.fieldLink RJ2 63 "java/lang/StringUTF16" "LO_BYTE_SHIFT" "I" ∈ wsGA := twGA_249 _ (List.mem_cons_self : Cond.fieldLink RJ2 63 "java/lang/StringUTF16" "LO_BYTE_SHIFT" "I" ∈ Cond.fieldLink RJ2 63 "java/lang/StringUTF16" "LO_BYTE_SHIFT" "I" :: wtGA_250)
theorem twGA_250 : ∀ w ∈ wtGA_250, w ∈ wsGA := fun w h => twGA_249 w (List.mem_cons_of_mem (Cond.fieldLink RJ2 63 "java/lang/StringUTF16" "LO_BYTE_SHIFT" "I") h)
theorem mGA_250 : Cond.methodLink RX6 166 yX6_expect ∈ wsGA := twGA_250 _ (List.mem_cons_self : Cond.methodLink RX6 166 yX6_expect ∈ Cond.methodLink RX6 166 yX6_expect :: wtGA_251)
theorem twGA_251 : ∀ w ∈ wtGA_251, w ∈ wsGA := fun w h => twGA_250 w (List.mem_cons_of_mem (Cond.methodLink RX6 166 yX6_expect) h)
theorem mGA_251 : Cond.instanceMethod yX6_expect ∈ wsGA := twGA_251 _ (List.mem_cons_self : Cond.instanceMethod yX6_expect ∈ Cond.instanceMethod yX6_expect :: wtGA_252)
theorem twGA_252 : ∀ w ∈ wtGA_252, w ∈ wsGA := fun w h => twGA_251 w (List.mem_cons_of_mem (Cond.instanceMethod yX6_expect) h)
theorem mGA_252 : Cond.selects RX6 yX6_expect yX6_expect ∈ wsGA := twGA_252 _ (List.mem_cons_self : Cond.selects RX6 yX6_expect yX6_expect ∈ Cond.selects RX6 yX6_expect yX6_expect :: wtGA_253)
theorem twGA_253 : ∀ w ∈ wtGA_253, w ∈ wsGA := fun w h => twGA_252 w (List.mem_cons_of_mem (Cond.selects RX6 yX6_expect yX6_expect) h)
theorem mGA_253 : Cond.code yX6_expect cX6_expect 3 none ∈ wsGA := twGA_253 _ (List.mem_cons_self : Cond.code yX6_expect cX6_expect 3 none ∈ Cond.code yX6_expect cX6_expect 3 none :: wtGA_254)
theorem twGA_254 : ∀ w ∈ wtGA_254, w ∈ wsGA := fun w h => twGA_253 w (List.mem_cons_of_mem (Cond.code yX6_expect cX6_expect 3 none) h)
theorem mGA_254 : Cond.methodLink RX6 85 yX6_blame ∈ wsGA := twGA_254 _ (List.mem_cons_self : Cond.methodLink RX6 85 yX6_blame ∈ Cond.methodLink RX6 85 yX6_blame :: wtGA_255)
theorem twGA_255 : ∀ w ∈ wtGA_255, w ∈ wsGA := fun w h => twGA_254 w (List.mem_cons_of_mem (Cond.methodLink RX6 85 yX6_blame) h)
theorem mGA_255 : Cond.instanceMethod yX6_blame ∈ wsGA := twGA_255 _ (List.mem_cons_self : Cond.instanceMethod yX6_blame ∈ Cond.instanceMethod yX6_blame :: wtGA_256)
theorem twGA_256 : ∀ w ∈ wtGA_256, w ∈ wsGA := fun w h => twGA_255 w (List.mem_cons_of_mem (Cond.instanceMethod yX6_blame) h)
theorem mGA_256 : Cond.selects RX6 yX6_blame yX6_blame ∈ wsGA := twGA_256 _ (List.mem_cons_self : Cond.selects RX6 yX6_blame yX6_blame ∈ Cond.selects RX6 yX6_blame yX6_blame :: wtGA_257)
theorem twGA_257 : ∀ w ∈ wtGA_257, w ∈ wsGA := fun w h => twGA_256 w (List.mem_cons_of_mem (Cond.selects RX6 yX6_blame yX6_blame) h)
theorem mGA_257 : Cond.code yX6_blame cX6_blame 3 none ∈ wsGA := twGA_257 _ (List.mem_cons_self : Cond.code yX6_blame cX6_blame 3 none ∈ Cond.code yX6_blame cX6_blame 3 none :: wtGA_258)
theorem twGA_258 : ∀ w ∈ wtGA_258, w ∈ wsGA := fun w h => twGA_257 w (List.mem_cons_of_mem (Cond.code yX6_blame cX6_blame 3 none) h)
theorem mGA_258 : Cond.methodLink RX6 100 yX6_passNumber ∈ wsGA := twGA_258 _ (List.mem_cons_self : Cond.methodLink RX6 100 yX6_passNumber ∈ Cond.methodLink RX6 100 yX6_passNumber :: wtGA_259)
theorem twGA_259 : ∀ w ∈ wtGA_259, w ∈ wsGA := fun w h => twGA_258 w (List.mem_cons_of_mem (Cond.methodLink RX6 100 yX6_passNumber) h)
theorem mGA_259 : Cond.instanceMethod yX6_passNumber ∈ wsGA := twGA_259 _ (List.mem_cons_self : Cond.instanceMethod yX6_passNumber ∈ Cond.instanceMethod yX6_passNumber :: wtGA_260)
theorem twGA_260 : ∀ w ∈ wtGA_260, w ∈ wsGA := fun w h => twGA_259 w (List.mem_cons_of_mem (Cond.instanceMethod yX6_passNumber) h)
theorem mGA_260 : Cond.selects RX6 yX6_passNumber yX6_passNumber ∈ wsGA := twGA_260 _ (List.mem_cons_self : Cond.selects RX6 yX6_passNumber yX6_passNumber ∈ Cond.selects RX6 yX6_passNumber yX6_passNumber :: wtGA_261)
theorem twGA_261 : ∀ w ∈ wtGA_261, w ∈ wsGA := fun w h => twGA_260 w (List.mem_cons_of_mem (Cond.selects RX6 yX6_passNumber yX6_passNumber) h)
theorem mGA_261 : Cond.code yX6_passNumber cX6_passNumber 4 (some .int) ∈ wsGA := twGA_261 _ (List.mem_cons_self : Cond.code yX6_passNumber cX6_passNumber 4 (some .int) ∈ Cond.code yX6_passNumber cX6_passNumber 4 (some .int) :: wtGA_262)
theorem twGA_262 : ∀ w ∈ wtGA_262, w ∈ wsGA := fun w h => twGA_261 w (List.mem_cons_of_mem (Cond.code yX6_passNumber cX6_passNumber 4 (some .int)) h)
theorem mGA_262 : Cond.methodLink RX6 174 yX6_valueHere ∈ wsGA := twGA_262 _ (List.mem_cons_self : Cond.methodLink RX6 174 yX6_valueHere ∈ Cond.methodLink RX6 174 yX6_valueHere :: wtGA_263)
theorem twGA_263 : ∀ w ∈ wtGA_263, w ∈ wsGA := fun w h => twGA_262 w (List.mem_cons_of_mem (Cond.methodLink RX6 174 yX6_valueHere) h)
theorem mGA_263 : Cond.instanceMethod yX6_valueHere ∈ wsGA := twGA_263 _ (List.mem_cons_self : Cond.instanceMethod yX6_valueHere ∈ Cond.instanceMethod yX6_valueHere :: wtGA_264)
theorem twGA_264 : ∀ w ∈ wtGA_264, w ∈ wsGA := fun w h => twGA_263 w (List.mem_cons_of_mem (Cond.instanceMethod yX6_valueHere) h)
theorem mGA_264 : Cond.selects RX6 yX6_valueHere yX6_valueHere ∈ wsGA := twGA_264 _ (List.mem_cons_self : Cond.selects RX6 yX6_valueHere yX6_valueHere ∈ Cond.selects RX6 yX6_valueHere yX6_valueHere :: wtGA_265)
theorem twGA_265 : ∀ w ∈ wtGA_265, w ∈ wsGA := fun w h => twGA_264 w (List.mem_cons_of_mem (Cond.selects RX6 yX6_valueHere yX6_valueHere) h)
theorem mGA_265 : Cond.code yX6_valueHere cX6_valueHere 4 (some .int) ∈ wsGA := twGA_265 _ (List.mem_cons_self : Cond.code yX6_valueHere cX6_valueHere 4 (some .int) ∈ Cond.code yX6_valueHere cX6_valueHere 4 (some .int) :: wtGA_266)
theorem twGA_266 : ∀ w ∈ wtGA_266, w ∈ wsGA := fun w h => twGA_265 w (List.mem_cons_of_mem (Cond.code yX6_valueHere cX6_valueHere 4 (some .int)) h)
theorem mGA_266 : Cond.constant RX6 163 (1000000) ∈ wsGA := twGA_266 _ (List.mem_cons_self : Cond.constant RX6 163 (1000000) ∈ Cond.constant RX6 163 (1000000) :: wtGA_267)
theorem twGA_267 : ∀ w ∈ wtGA_267, w ∈ wsGA := fun w h => twGA_266 w (List.mem_cons_of_mem (Cond.constant RX6 163 (1000000)) h)
theorem mGA_267 : Cond.methodLink RX6 191 Lib.Math.min.name ∈ wsGA := twGA_267 _ (List.mem_cons_self : Cond.methodLink RX6 191 Lib.Math.min.name ∈ Cond.methodLink RX6 191 Lib.Math.min.name :: wtGA_268)
theorem twGA_268 : ∀ w ∈ wtGA_268, w ∈ wsGA := fun w h => twGA_267 w (List.mem_cons_of_mem (Cond.methodLink RX6 191 Lib.Math.min.name) h)
theorem mGA_268 : Cond.static Lib.Math.min.name ∈ wsGA := twGA_268 _ (List.mem_cons_self : Cond.static Lib.Math.min.name ∈ Cond.static Lib.Math.min.name :: wtGA_269)
theorem twGA_269 : ∀ w ∈ wtGA_269, w ∈ wsGA := fun w h => twGA_268 w (List.mem_cons_of_mem (Cond.static Lib.Math.min.name) h)
theorem mGA_269 : Cond.initialized "java/lang/Math" ∈ wsGA := twGA_269 _ (List.mem_cons_self : Cond.initialized "java/lang/Math" ∈ Cond.initialized "java/lang/Math" :: wtGA_270)
theorem twGA_270 : ∀ w ∈ wtGA_270, w ∈ wsGA := fun w h => twGA_269 w (List.mem_cons_of_mem (Cond.initialized "java/lang/Math") h)
theorem mGA_270 : Cond.code Lib.Math.min.name Lib.Math.min.code 2 (some .int) ∈ wsGA := twGA_270 _ (List.mem_cons_self : Cond.code Lib.Math.min.name Lib.Math.min.code 2 (some .int) ∈ Cond.code Lib.Math.min.name Lib.Math.min.code 2 (some .int) :: wtGA_271)
theorem twGA_271 : ∀ w ∈ wtGA_271, w ∈ wsGA := fun w h => twGA_270 w (List.mem_cons_of_mem (Cond.code Lib.Math.min.name Lib.Math.min.code 2 (some .int)) h)
theorem mGA_271 : Cond.methodLink RX6 62 yX6_readMoon ∈ wsGA := twGA_271 _ (List.mem_cons_self : Cond.methodLink RX6 62 yX6_readMoon ∈ Cond.methodLink RX6 62 yX6_readMoon :: wtGA_272)
theorem twGA_272 : ∀ w ∈ wtGA_272, w ∈ wsGA := fun w h => twGA_271 w (List.mem_cons_of_mem (Cond.methodLink RX6 62 yX6_readMoon) h)
theorem mGA_272 : Cond.instanceMethod yX6_readMoon ∈ wsGA := twGA_272 _ (List.mem_cons_self : Cond.instanceMethod yX6_readMoon ∈ Cond.instanceMethod yX6_readMoon :: wtGA_273)
theorem twGA_273 : ∀ w ∈ wtGA_273, w ∈ wsGA := fun w h => twGA_272 w (List.mem_cons_of_mem (Cond.instanceMethod yX6_readMoon) h)
theorem mGA_273 : Cond.selects RX6 yX6_readMoon yX6_readMoon ∈ wsGA := twGA_273 _ (List.mem_cons_self : Cond.selects RX6 yX6_readMoon yX6_readMoon ∈ Cond.selects RX6 yX6_readMoon yX6_readMoon :: wtGA_274)
theorem twGA_274 : ∀ w ∈ wtGA_274, w ∈ wsGA := fun w h => twGA_273 w (List.mem_cons_of_mem (Cond.selects RX6 yX6_readMoon yX6_readMoon) h)
theorem mGA_274 : Cond.code yX6_readMoon cX6_readMoon 3 none ∈ wsGA := twGA_274 _ (List.mem_cons_self : Cond.code yX6_readMoon cX6_readMoon 3 none ∈ Cond.code yX6_readMoon cX6_readMoon 3 none :: wtGA_275)
theorem twGA_275 : ∀ w ∈ wtGA_275, w ∈ wsGA := fun w h => twGA_274 w (List.mem_cons_of_mem (Cond.code yX6_readMoon cX6_readMoon 3 none) h)
theorem mGA_275 : Cond.fieldLink RX6 114 "SightedMonths$Almanac" "hasMoon" "Z" ∈ wsGA := twGA_275 _ (List.mem_cons_self : Cond.fieldLink RX6 114 "SightedMonths$Almanac" "hasMoon" "Z" ∈ Cond.fieldLink RX6 114 "SightedMonths$Almanac" "hasMoon" "Z" :: wtGA_276)
theorem twGA_276 : ∀ w ∈ wtGA_276, w ∈ wsGA := fun w h => twGA_275 w (List.mem_cons_of_mem (Cond.fieldLink RX6 114 "SightedMonths$Almanac" "hasMoon" "Z") h)
theorem mGA_276 : Cond.constant RX6 122 (99999) ∈ wsGA := twGA_276 _ (List.mem_cons_self : Cond.constant RX6 122 (99999) ∈ Cond.constant RX6 122 (99999) :: wtGA_277)
theorem twGA_277 : ∀ w ∈ wtGA_277, w ∈ wsGA := fun w h => twGA_276 w (List.mem_cons_of_mem (Cond.constant RX6 122 (99999)) h)
theorem mGA_277 : Cond.methodLink RX6 118 yX6_passHead ∈ wsGA := twGA_277 _ (List.mem_cons_self : Cond.methodLink RX6 118 yX6_passHead ∈ Cond.methodLink RX6 118 yX6_passHead :: wtGA_278)
theorem twGA_278 : ∀ w ∈ wtGA_278, w ∈ wsGA := fun w h => twGA_277 w (List.mem_cons_of_mem (Cond.methodLink RX6 118 yX6_passHead) h)
theorem mGA_278 : Cond.instanceMethod yX6_passHead ∈ wsGA := twGA_278 _ (List.mem_cons_self : Cond.instanceMethod yX6_passHead ∈ Cond.instanceMethod yX6_passHead :: wtGA_279)
theorem twGA_279 : ∀ w ∈ wtGA_279, w ∈ wsGA := fun w h => twGA_278 w (List.mem_cons_of_mem (Cond.instanceMethod yX6_passHead) h)
theorem mGA_279 : Cond.selects RX6 yX6_passHead yX6_passHead ∈ wsGA := twGA_279 _ (List.mem_cons_self : Cond.selects RX6 yX6_passHead yX6_passHead ∈ Cond.selects RX6 yX6_passHead yX6_passHead :: wtGA_280)
theorem twGA_280 : ∀ w ∈ wtGA_280, w ∈ wsGA := fun w h => twGA_279 w (List.mem_cons_of_mem (Cond.selects RX6 yX6_passHead yX6_passHead) h)
theorem mGA_280 : Cond.code yX6_passHead cX6_passHead 2 none ∈ wsGA := twGA_280 _ (List.mem_cons_self : Cond.code yX6_passHead cX6_passHead 2 none ∈ Cond.code yX6_passHead cX6_passHead 2 none :: wtGA_281)
theorem twGA_281 : ∀ w ∈ wtGA_281, w ∈ wsGA := fun w h => twGA_280 w (List.mem_cons_of_mem (Cond.code yX6_passHead cX6_passHead 2 none) h)
theorem mGA_281 : Cond.methodLink RX6 124 yX0_setMoon ∈ wsGA := twGA_281 _ (List.mem_cons_self : Cond.methodLink RX6 124 yX0_setMoon ∈ Cond.methodLink RX6 124 yX0_setMoon :: wtGA_282)
theorem twGA_282 : ∀ w ∈ wtGA_282, w ∈ wsGA := fun w h => twGA_281 w (List.mem_cons_of_mem (Cond.methodLink RX6 124 yX0_setMoon) h)
theorem mGA_282 : Cond.instanceMethod yX0_setMoon ∈ wsGA := twGA_282 _ (List.mem_cons_self : Cond.instanceMethod yX0_setMoon ∈ Cond.instanceMethod yX0_setMoon :: wtGA_283)
theorem twGA_283 : ∀ w ∈ wtGA_283, w ∈ wsGA := fun w h => twGA_282 w (List.mem_cons_of_mem (Cond.instanceMethod yX0_setMoon) h)
theorem mGA_283 : Cond.selects RX0 yX0_setMoon yX0_setMoon ∈ wsGA := twGA_283 _ (List.mem_cons_self : Cond.selects RX0 yX0_setMoon yX0_setMoon ∈ Cond.selects RX0 yX0_setMoon yX0_setMoon :: wtGA_284)
theorem twGA_284 : ∀ w ∈ wtGA_284, w ∈ wsGA := fun w h => twGA_283 w (List.mem_cons_of_mem (Cond.selects RX0 yX0_setMoon yX0_setMoon) h)
theorem mGA_284 : Cond.code yX0_setMoon cX0_setMoon 3 none ∈ wsGA := twGA_284 _ (List.mem_cons_self : Cond.code yX0_setMoon cX0_setMoon 3 none ∈ Cond.code yX0_setMoon cX0_setMoon 3 none :: wtGA_285)
theorem twGA_285 : ∀ w ∈ wtGA_285, w ∈ wsGA := fun w h => twGA_284 w (List.mem_cons_of_mem (Cond.code yX0_setMoon cX0_setMoon 3 none) h)
theorem mGA_285 : Cond.methodLink RX6 67 yX6_readPlace ∈ wsGA := twGA_285 _ (List.mem_cons_self : Cond.methodLink RX6 67 yX6_readPlace ∈ Cond.methodLink RX6 67 yX6_readPlace :: wtGA_286)
theorem twGA_286 : ∀ w ∈ wtGA_286, w ∈ wsGA := fun w h => twGA_285 w (List.mem_cons_of_mem (Cond.methodLink RX6 67 yX6_readPlace) h)
theorem mGA_286 : Cond.instanceMethod yX6_readPlace ∈ wsGA := twGA_286 _ (List.mem_cons_self : Cond.instanceMethod yX6_readPlace ∈ Cond.instanceMethod yX6_readPlace :: wtGA_287)
theorem twGA_287 : ∀ w ∈ wtGA_287, w ∈ wsGA := fun w h => twGA_286 w (List.mem_cons_of_mem (Cond.instanceMethod yX6_readPlace) h)
theorem mGA_287 : Cond.selects RX6 yX6_readPlace yX6_readPlace ∈ wsGA := twGA_287 _ (List.mem_cons_self : Cond.selects RX6 yX6_readPlace yX6_readPlace ∈ Cond.selects RX6 yX6_readPlace yX6_readPlace :: wtGA_288)
theorem twGA_288 : ∀ w ∈ wtGA_288, w ∈ wsGA := fun w h => twGA_287 w (List.mem_cons_of_mem (Cond.selects RX6 yX6_readPlace yX6_readPlace) h)
theorem mGA_288 : Cond.code yX6_readPlace cX6_readPlace 3 none ∈ wsGA := twGA_288 _ (List.mem_cons_self : Cond.code yX6_readPlace cX6_readPlace 3 none ∈ Cond.code yX6_readPlace cX6_readPlace 3 none :: wtGA_289)
theorem twGA_289 : ∀ w ∈ wtGA_289, w ∈ wsGA := fun w h => twGA_288 w (List.mem_cons_of_mem (Cond.code yX6_readPlace cX6_readPlace 3 none) h)
theorem mGA_289 : Cond.fieldLink RX6 127 "SightedMonths$Almanac" "placeCount" "I" ∈ wsGA := twGA_289 _ (List.mem_cons_self : Cond.fieldLink RX6 127 "SightedMonths$Almanac" "placeCount" "I" ∈ Cond.fieldLink RX6 127 "SightedMonths$Almanac" "placeCount" "I" :: wtGA_290)
theorem twGA_290 : ∀ w ∈ wtGA_290, w ∈ wsGA := fun w h => twGA_289 w (List.mem_cons_of_mem (Cond.fieldLink RX6 127 "SightedMonths$Almanac" "placeCount" "I") h)
theorem mGA_290 : Cond.methodLink RX6 130 yX6_passName ∈ wsGA := twGA_290 _ (List.mem_cons_self : Cond.methodLink RX6 130 yX6_passName ∈ Cond.methodLink RX6 130 yX6_passName :: wtGA_291)
theorem twGA_291 : ∀ w ∈ wtGA_291, w ∈ wsGA := fun w h => twGA_290 w (List.mem_cons_of_mem (Cond.methodLink RX6 130 yX6_passName) h)
theorem mGA_291 : Cond.instanceMethod yX6_passName ∈ wsGA := twGA_291 _ (List.mem_cons_self : Cond.instanceMethod yX6_passName ∈ Cond.instanceMethod yX6_passName :: wtGA_292)
theorem twGA_292 : ∀ w ∈ wtGA_292, w ∈ wsGA := fun w h => twGA_291 w (List.mem_cons_of_mem (Cond.instanceMethod yX6_passName) h)
theorem mGA_292 : Cond.selects RX6 yX6_passName yX6_passName ∈ wsGA := twGA_292 _ (List.mem_cons_self : Cond.selects RX6 yX6_passName yX6_passName ∈ Cond.selects RX6 yX6_passName yX6_passName :: wtGA_293)
theorem twGA_293 : ∀ w ∈ wtGA_293, w ∈ wsGA := fun w h => twGA_292 w (List.mem_cons_of_mem (Cond.selects RX6 yX6_passName yX6_passName) h)
theorem mGA_293 : Cond.code yX6_passName cX6_passName 3 (some .int) ∈ wsGA := twGA_293 _ (List.mem_cons_self : Cond.code yX6_passName cX6_passName 3 (some .int) ∈ Cond.code yX6_passName cX6_passName 3 (some .int) :: wtGA_294)
theorem twGA_294 : ∀ w ∈ wtGA_294, w ∈ wsGA := fun w h => twGA_293 w (List.mem_cons_of_mem (Cond.code yX6_passName cX6_passName 3 (some .int)) h)
theorem mGA_294 : Cond.methodLink RX6 178 yX6_nameHere ∈ wsGA := twGA_294 _ (List.mem_cons_self : Cond.methodLink RX6 178 yX6_nameHere ∈ Cond.methodLink RX6 178 yX6_nameHere :: wtGA_295)
theorem twGA_295 : ∀ w ∈ wtGA_295, w ∈ wsGA := fun w h => twGA_294 w (List.mem_cons_of_mem (Cond.methodLink RX6 178 yX6_nameHere) h)
theorem mGA_295 : Cond.instanceMethod yX6_nameHere ∈ wsGA := twGA_295 _ (List.mem_cons_self : Cond.instanceMethod yX6_nameHere ∈ Cond.instanceMethod yX6_nameHere :: wtGA_296)
theorem twGA_296 : ∀ w ∈ wtGA_296, w ∈ wsGA := fun w h => twGA_295 w (List.mem_cons_of_mem (Cond.instanceMethod yX6_nameHere) h)
theorem mGA_296 : Cond.selects RX6 yX6_nameHere yX6_nameHere ∈ wsGA := twGA_296 _ (List.mem_cons_self : Cond.selects RX6 yX6_nameHere yX6_nameHere ∈ Cond.selects RX6 yX6_nameHere yX6_nameHere :: wtGA_297)
theorem twGA_297 : ∀ w ∈ wtGA_297, w ∈ wsGA := fun w h => twGA_296 w (List.mem_cons_of_mem (Cond.selects RX6 yX6_nameHere yX6_nameHere) h)
theorem mGA_297 : Cond.code yX6_nameHere cX6_nameHere 4 (some .int) ∈ wsGA := twGA_297 _ (List.mem_cons_self : Cond.code yX6_nameHere cX6_nameHere 4 (some .int) ∈ Cond.code yX6_nameHere cX6_nameHere 4 (some .int) :: wtGA_298)
theorem twGA_298 : ∀ w ∈ wtGA_298, w ∈ wsGA := fun w h => twGA_297 w (List.mem_cons_of_mem (Cond.code yX6_nameHere cX6_nameHere 4 (some .int)) h)
theorem mGA_298 : Cond.methodLink RX6 148 yX0_placeNamed ∈ wsGA := twGA_298 _ (List.mem_cons_self : Cond.methodLink RX6 148 yX0_placeNamed ∈ Cond.methodLink RX6 148 yX0_placeNamed :: wtGA_299)
theorem twGA_299 : ∀ w ∈ wtGA_299, w ∈ wsGA := fun w h => twGA_298 w (List.mem_cons_of_mem (Cond.methodLink RX6 148 yX0_placeNamed) h)
theorem mGA_299 : Cond.instanceMethod yX0_placeNamed ∈ wsGA := twGA_299 _ (List.mem_cons_self : Cond.instanceMethod yX0_placeNamed ∈ Cond.instanceMethod yX0_placeNamed :: wtGA_300)
theorem twGA_300 : ∀ w ∈ wtGA_300, w ∈ wsGA := fun w h => twGA_299 w (List.mem_cons_of_mem (Cond.instanceMethod yX0_placeNamed) h)
theorem mGA_300 : Cond.selects RX0 yX0_placeNamed yX0_placeNamed ∈ wsGA := twGA_300 _ (List.mem_cons_self : Cond.selects RX0 yX0_placeNamed yX0_placeNamed ∈ Cond.selects RX0 yX0_placeNamed yX0_placeNamed :: wtGA_301)
theorem twGA_301 : ∀ w ∈ wtGA_301, w ∈ wsGA := fun w h => twGA_300 w (List.mem_cons_of_mem (Cond.selects RX0 yX0_placeNamed yX0_placeNamed) h)
theorem mGA_301 : Cond.code yX0_placeNamed cX0_placeNamed 3 (some .int) ∈ wsGA := twGA_301 _ (List.mem_cons_self : Cond.code yX0_placeNamed cX0_placeNamed 3 (some .int) ∈ Cond.code yX0_placeNamed cX0_placeNamed 3 (some .int) :: wtGA_302)
theorem twGA_302 : ∀ w ∈ wtGA_302, w ∈ wsGA := fun w h => twGA_301 w (List.mem_cons_of_mem (Cond.code yX0_placeNamed cX0_placeNamed 3 (some .int)) h)
theorem mGA_302 : Cond.fieldLink RX0 67 "SightedMonths$Place" "name" "I" ∈ wsGA := twGA_302 _ (List.mem_cons_self : Cond.fieldLink RX0 67 "SightedMonths$Place" "name" "I" ∈ Cond.fieldLink RX0 67 "SightedMonths$Place" "name" "I" :: wtGA_303)
theorem twGA_303 : ∀ w ∈ wtGA_303, w ∈ wsGA := fun w h => twGA_302 w (List.mem_cons_of_mem (Cond.fieldLink RX0 67 "SightedMonths$Place" "name" "I") h)
theorem mGA_303 : Cond.methodLink RX6 136 yX0_addPlace ∈ wsGA := twGA_303 _ (List.mem_cons_self : Cond.methodLink RX6 136 yX0_addPlace ∈ Cond.methodLink RX6 136 yX0_addPlace :: wtGA_304)
theorem twGA_304 : ∀ w ∈ wtGA_304, w ∈ wsGA := fun w h => twGA_303 w (List.mem_cons_of_mem (Cond.methodLink RX6 136 yX0_addPlace) h)
theorem mGA_304 : Cond.instanceMethod yX0_addPlace ∈ wsGA := twGA_304 _ (List.mem_cons_self : Cond.instanceMethod yX0_addPlace ∈ Cond.instanceMethod yX0_addPlace :: wtGA_305)
theorem twGA_305 : ∀ w ∈ wtGA_305, w ∈ wsGA := fun w h => twGA_304 w (List.mem_cons_of_mem (Cond.instanceMethod yX0_addPlace) h)
theorem mGA_305 : Cond.selects RX0 yX0_addPlace yX0_addPlace ∈ wsGA := twGA_305 _ (List.mem_cons_self : Cond.selects RX0 yX0_addPlace yX0_addPlace ∈ Cond.selects RX0 yX0_addPlace yX0_addPlace :: wtGA_306)
theorem twGA_306 : ∀ w ∈ wtGA_306, w ∈ wsGA := fun w h => twGA_305 w (List.mem_cons_of_mem (Cond.selects RX0 yX0_addPlace yX0_addPlace) h)
theorem mGA_306 : Cond.code yX0_addPlace cX0_addPlace 3 none ∈ wsGA := twGA_306 _ (List.mem_cons_self : Cond.code yX0_addPlace cX0_addPlace 3 none ∈ Cond.code yX0_addPlace cX0_addPlace 3 none :: wtGA_307)
theorem twGA_307 : ∀ w ∈ wtGA_307, w ∈ wsGA := fun w h => twGA_306 w (List.mem_cons_of_mem (Cond.code yX0_addPlace cX0_addPlace 3 none) h)
theorem mGA_307 : Cond.fieldLink RX0 70 "SightedMonths$Place" "trust" "I" ∈ wsGA := twGA_307 _ (List.mem_cons_self : Cond.fieldLink RX0 70 "SightedMonths$Place" "trust" "I" ∈ Cond.fieldLink RX0 70 "SightedMonths$Place" "trust" "I" :: wtGA_308)
theorem twGA_308 : ∀ w ∈ wtGA_308, w ∈ wsGA := fun w h => twGA_307 w (List.mem_cons_of_mem (Cond.fieldLink RX0 70 "SightedMonths$Place" "trust" "I") h)
theorem mGA_308 : Cond.methodLink RX6 72 yX6_readReport ∈ wsGA := twGA_308 _ (List.mem_cons_self : Cond.methodLink RX6 72 yX6_readReport ∈ Cond.methodLink RX6 72 yX6_readReport :: wtGA_309)
theorem twGA_309 : ∀ w ∈ wtGA_309, w ∈ wsGA := fun w h => twGA_308 w (List.mem_cons_of_mem (Cond.methodLink RX6 72 yX6_readReport) h)
theorem mGA_309 : Cond.instanceMethod yX6_readReport ∈ wsGA := twGA_309 _ (List.mem_cons_self : Cond.instanceMethod yX6_readReport ∈ Cond.instanceMethod yX6_readReport :: wtGA_310)
theorem twGA_310 : ∀ w ∈ wtGA_310, w ∈ wsGA := fun w h => twGA_309 w (List.mem_cons_of_mem (Cond.instanceMethod yX6_readReport) h)
theorem mGA_310 : Cond.selects RX6 yX6_readReport yX6_readReport ∈ wsGA := twGA_310 _ (List.mem_cons_self : Cond.selects RX6 yX6_readReport yX6_readReport ∈ Cond.selects RX6 yX6_readReport yX6_readReport :: wtGA_311)
theorem twGA_311 : ∀ w ∈ wtGA_311, w ∈ wsGA := fun w h => twGA_310 w (List.mem_cons_of_mem (Cond.selects RX6 yX6_readReport yX6_readReport) h)
theorem mGA_311 : Cond.code yX6_readReport cX6_readReport 6 none ∈ wsGA := twGA_311 _ (List.mem_cons_self : Cond.code yX6_readReport cX6_readReport 6 none ∈ Cond.code yX6_readReport cX6_readReport 6 none :: wtGA_312)
theorem twGA_312 : ∀ w ∈ wtGA_312, w ∈ wsGA := fun w h => twGA_311 w (List.mem_cons_of_mem (Cond.code yX6_readReport cX6_readReport 6 none) h)
theorem mGA_312 : Cond.fieldLink RX6 139 "SightedMonths$Almanac" "reportCount" "I" ∈ wsGA := twGA_312 _ (List.mem_cons_self : Cond.fieldLink RX6 139 "SightedMonths$Almanac" "reportCount" "I" ∈ Cond.fieldLink RX6 139 "SightedMonths$Almanac" "reportCount" "I" :: wtGA_313)
theorem twGA_313 : ∀ w ∈ wtGA_313, w ∈ wsGA := fun w h => twGA_312 w (List.mem_cons_of_mem (Cond.fieldLink RX6 139 "SightedMonths$Almanac" "reportCount" "I") h)
theorem mGA_313 : Cond.methodLink RX6 152 yX0_addReport ∈ wsGA := twGA_313 _ (List.mem_cons_self : Cond.methodLink RX6 152 yX0_addReport ∈ Cond.methodLink RX6 152 yX0_addReport :: wtGA_314)
theorem twGA_314 : ∀ w ∈ wtGA_314, w ∈ wsGA := fun w h => twGA_313 w (List.mem_cons_of_mem (Cond.methodLink RX6 152 yX0_addReport) h)
theorem mGA_314 : Cond.instanceMethod yX0_addReport ∈ wsGA := twGA_314 _ (List.mem_cons_self : Cond.instanceMethod yX0_addReport ∈ Cond.instanceMethod yX0_addReport :: wtGA_315)
theorem twGA_315 : ∀ w ∈ wtGA_315, w ∈ wsGA := fun w h => twGA_314 w (List.mem_cons_of_mem (Cond.instanceMethod yX0_addReport) h)
theorem mGA_315 : Cond.selects RX0 yX0_addReport yX0_addReport ∈ wsGA := twGA_315 _ (List.mem_cons_self : Cond.selects RX0 yX0_addReport yX0_addReport ∈ Cond.selects RX0 yX0_addReport yX0_addReport :: wtGA_316)
theorem twGA_316 : ∀ w ∈ wtGA_316, w ∈ wsGA := fun w h => twGA_315 w (List.mem_cons_of_mem (Cond.selects RX0 yX0_addReport yX0_addReport) h)
theorem mGA_316 : Cond.code yX0_addReport cX0_addReport 7 none ∈ wsGA := twGA_316 _ (List.mem_cons_self : Cond.code yX0_addReport cX0_addReport 7 none ∈ Cond.code yX0_addReport cX0_addReport 7 none :: wtGA_317)
theorem twGA_317 : ∀ w ∈ wtGA_317, w ∈ wsGA := fun w h => twGA_316 w (List.mem_cons_of_mem (Cond.code yX0_addReport cX0_addReport 7 none) h)
theorem mGA_317 : Cond.fieldLink RX0 77 "SightedMonths$Report" "place" "I" ∈ wsGA := twGA_317 _ (List.mem_cons_self : Cond.fieldLink RX0 77 "SightedMonths$Report" "place" "I" ∈ Cond.fieldLink RX0 77 "SightedMonths$Report" "place" "I" :: wtGA_318)
theorem twGA_318 : ∀ w ∈ wtGA_318, w ∈ wsGA := fun w h => twGA_317 w (List.mem_cons_of_mem (Cond.fieldLink RX0 77 "SightedMonths$Report" "place" "I") h)
theorem mGA_318 : Cond.fieldLink RX0 80 "SightedMonths$Report" "kind" "I" ∈ wsGA := twGA_318 _ (List.mem_cons_self : Cond.fieldLink RX0 80 "SightedMonths$Report" "kind" "I" ∈ Cond.fieldLink RX0 80 "SightedMonths$Report" "kind" "I" :: wtGA_319)
theorem twGA_319 : ∀ w ∈ wtGA_319, w ∈ wsGA := fun w h => twGA_318 w (List.mem_cons_of_mem (Cond.fieldLink RX0 80 "SightedMonths$Report" "kind" "I") h)
theorem mGA_319 : Cond.fieldLink RX0 83 "SightedMonths$Report" "month" "I" ∈ wsGA := twGA_319 _ (List.mem_cons_self : Cond.fieldLink RX0 83 "SightedMonths$Report" "month" "I" ∈ Cond.fieldLink RX0 83 "SightedMonths$Report" "month" "I" :: wtGA_320)
theorem twGA_320 : ∀ w ∈ wtGA_320, w ∈ wsGA := fun w h => twGA_319 w (List.mem_cons_of_mem (Cond.fieldLink RX0 83 "SightedMonths$Report" "month" "I") h)
theorem mGA_320 : Cond.fieldLink RX0 86 "SightedMonths$Report" "day" "I" ∈ wsGA := twGA_320 _ (List.mem_cons_self : Cond.fieldLink RX0 86 "SightedMonths$Report" "day" "I" ∈ Cond.fieldLink RX0 86 "SightedMonths$Report" "day" "I" :: wtGA_321)
theorem twGA_321 : ∀ w ∈ wtGA_321, w ∈ wsGA := fun w h => twGA_320 w (List.mem_cons_of_mem (Cond.fieldLink RX0 86 "SightedMonths$Report" "day" "I") h)
theorem mGA_321 : Cond.fieldLink RX0 89 "SightedMonths$Report" "known" "I" ∈ wsGA := twGA_321 _ (List.mem_cons_self : Cond.fieldLink RX0 89 "SightedMonths$Report" "known" "I" ∈ Cond.fieldLink RX0 89 "SightedMonths$Report" "known" "I" :: wtGA_322)
theorem twGA_322 : ∀ w ∈ wtGA_322, w ∈ wsGA := fun w h => twGA_321 w (List.mem_cons_of_mem (Cond.fieldLink RX0 89 "SightedMonths$Report" "known" "I") h)
theorem mGA_322 : Cond.fieldLink RX0 96 "SightedMonths$Report" "struck" "Z" ∈ wsGA := twGA_322 _ (List.mem_cons_self : Cond.fieldLink RX0 96 "SightedMonths$Report" "struck" "Z" ∈ Cond.fieldLink RX0 96 "SightedMonths$Report" "struck" "Z" :: wtGA_323)
theorem twGA_323 : ∀ w ∈ wtGA_323, w ∈ wsGA := fun w h => twGA_322 w (List.mem_cons_of_mem (Cond.fieldLink RX0 96 "SightedMonths$Report" "struck" "Z") h)
theorem mGA_323 : Cond.methodLink RX6 82 yX6_readDeed ∈ wsGA := twGA_323 _ (List.mem_cons_self : Cond.methodLink RX6 82 yX6_readDeed ∈ Cond.methodLink RX6 82 yX6_readDeed :: wtGA_324)
theorem twGA_324 : ∀ w ∈ wtGA_324, w ∈ wsGA := fun w h => twGA_323 w (List.mem_cons_of_mem (Cond.methodLink RX6 82 yX6_readDeed) h)
theorem mGA_324 : Cond.instanceMethod yX6_readDeed ∈ wsGA := twGA_324 _ (List.mem_cons_self : Cond.instanceMethod yX6_readDeed ∈ Cond.instanceMethod yX6_readDeed :: wtGA_325)
theorem twGA_325 : ∀ w ∈ wtGA_325, w ∈ wsGA := fun w h => twGA_324 w (List.mem_cons_of_mem (Cond.instanceMethod yX6_readDeed) h)
theorem mGA_325 : Cond.selects RX6 yX6_readDeed yX6_readDeed ∈ wsGA := twGA_325 _ (List.mem_cons_self : Cond.selects RX6 yX6_readDeed yX6_readDeed ∈ Cond.selects RX6 yX6_readDeed yX6_readDeed :: wtGA_326)
theorem twGA_326 : ∀ w ∈ wtGA_326, w ∈ wsGA := fun w h => twGA_325 w (List.mem_cons_of_mem (Cond.selects RX6 yX6_readDeed yX6_readDeed) h)
theorem mGA_326 : Cond.code yX6_readDeed cX6_readDeed 7 none ∈ wsGA := twGA_326 _ (List.mem_cons_self : Cond.code yX6_readDeed cX6_readDeed 7 none ∈ Cond.code yX6_readDeed cX6_readDeed 7 none :: wtGA_327)
theorem twGA_327 : ∀ w ∈ wtGA_327, w ∈ wsGA := fun w h => twGA_326 w (List.mem_cons_of_mem (Cond.code yX6_readDeed cX6_readDeed 7 none) h)
theorem mGA_327 : Cond.fieldLink RX6 156 "SightedMonths$Almanac" "deedCount" "I" ∈ wsGA := twGA_327 _ (List.mem_cons_self : Cond.fieldLink RX6 156 "SightedMonths$Almanac" "deedCount" "I" ∈ Cond.fieldLink RX6 156 "SightedMonths$Almanac" "deedCount" "I" :: wtGA_328)
theorem twGA_328 : ∀ w ∈ wtGA_328, w ∈ wsGA := fun w h => twGA_327 w (List.mem_cons_of_mem (Cond.fieldLink RX6 156 "SightedMonths$Almanac" "deedCount" "I") h)
theorem mGA_328 : Cond.methodLink RX6 170 yX0_addDeed ∈ wsGA := twGA_328 _ (List.mem_cons_self : Cond.methodLink RX6 170 yX0_addDeed ∈ Cond.methodLink RX6 170 yX0_addDeed :: wtGA_329)
theorem twGA_329 : ∀ w ∈ wtGA_329, w ∈ wsGA := fun w h => twGA_328 w (List.mem_cons_of_mem (Cond.methodLink RX6 170 yX0_addDeed) h)
theorem mGA_329 : Cond.instanceMethod yX0_addDeed ∈ wsGA := twGA_329 _ (List.mem_cons_self : Cond.instanceMethod yX0_addDeed ∈ Cond.instanceMethod yX0_addDeed :: wtGA_330)
theorem twGA_330 : ∀ w ∈ wtGA_330, w ∈ wsGA := fun w h => twGA_329 w (List.mem_cons_of_mem (Cond.instanceMethod yX0_addDeed) h)
theorem mGA_330 : Cond.selects RX0 yX0_addDeed yX0_addDeed ∈ wsGA := twGA_330 _ (List.mem_cons_self : Cond.selects RX0 yX0_addDeed yX0_addDeed ∈ Cond.selects RX0 yX0_addDeed yX0_addDeed :: wtGA_331)
theorem twGA_331 : ∀ w ∈ wtGA_331, w ∈ wsGA := fun w h => twGA_330 w (List.mem_cons_of_mem (Cond.selects RX0 yX0_addDeed yX0_addDeed) h)
theorem mGA_331 : Cond.code yX0_addDeed cX0_addDeed 6 none ∈ wsGA := twGA_331 _ (List.mem_cons_self : Cond.code yX0_addDeed cX0_addDeed 6 none ∈ Cond.code yX0_addDeed cX0_addDeed 6 none :: wtGA_332)
theorem twGA_332 : ∀ w ∈ wtGA_332, w ∈ wsGA := fun w h => twGA_331 w (List.mem_cons_of_mem (Cond.code yX0_addDeed cX0_addDeed 6 none) h)
theorem mGA_332 : Cond.fieldLink RX0 99 "SightedMonths$Deed" "month" "I" ∈ wsGA := twGA_332 _ (List.mem_cons_self : Cond.fieldLink RX0 99 "SightedMonths$Deed" "month" "I" ∈ Cond.fieldLink RX0 99 "SightedMonths$Deed" "month" "I" :: wtGA_333)
theorem twGA_333 : ∀ w ∈ wtGA_333, w ∈ wsGA := fun w h => twGA_332 w (List.mem_cons_of_mem (Cond.fieldLink RX0 99 "SightedMonths$Deed" "month" "I") h)
theorem mGA_333 : Cond.fieldLink RX0 100 "SightedMonths$Deed" "day" "I" ∈ wsGA := twGA_333 _ (List.mem_cons_self : Cond.fieldLink RX0 100 "SightedMonths$Deed" "day" "I" ∈ Cond.fieldLink RX0 100 "SightedMonths$Deed" "day" "I" :: wtGA_334)
theorem twGA_334 : ∀ w ∈ wtGA_334, w ∈ wsGA := fun w h => twGA_333 w (List.mem_cons_of_mem (Cond.fieldLink RX0 100 "SightedMonths$Deed" "day" "I") h)
theorem mGA_334 : Cond.fieldLink RX0 101 "SightedMonths$Deed" "length" "I" ∈ wsGA := twGA_334 _ (List.mem_cons_self : Cond.fieldLink RX0 101 "SightedMonths$Deed" "length" "I" ∈ Cond.fieldLink RX0 101 "SightedMonths$Deed" "length" "I" :: wtGA_335)
theorem twGA_335 : ∀ w ∈ wtGA_335, w ∈ wsGA := fun w h => twGA_334 w (List.mem_cons_of_mem (Cond.fieldLink RX0 101 "SightedMonths$Deed" "length" "I") h)
theorem mGA_335 : Cond.fieldLink RX0 104 "SightedMonths$Deed" "inDays" "Z" ∈ wsGA := twGA_335 _ (List.mem_cons_self : Cond.fieldLink RX0 104 "SightedMonths$Deed" "inDays" "Z" ∈ Cond.fieldLink RX0 104 "SightedMonths$Deed" "inDays" "Z" :: wtGA_336)
theorem twGA_336 : ∀ w ∈ wtGA_336, w ∈ wsGA := fun w h => twGA_335 w (List.mem_cons_of_mem (Cond.fieldLink RX0 104 "SightedMonths$Deed" "inDays" "Z") h)
theorem mGA_336 : Cond.methodLink RX6 89 yX6_passSign ∈ wsGA := twGA_336 _ (List.mem_cons_self : Cond.methodLink RX6 89 yX6_passSign ∈ Cond.methodLink RX6 89 yX6_passSign :: wtGA_337)
theorem twGA_337 : ∀ w ∈ wtGA_337, w ∈ wsGA := fun w h => twGA_336 w (List.mem_cons_of_mem (Cond.methodLink RX6 89 yX6_passSign) h)
theorem mGA_337 : Cond.instanceMethod yX6_passSign ∈ wsGA := twGA_337 _ (List.mem_cons_self : Cond.instanceMethod yX6_passSign ∈ Cond.instanceMethod yX6_passSign :: wtGA_338)
theorem twGA_338 : ∀ w ∈ wtGA_338, w ∈ wsGA := fun w h => twGA_337 w (List.mem_cons_of_mem (Cond.instanceMethod yX6_passSign) h)
theorem mGA_338 : Cond.selects RX6 yX6_passSign yX6_passSign ∈ wsGA := twGA_338 _ (List.mem_cons_self : Cond.selects RX6 yX6_passSign yX6_passSign ∈ Cond.selects RX6 yX6_passSign yX6_passSign :: wtGA_339)
theorem twGA_339 : ∀ w ∈ wtGA_339, w ∈ wsGA := fun w h => twGA_338 w (List.mem_cons_of_mem (Cond.selects RX6 yX6_passSign yX6_passSign) h)
theorem mGA_339 : Cond.code yX6_passSign cX6_passSign 1 none ∈ wsGA := twGA_339 _ (List.mem_cons_self : Cond.code yX6_passSign cX6_passSign 1 none ∈ Cond.code yX6_passSign cX6_passSign 1 none :: wtGA_340)
theorem twGA_340 : ∀ w ∈ wtGA_340, w ∈ wsGA := fun w h => twGA_339 w (List.mem_cons_of_mem (Cond.code yX6_passSign cX6_passSign 1 none) h)
theorem mGA_340 : Cond.methodLink RX11 111 yX11_forget ∈ wsGA := twGA_340 _ (List.mem_cons_self : Cond.methodLink RX11 111 yX11_forget ∈ Cond.methodLink RX11 111 yX11_forget :: wtGA_341)
theorem twGA_341 : ∀ w ∈ wtGA_341, w ∈ wsGA := fun w h => twGA_340 w (List.mem_cons_of_mem (Cond.methodLink RX11 111 yX11_forget) h)
theorem mGA_341 : Cond.instanceMethod yX11_forget ∈ wsGA := twGA_341 _ (List.mem_cons_self : Cond.instanceMethod yX11_forget ∈ Cond.instanceMethod yX11_forget :: wtGA_342)
theorem twGA_342 : ∀ w ∈ wtGA_342, w ∈ wsGA := fun w h => twGA_341 w (List.mem_cons_of_mem (Cond.instanceMethod yX11_forget) h)
theorem mGA_342 : Cond.selects RX11 yX11_forget yX11_forget ∈ wsGA := twGA_342 _ (List.mem_cons_self : Cond.selects RX11 yX11_forget yX11_forget ∈ Cond.selects RX11 yX11_forget yX11_forget :: wtGA_343)
theorem twGA_343 : ∀ w ∈ wtGA_343, w ∈ wsGA := fun w h => twGA_342 w (List.mem_cons_of_mem (Cond.selects RX11 yX11_forget yX11_forget) h)
theorem mGA_343 : Cond.code yX11_forget cX11_forget 1 none ∈ wsGA := twGA_343 _ (List.mem_cons_self : Cond.code yX11_forget cX11_forget 1 none ∈ Cond.code yX11_forget cX11_forget 1 none :: wtGA_344)
theorem twGA_344 : ∀ w ∈ wtGA_344, w ∈ wsGA := fun w h => twGA_343 w (List.mem_cons_of_mem (Cond.code yX11_forget cX11_forget 1 none) h)
theorem mGA_344 : Cond.static Lib.Math.max.name ∈ wsGA := twGA_344 _ (List.mem_cons_self : Cond.static Lib.Math.max.name ∈ Cond.static Lib.Math.max.name :: wtGA_345)
theorem twGA_345 : ∀ w ∈ wtGA_345, w ∈ wsGA := fun w h => twGA_344 w (List.mem_cons_of_mem (Cond.static Lib.Math.max.name) h)
theorem mGA_345 : Cond.code Lib.Math.max.name Lib.Math.max.code 2 (some .int) ∈ wsGA := twGA_345 _ (List.mem_cons_self : Cond.code Lib.Math.max.name Lib.Math.max.code 2 (some .int) ∈ Cond.code Lib.Math.max.name Lib.Math.max.code 2 (some .int) :: wtGA_346)
theorem twGA_346 : ∀ w ∈ wtGA_346, w ∈ wsGA := fun w h => twGA_345 w (List.mem_cons_of_mem (Cond.code Lib.Math.max.name Lib.Math.max.code 2 (some .int)) h)
theorem mGA_346 : Cond.instanceMethod yX11_fault ∈ wsGA := twGA_346 _ (List.mem_cons_self : Cond.instanceMethod yX11_fault ∈ Cond.instanceMethod yX11_fault :: wtGA_347)
theorem twGA_347 : ∀ w ∈ wtGA_347, w ∈ wsGA := fun w h => twGA_346 w (List.mem_cons_of_mem (Cond.instanceMethod yX11_fault) h)
theorem mGA_347 : Cond.selects RX11 yX11_fault yX11_fault ∈ wsGA := twGA_347 _ (List.mem_cons_self : Cond.selects RX11 yX11_fault yX11_fault ∈ Cond.selects RX11 yX11_fault yX11_fault :: wtGA_348)
theorem twGA_348 : ∀ w ∈ wtGA_348, w ∈ wsGA := fun w h => twGA_347 w (List.mem_cons_of_mem (Cond.selects RX11 yX11_fault yX11_fault) h)
theorem mGA_348 : Cond.code yX11_fault cX11_fault 2 (some .int) ∈ wsGA := twGA_348 _ (List.mem_cons_self : Cond.code yX11_fault cX11_fault 2 (some .int) ∈ Cond.code yX11_fault cX11_fault 2 (some .int) :: wtGA_349)
theorem twGA_349 : ∀ w ∈ wtGA_349, w ∈ wsGA := fun w h => twGA_348 w (List.mem_cons_of_mem (Cond.code yX11_fault cX11_fault 2 (some .int)) h)
theorem mGA_349 : Cond.fieldLink RX11 117 "SightedMonths$Reader" "faultPlace" "I" ∈ wsGA := twGA_349 _ (List.mem_cons_self : Cond.fieldLink RX11 117 "SightedMonths$Reader" "faultPlace" "I" ∈ Cond.fieldLink RX11 117 "SightedMonths$Reader" "faultPlace" "I" :: wtGA_350)
theorem twGA_350 : ∀ w ∈ wtGA_350, w ∈ wsGA := fun w h => twGA_349 w (List.mem_cons_of_mem (Cond.fieldLink RX11 117 "SightedMonths$Reader" "faultPlace" "I") h)
theorem mGA_350 : Cond.instanceMethod yX11_count ∈ wsGA := twGA_350 _ (List.mem_cons_self : Cond.instanceMethod yX11_count ∈ Cond.instanceMethod yX11_count :: wtGA_351)
theorem twGA_351 : ∀ w ∈ wtGA_351, w ∈ wsGA := fun w h => twGA_350 w (List.mem_cons_of_mem (Cond.instanceMethod yX11_count) h)
theorem mGA_351 : Cond.selects RX11 yX11_count yX11_count ∈ wsGA := twGA_351 _ (List.mem_cons_self : Cond.selects RX11 yX11_count yX11_count ∈ Cond.selects RX11 yX11_count yX11_count :: wtGA_352)
theorem twGA_352 : ∀ w ∈ wtGA_352, w ∈ wsGA := fun w h => twGA_351 w (List.mem_cons_of_mem (Cond.selects RX11 yX11_count yX11_count) h)
theorem mGA_352 : Cond.code yX11_count cX11_count 2 (some .int) ∈ wsGA := twGA_352 _ (List.mem_cons_self : Cond.code yX11_count cX11_count 2 (some .int) ∈ Cond.code yX11_count cX11_count 2 (some .int) :: wtGA_353)
theorem twGA_353 : ∀ w ∈ wtGA_353, w ∈ wsGA := fun w h => twGA_352 w (List.mem_cons_of_mem (Cond.code yX11_count cX11_count 2 (some .int)) h)
theorem mGA_353 : Cond.fieldLink RX11 120 "SightedMonths$Almanac" "months" "I" ∈ wsGA := twGA_353 _ (List.mem_cons_self : Cond.fieldLink RX11 120 "SightedMonths$Almanac" "months" "I" ∈ Cond.fieldLink RX11 120 "SightedMonths$Almanac" "months" "I" :: wtGA_354)
theorem twGA_354 : ∀ w ∈ wtGA_354, w ∈ wsGA := fun w h => twGA_353 w (List.mem_cons_of_mem (Cond.fieldLink RX11 120 "SightedMonths$Almanac" "months" "I") h)
theorem mGA_354 : Cond.fieldLink RX11 123 "SightedMonths$Almanac" "full" "I" ∈ wsGA := twGA_354 _ (List.mem_cons_self : Cond.fieldLink RX11 123 "SightedMonths$Almanac" "full" "I" ∈ Cond.fieldLink RX11 123 "SightedMonths$Almanac" "full" "I" :: wtGA_355)
theorem twGA_355 : ∀ w ∈ wtGA_355, w ∈ wsGA := fun w h => twGA_354 w (List.mem_cons_of_mem (Cond.fieldLink RX11 123 "SightedMonths$Almanac" "full" "I") h)
theorem mGA_355 : Cond.fieldLink RX11 126 "SightedMonths$Almanac" "lean" "I" ∈ wsGA := twGA_355 _ (List.mem_cons_self : Cond.fieldLink RX11 126 "SightedMonths$Almanac" "lean" "I" ∈ Cond.fieldLink RX11 126 "SightedMonths$Almanac" "lean" "I" :: wtGA_356)
theorem twGA_356 : ∀ w ∈ wtGA_356, w ∈ wsGA := fun w h => twGA_355 w (List.mem_cons_of_mem (Cond.fieldLink RX11 126 "SightedMonths$Almanac" "lean" "I") h)
theorem mGA_356 : Cond.fieldLink RX11 129 "SightedMonths$Almanac" "placeCount" "I" ∈ wsGA := twGA_356 _ (List.mem_cons_self : Cond.fieldLink RX11 129 "SightedMonths$Almanac" "placeCount" "I" ∈ Cond.fieldLink RX11 129 "SightedMonths$Almanac" "placeCount" "I" :: wtGA_357)
theorem twGA_357 : ∀ w ∈ wtGA_357, w ∈ wsGA := fun w h => twGA_356 w (List.mem_cons_of_mem (Cond.fieldLink RX11 129 "SightedMonths$Almanac" "placeCount" "I") h)
theorem mGA_357 : Cond.fieldLink RX11 132 "SightedMonths$Almanac" "reportCount" "I" ∈ wsGA := twGA_357 _ (List.mem_cons_self : Cond.fieldLink RX11 132 "SightedMonths$Almanac" "reportCount" "I" ∈ Cond.fieldLink RX11 132 "SightedMonths$Almanac" "reportCount" "I" :: wtGA_358)
theorem twGA_358 : ∀ w ∈ wtGA_358, w ∈ wsGA := fun w h => twGA_357 w (List.mem_cons_of_mem (Cond.fieldLink RX11 132 "SightedMonths$Almanac" "reportCount" "I") h)
theorem mGA_358 : Cond.fieldLink RX11 135 "SightedMonths$Almanac" "deedCount" "I" ∈ wsGA := twGA_358 _ (List.mem_cons_self : Cond.fieldLink RX11 135 "SightedMonths$Almanac" "deedCount" "I" ∈ Cond.fieldLink RX11 135 "SightedMonths$Almanac" "deedCount" "I" :: wtGA_359)
theorem twGA_359 : ∀ w ∈ wtGA_359, w ∈ wsGA := fun w h => twGA_358 w (List.mem_cons_of_mem (Cond.fieldLink RX11 135 "SightedMonths$Almanac" "deedCount" "I") h)
theorem mGA_359 : Cond.fieldLink RX11 138 "SightedMonths$Almanac" "moonStart" "I" ∈ wsGA := twGA_359 _ (List.mem_cons_self : Cond.fieldLink RX11 138 "SightedMonths$Almanac" "moonStart" "I" ∈ Cond.fieldLink RX11 138 "SightedMonths$Almanac" "moonStart" "I" :: wtGA_360)
theorem twGA_360 : ∀ w ∈ wtGA_360, w ∈ wsGA := fun w h => twGA_359 w (List.mem_cons_of_mem (Cond.fieldLink RX11 138 "SightedMonths$Almanac" "moonStart" "I") h)
theorem mGA_360 : Cond.fieldLink RX11 141 "SightedMonths$Almanac" "moonStep" "I" ∈ wsGA := twGA_360 _ (List.mem_cons_self : Cond.fieldLink RX11 141 "SightedMonths$Almanac" "moonStep" "I" ∈ Cond.fieldLink RX11 141 "SightedMonths$Almanac" "moonStep" "I" :: wtGA_361)
theorem twGA_361 : ∀ w ∈ wtGA_361, w ∈ wsGA := fun w h => twGA_360 w (List.mem_cons_of_mem (Cond.fieldLink RX11 141 "SightedMonths$Almanac" "moonStep" "I") h)
theorem mGA_361 : Cond.instanceMethod yX11_place ∈ wsGA := twGA_361 _ (List.mem_cons_self : Cond.instanceMethod yX11_place ∈ Cond.instanceMethod yX11_place :: wtGA_362)
theorem twGA_362 : ∀ w ∈ wtGA_362, w ∈ wsGA := fun w h => twGA_361 w (List.mem_cons_of_mem (Cond.instanceMethod yX11_place) h)
theorem mGA_362 : Cond.selects RX11 yX11_place yX11_place ∈ wsGA := twGA_362 _ (List.mem_cons_self : Cond.selects RX11 yX11_place yX11_place ∈ Cond.selects RX11 yX11_place yX11_place :: wtGA_363)
theorem twGA_363 : ∀ w ∈ wtGA_363, w ∈ wsGA := fun w h => twGA_362 w (List.mem_cons_of_mem (Cond.selects RX11 yX11_place yX11_place) h)
theorem mGA_363 : Cond.code yX11_place cX11_place 3 (some .int) ∈ wsGA := twGA_363 _ (List.mem_cons_self : Cond.code yX11_place cX11_place 3 (some .int) ∈ Cond.code yX11_place cX11_place 3 (some .int) :: wtGA_364)
theorem twGA_364 : ∀ w ∈ wtGA_364, w ∈ wsGA := fun w h => twGA_363 w (List.mem_cons_of_mem (Cond.code yX11_place cX11_place 3 (some .int)) h)
theorem mGA_364 : Cond.fieldLink RX11 148 "SightedMonths$Almanac" "places" "[LSightedMonths$Place;" ∈ wsGA := twGA_364 _ (List.mem_cons_self : Cond.fieldLink RX11 148 "SightedMonths$Almanac" "places" "[LSightedMonths$Place;" ∈ Cond.fieldLink RX11 148 "SightedMonths$Almanac" "places" "[LSightedMonths$Place;" :: wtGA_365)
theorem twGA_365 : ∀ w ∈ wtGA_365, w ∈ wsGA := fun w h => twGA_364 w (List.mem_cons_of_mem (Cond.fieldLink RX11 148 "SightedMonths$Almanac" "places" "[LSightedMonths$Place;") h)
theorem mGA_365 : Cond.fieldLink RX11 152 "SightedMonths$Place" "trust" "I" ∈ wsGA := twGA_365 _ (List.mem_cons_self : Cond.fieldLink RX11 152 "SightedMonths$Place" "trust" "I" ∈ Cond.fieldLink RX11 152 "SightedMonths$Place" "trust" "I" :: wtGA_366)
theorem twGA_366 : ∀ w ∈ wtGA_366, w ∈ wsGA := fun w h => twGA_365 w (List.mem_cons_of_mem (Cond.fieldLink RX11 152 "SightedMonths$Place" "trust" "I") h)
theorem mGA_366 : Cond.methodLink RX11 144 yX11_hasPlace ∈ wsGA := twGA_366 _ (List.mem_cons_self : Cond.methodLink RX11 144 yX11_hasPlace ∈ Cond.methodLink RX11 144 yX11_hasPlace :: wtGA_367)
theorem twGA_367 : ∀ w ∈ wtGA_367, w ∈ wsGA := fun w h => twGA_366 w (List.mem_cons_of_mem (Cond.methodLink RX11 144 yX11_hasPlace) h)
theorem mGA_367 : Cond.instanceMethod yX11_hasPlace ∈ wsGA := twGA_367 _ (List.mem_cons_self : Cond.instanceMethod yX11_hasPlace ∈ Cond.instanceMethod yX11_hasPlace :: wtGA_368)
theorem twGA_368 : ∀ w ∈ wtGA_368, w ∈ wsGA := fun w h => twGA_367 w (List.mem_cons_of_mem (Cond.instanceMethod yX11_hasPlace) h)
theorem mGA_368 : Cond.selects RX11 yX11_hasPlace yX11_hasPlace ∈ wsGA := twGA_368 _ (List.mem_cons_self : Cond.selects RX11 yX11_hasPlace yX11_hasPlace ∈ Cond.selects RX11 yX11_hasPlace yX11_hasPlace :: wtGA_369)
theorem twGA_369 : ∀ w ∈ wtGA_369, w ∈ wsGA := fun w h => twGA_368 w (List.mem_cons_of_mem (Cond.selects RX11 yX11_hasPlace yX11_hasPlace) h)
theorem mGA_369 : Cond.code yX11_hasPlace cX11_hasPlace 2 (some .boolean) ∈ wsGA := twGA_369 _ (List.mem_cons_self : Cond.code yX11_hasPlace cX11_hasPlace 2 (some .boolean) ∈ Cond.code yX11_hasPlace cX11_hasPlace 2 (some .boolean) :: wtGA_370)
theorem twGA_370 : ∀ w ∈ wtGA_370, w ∈ wsGA := fun w h => twGA_369 w (List.mem_cons_of_mem (Cond.code yX11_hasPlace cX11_hasPlace 2 (some .boolean)) h)
theorem mGA_370 : Cond.methodLink RX11 157 yX0_namesAhead ∈ wsGA := twGA_370 _ (List.mem_cons_self : Cond.methodLink RX11 157 yX0_namesAhead ∈ Cond.methodLink RX11 157 yX0_namesAhead :: wtGA_371)
theorem twGA_371 : ∀ w ∈ wtGA_371, w ∈ wsGA := fun w h => twGA_370 w (List.mem_cons_of_mem (Cond.methodLink RX11 157 yX0_namesAhead) h)
theorem mGA_371 : Cond.instanceMethod yX0_namesAhead ∈ wsGA := twGA_371 _ (List.mem_cons_self : Cond.instanceMethod yX0_namesAhead ∈ Cond.instanceMethod yX0_namesAhead :: wtGA_372)
theorem twGA_372 : ∀ w ∈ wtGA_372, w ∈ wsGA := fun w h => twGA_371 w (List.mem_cons_of_mem (Cond.instanceMethod yX0_namesAhead) h)
theorem mGA_372 : Cond.selects RX0 yX0_namesAhead yX0_namesAhead ∈ wsGA := twGA_372 _ (List.mem_cons_self : Cond.selects RX0 yX0_namesAhead yX0_namesAhead ∈ Cond.selects RX0 yX0_namesAhead yX0_namesAhead :: wtGA_373)
theorem twGA_373 : ∀ w ∈ wtGA_373, w ∈ wsGA := fun w h => twGA_372 w (List.mem_cons_of_mem (Cond.selects RX0 yX0_namesAhead yX0_namesAhead) h)
theorem mGA_373 : Cond.code yX0_namesAhead cX0_namesAhead 4 (some .int) ∈ wsGA := twGA_373 _ (List.mem_cons_self : Cond.code yX0_namesAhead cX0_namesAhead 4 (some .int) ∈ Cond.code yX0_namesAhead cX0_namesAhead 4 (some .int) :: wtGA_374)
theorem twGA_374 : ∀ w ∈ wtGA_374, w ∈ wsGA := fun w h => twGA_373 w (List.mem_cons_of_mem (Cond.code yX0_namesAhead cX0_namesAhead 4 (some .int)) h)
theorem mGA_374 : Cond.methodLink RX11 161 yX0_standingOf ∈ wsGA := twGA_374 _ (List.mem_cons_self : Cond.methodLink RX11 161 yX0_standingOf ∈ Cond.methodLink RX11 161 yX0_standingOf :: wtGA_375)
theorem twGA_375 : ∀ w ∈ wtGA_375, w ∈ wsGA := fun w h => twGA_374 w (List.mem_cons_of_mem (Cond.methodLink RX11 161 yX0_standingOf) h)
theorem mGA_375 : Cond.instanceMethod yX0_standingOf ∈ wsGA := twGA_375 _ (List.mem_cons_self : Cond.instanceMethod yX0_standingOf ∈ Cond.instanceMethod yX0_standingOf :: wtGA_376)
theorem twGA_376 : ∀ w ∈ wtGA_376, w ∈ wsGA := fun w h => twGA_375 w (List.mem_cons_of_mem (Cond.instanceMethod yX0_standingOf) h)
theorem mGA_376 : Cond.selects RX0 yX0_standingOf yX0_standingOf ∈ wsGA := twGA_376 _ (List.mem_cons_self : Cond.selects RX0 yX0_standingOf yX0_standingOf ∈ Cond.selects RX0 yX0_standingOf yX0_standingOf :: wtGA_377)
theorem twGA_377 : ∀ w ∈ wtGA_377, w ∈ wsGA := fun w h => twGA_376 w (List.mem_cons_of_mem (Cond.selects RX0 yX0_standingOf yX0_standingOf) h)
theorem mGA_377 : Cond.code yX0_standingOf cX0_standingOf 4 (some .int) ∈ wsGA := twGA_377 _ (List.mem_cons_self : Cond.code yX0_standingOf cX0_standingOf 4 (some .int) ∈ Cond.code yX0_standingOf cX0_standingOf 4 (some .int) :: wtGA_378)
theorem twGA_378 : ∀ w ∈ wtGA_378, w ∈ wsGA := fun w h => twGA_377 w (List.mem_cons_of_mem (Cond.code yX0_standingOf cX0_standingOf 4 (some .int)) h)
theorem mGA_378 : Cond.instanceMethod yX11_report ∈ wsGA := twGA_378 _ (List.mem_cons_self : Cond.instanceMethod yX11_report ∈ Cond.instanceMethod yX11_report :: wtGA_379)
theorem twGA_379 : ∀ w ∈ wtGA_379, w ∈ wsGA := fun w h => twGA_378 w (List.mem_cons_of_mem (Cond.instanceMethod yX11_report) h)
theorem mGA_379 : Cond.selects RX11 yX11_report yX11_report ∈ wsGA := twGA_379 _ (List.mem_cons_self : Cond.selects RX11 yX11_report yX11_report ∈ Cond.selects RX11 yX11_report yX11_report :: wtGA_380)
theorem twGA_380 : ∀ w ∈ wtGA_380, w ∈ wsGA := fun w h => twGA_379 w (List.mem_cons_of_mem (Cond.selects RX11 yX11_report yX11_report) h)
theorem mGA_380 : Cond.code yX11_report cX11_report 4 (some .int) ∈ wsGA := twGA_380 _ (List.mem_cons_self : Cond.code yX11_report cX11_report 4 (some .int) ∈ Cond.code yX11_report cX11_report 4 (some .int) :: wtGA_381)
theorem twGA_381 : ∀ w ∈ wtGA_381, w ∈ wsGA := fun w h => twGA_380 w (List.mem_cons_of_mem (Cond.code yX11_report cX11_report 4 (some .int)) h)
theorem mGA_381 : Cond.fieldLink RX11 167 "SightedMonths$Almanac" "reports" "[LSightedMonths$Report;" ∈ wsGA := twGA_381 _ (List.mem_cons_self : Cond.fieldLink RX11 167 "SightedMonths$Almanac" "reports" "[LSightedMonths$Report;" ∈ Cond.fieldLink RX11 167 "SightedMonths$Almanac" "reports" "[LSightedMonths$Report;" :: wtGA_382)
theorem twGA_382 : ∀ w ∈ wtGA_382, w ∈ wsGA := fun w h => twGA_381 w (List.mem_cons_of_mem (Cond.fieldLink RX11 167 "SightedMonths$Almanac" "reports" "[LSightedMonths$Report;") h)
theorem mGA_382 : Cond.fieldLink RX11 171 "SightedMonths$Report" "place" "I" ∈ wsGA := twGA_382 _ (List.mem_cons_self : Cond.fieldLink RX11 171 "SightedMonths$Report" "place" "I" ∈ Cond.fieldLink RX11 171 "SightedMonths$Report" "place" "I" :: wtGA_383)
theorem twGA_383 : ∀ w ∈ wtGA_383, w ∈ wsGA := fun w h => twGA_382 w (List.mem_cons_of_mem (Cond.fieldLink RX11 171 "SightedMonths$Report" "place" "I") h)
theorem mGA_383 : Cond.fieldLink RX11 176 "SightedMonths$Report" "struck" "Z" ∈ wsGA := twGA_383 _ (List.mem_cons_self : Cond.fieldLink RX11 176 "SightedMonths$Report" "struck" "Z" ∈ Cond.fieldLink RX11 176 "SightedMonths$Report" "struck" "Z" :: wtGA_384)
theorem twGA_384 : ∀ w ∈ wtGA_384, w ∈ wsGA := fun w h => twGA_383 w (List.mem_cons_of_mem (Cond.fieldLink RX11 176 "SightedMonths$Report" "struck" "Z") h)
theorem mGA_384 : Cond.fieldLink RX11 179 "SightedMonths$Report" "kind" "I" ∈ wsGA := twGA_384 _ (List.mem_cons_self : Cond.fieldLink RX11 179 "SightedMonths$Report" "kind" "I" ∈ Cond.fieldLink RX11 179 "SightedMonths$Report" "kind" "I" :: wtGA_385)
theorem twGA_385 : ∀ w ∈ wtGA_385, w ∈ wsGA := fun w h => twGA_384 w (List.mem_cons_of_mem (Cond.fieldLink RX11 179 "SightedMonths$Report" "kind" "I") h)
theorem mGA_385 : Cond.fieldLink RX11 182 "SightedMonths$Report" "month" "I" ∈ wsGA := twGA_385 _ (List.mem_cons_self : Cond.fieldLink RX11 182 "SightedMonths$Report" "month" "I" ∈ Cond.fieldLink RX11 182 "SightedMonths$Report" "month" "I" :: wtGA_386)
theorem twGA_386 : ∀ w ∈ wtGA_386, w ∈ wsGA := fun w h => twGA_385 w (List.mem_cons_of_mem (Cond.fieldLink RX11 182 "SightedMonths$Report" "month" "I") h)
theorem mGA_386 : Cond.fieldLink RX11 185 "SightedMonths$Report" "day" "I" ∈ wsGA := twGA_386 _ (List.mem_cons_self : Cond.fieldLink RX11 185 "SightedMonths$Report" "day" "I" ∈ Cond.fieldLink RX11 185 "SightedMonths$Report" "day" "I" :: wtGA_387)
theorem twGA_387 : ∀ w ∈ wtGA_387, w ∈ wsGA := fun w h => twGA_386 w (List.mem_cons_of_mem (Cond.fieldLink RX11 185 "SightedMonths$Report" "day" "I") h)
theorem mGA_387 : Cond.fieldLink RX11 188 "SightedMonths$Report" "known" "I" ∈ wsGA := twGA_387 _ (List.mem_cons_self : Cond.fieldLink RX11 188 "SightedMonths$Report" "known" "I" ∈ Cond.fieldLink RX11 188 "SightedMonths$Report" "known" "I" :: wtGA_388)
theorem twGA_388 : ∀ w ∈ wtGA_388, w ∈ wsGA := fun w h => twGA_387 w (List.mem_cons_of_mem (Cond.fieldLink RX11 188 "SightedMonths$Report" "known" "I") h)
theorem mGA_388 : Cond.methodLink RX11 164 yX11_hasReport ∈ wsGA := twGA_388 _ (List.mem_cons_self : Cond.methodLink RX11 164 yX11_hasReport ∈ Cond.methodLink RX11 164 yX11_hasReport :: wtGA_389)
theorem twGA_389 : ∀ w ∈ wtGA_389, w ∈ wsGA := fun w h => twGA_388 w (List.mem_cons_of_mem (Cond.methodLink RX11 164 yX11_hasReport) h)
theorem mGA_389 : Cond.instanceMethod yX11_hasReport ∈ wsGA := twGA_389 _ (List.mem_cons_self : Cond.instanceMethod yX11_hasReport ∈ Cond.instanceMethod yX11_hasReport :: wtGA_390)
theorem twGA_390 : ∀ w ∈ wtGA_390, w ∈ wsGA := fun w h => twGA_389 w (List.mem_cons_of_mem (Cond.instanceMethod yX11_hasReport) h)
theorem mGA_390 : Cond.selects RX11 yX11_hasReport yX11_hasReport ∈ wsGA := twGA_390 _ (List.mem_cons_self : Cond.selects RX11 yX11_hasReport yX11_hasReport ∈ Cond.selects RX11 yX11_hasReport yX11_hasReport :: wtGA_391)
theorem twGA_391 : ∀ w ∈ wtGA_391, w ∈ wsGA := fun w h => twGA_390 w (List.mem_cons_of_mem (Cond.selects RX11 yX11_hasReport yX11_hasReport) h)
theorem mGA_391 : Cond.code yX11_hasReport cX11_hasReport 2 (some .boolean) ∈ wsGA := twGA_391 _ (List.mem_cons_self : Cond.code yX11_hasReport cX11_hasReport 2 (some .boolean) ∈ Cond.code yX11_hasReport cX11_hasReport 2 (some .boolean) :: wtGA_392)
theorem twGA_392 : ∀ w ∈ wtGA_392, w ∈ wsGA := fun w h => twGA_391 w (List.mem_cons_of_mem (Cond.code yX11_hasReport cX11_hasReport 2 (some .boolean)) h)
theorem mGA_392 : Cond.instanceMethod yX11_deed ∈ wsGA := twGA_392 _ (List.mem_cons_self : Cond.instanceMethod yX11_deed ∈ Cond.instanceMethod yX11_deed :: wtGA_393)
theorem twGA_393 : ∀ w ∈ wtGA_393, w ∈ wsGA := fun w h => twGA_392 w (List.mem_cons_of_mem (Cond.instanceMethod yX11_deed) h)
theorem mGA_393 : Cond.selects RX11 yX11_deed yX11_deed ∈ wsGA := twGA_393 _ (List.mem_cons_self : Cond.selects RX11 yX11_deed yX11_deed ∈ Cond.selects RX11 yX11_deed yX11_deed :: wtGA_394)
theorem twGA_394 : ∀ w ∈ wtGA_394, w ∈ wsGA := fun w h => twGA_393 w (List.mem_cons_of_mem (Cond.selects RX11 yX11_deed yX11_deed) h)
theorem mGA_394 : Cond.code yX11_deed cX11_deed 4 (some .int) ∈ wsGA := twGA_394 _ (List.mem_cons_self : Cond.code yX11_deed cX11_deed 4 (some .int) ∈ Cond.code yX11_deed cX11_deed 4 (some .int) :: wtGA_395)
theorem twGA_395 : ∀ w ∈ wtGA_395, w ∈ wsGA := fun w h => twGA_394 w (List.mem_cons_of_mem (Cond.code yX11_deed cX11_deed 4 (some .int)) h)
theorem mGA_395 : Cond.fieldLink RX11 194 "SightedMonths$Almanac" "deeds" "[LSightedMonths$Deed;" ∈ wsGA := twGA_395 _ (List.mem_cons_self : Cond.fieldLink RX11 194 "SightedMonths$Almanac" "deeds" "[LSightedMonths$Deed;" ∈ Cond.fieldLink RX11 194 "SightedMonths$Almanac" "deeds" "[LSightedMonths$Deed;" :: wtGA_396)
theorem twGA_396 : ∀ w ∈ wtGA_396, w ∈ wsGA := fun w h => twGA_395 w (List.mem_cons_of_mem (Cond.fieldLink RX11 194 "SightedMonths$Almanac" "deeds" "[LSightedMonths$Deed;") h)
theorem mGA_396 : Cond.fieldLink RX11 198 "SightedMonths$Deed" "month" "I" ∈ wsGA := twGA_396 _ (List.mem_cons_self : Cond.fieldLink RX11 198 "SightedMonths$Deed" "month" "I" ∈ Cond.fieldLink RX11 198 "SightedMonths$Deed" "month" "I" :: wtGA_397)
theorem twGA_397 : ∀ w ∈ wtGA_397, w ∈ wsGA := fun w h => twGA_396 w (List.mem_cons_of_mem (Cond.fieldLink RX11 198 "SightedMonths$Deed" "month" "I") h)
theorem mGA_397 : Cond.fieldLink RX11 201 "SightedMonths$Deed" "day" "I" ∈ wsGA := twGA_397 _ (List.mem_cons_self : Cond.fieldLink RX11 201 "SightedMonths$Deed" "day" "I" ∈ Cond.fieldLink RX11 201 "SightedMonths$Deed" "day" "I" :: wtGA_398)
theorem twGA_398 : ∀ w ∈ wtGA_398, w ∈ wsGA := fun w h => twGA_397 w (List.mem_cons_of_mem (Cond.fieldLink RX11 201 "SightedMonths$Deed" "day" "I") h)
theorem mGA_398 : Cond.fieldLink RX11 202 "SightedMonths$Deed" "length" "I" ∈ wsGA := twGA_398 _ (List.mem_cons_self : Cond.fieldLink RX11 202 "SightedMonths$Deed" "length" "I" ∈ Cond.fieldLink RX11 202 "SightedMonths$Deed" "length" "I" :: wtGA_399)
theorem twGA_399 : ∀ w ∈ wtGA_399, w ∈ wsGA := fun w h => twGA_398 w (List.mem_cons_of_mem (Cond.fieldLink RX11 202 "SightedMonths$Deed" "length" "I") h)
theorem mGA_399 : Cond.fieldLink RX11 203 "SightedMonths$Deed" "inDays" "Z" ∈ wsGA := twGA_399 _ (List.mem_cons_self : Cond.fieldLink RX11 203 "SightedMonths$Deed" "inDays" "Z" ∈ Cond.fieldLink RX11 203 "SightedMonths$Deed" "inDays" "Z" :: wtGA_400)
theorem twGA_400 : ∀ w ∈ wtGA_400, w ∈ wsGA := fun w h => twGA_399 w (List.mem_cons_of_mem (Cond.fieldLink RX11 203 "SightedMonths$Deed" "inDays" "Z") h)
theorem mGA_400 : Cond.methodLink RX11 191 yX11_hasDeed ∈ wsGA := twGA_400 _ (List.mem_cons_self : Cond.methodLink RX11 191 yX11_hasDeed ∈ Cond.methodLink RX11 191 yX11_hasDeed :: wtGA_401)
theorem twGA_401 : ∀ w ∈ wtGA_401, w ∈ wsGA := fun w h => twGA_400 w (List.mem_cons_of_mem (Cond.methodLink RX11 191 yX11_hasDeed) h)
theorem mGA_401 : Cond.instanceMethod yX11_hasDeed ∈ wsGA := twGA_401 _ (List.mem_cons_self : Cond.instanceMethod yX11_hasDeed ∈ Cond.instanceMethod yX11_hasDeed :: wtGA_402)
theorem twGA_402 : ∀ w ∈ wtGA_402, w ∈ wsGA := fun w h => twGA_401 w (List.mem_cons_of_mem (Cond.instanceMethod yX11_hasDeed) h)
theorem mGA_402 : Cond.selects RX11 yX11_hasDeed yX11_hasDeed ∈ wsGA := twGA_402 _ (List.mem_cons_self : Cond.selects RX11 yX11_hasDeed yX11_hasDeed ∈ Cond.selects RX11 yX11_hasDeed yX11_hasDeed :: wtGA_403)
theorem twGA_403 : ∀ w ∈ wtGA_403, w ∈ wsGA := fun w h => twGA_402 w (List.mem_cons_of_mem (Cond.selects RX11 yX11_hasDeed yX11_hasDeed) h)
theorem mGA_403 : Cond.code yX11_hasDeed cX11_hasDeed 2 (some .boolean) ∈ wsGA := twGA_403 _ (List.mem_cons_self : Cond.code yX11_hasDeed cX11_hasDeed 2 (some .boolean) ∈ Cond.code yX11_hasDeed cX11_hasDeed 2 (some .boolean) :: wtGA_404)
theorem twGA_404 : ∀ w ∈ wtGA_404, w ∈ wsGA := fun w h => twGA_403 w (List.mem_cons_of_mem (Cond.code yX11_hasDeed cX11_hasDeed 2 (some .boolean)) h)
theorem mGA_404 : Cond.instanceMethod yX11_early ∈ wsGA := twGA_404 _ (List.mem_cons_self : Cond.instanceMethod yX11_early ∈ Cond.instanceMethod yX11_early :: wtGA_405)
theorem twGA_405 : ∀ w ∈ wtGA_405, w ∈ wsGA := fun w h => twGA_404 w (List.mem_cons_of_mem (Cond.instanceMethod yX11_early) h)
theorem mGA_405 : Cond.selects RX11 yX11_early yX11_early ∈ wsGA := twGA_405 _ (List.mem_cons_self : Cond.selects RX11 yX11_early yX11_early ∈ Cond.selects RX11 yX11_early yX11_early :: wtGA_406)
theorem twGA_406 : ∀ w ∈ wtGA_406, w ∈ wsGA := fun w h => twGA_405 w (List.mem_cons_of_mem (Cond.selects RX11 yX11_early yX11_early) h)
theorem mGA_406 : Cond.code yX11_early cX11_early 2 (some .int) ∈ wsGA := twGA_406 _ (List.mem_cons_self : Cond.code yX11_early cX11_early 2 (some .int) ∈ Cond.code yX11_early cX11_early 2 (some .int) :: wtGA_407)
theorem twGA_407 : ∀ w ∈ wtGA_407, w ∈ wsGA := fun w h => twGA_406 w (List.mem_cons_of_mem (Cond.code yX11_early cX11_early 2 (some .int)) h)
theorem mGA_407 : Cond.fieldLink RX11 206 "SightedMonths$Almanac" "hasMoon" "Z" ∈ wsGA := twGA_407 _ (List.mem_cons_self : Cond.fieldLink RX11 206 "SightedMonths$Almanac" "hasMoon" "Z" ∈ Cond.fieldLink RX11 206 "SightedMonths$Almanac" "hasMoon" "Z" :: wtGA_408)
theorem twGA_408 : ∀ w ∈ wtGA_408, w ∈ wsGA := fun w h => twGA_407 w (List.mem_cons_of_mem (Cond.fieldLink RX11 206 "SightedMonths$Almanac" "hasMoon" "Z") h)
theorem mGA_408 : Cond.methodLink RX11 209 yX11_hasMonth ∈ wsGA := twGA_408 _ (List.mem_cons_self : Cond.methodLink RX11 209 yX11_hasMonth ∈ Cond.methodLink RX11 209 yX11_hasMonth :: wtGA_409)
theorem twGA_409 : ∀ w ∈ wtGA_409, w ∈ wsGA := fun w h => twGA_408 w (List.mem_cons_of_mem (Cond.methodLink RX11 209 yX11_hasMonth) h)
theorem mGA_409 : Cond.instanceMethod yX11_hasMonth ∈ wsGA := twGA_409 _ (List.mem_cons_self : Cond.instanceMethod yX11_hasMonth ∈ Cond.instanceMethod yX11_hasMonth :: wtGA_410)
theorem twGA_410 : ∀ w ∈ wtGA_410, w ∈ wsGA := fun w h => twGA_409 w (List.mem_cons_of_mem (Cond.instanceMethod yX11_hasMonth) h)
theorem mGA_410 : Cond.selects RX11 yX11_hasMonth yX11_hasMonth ∈ wsGA := twGA_410 _ (List.mem_cons_self : Cond.selects RX11 yX11_hasMonth yX11_hasMonth ∈ Cond.selects RX11 yX11_hasMonth yX11_hasMonth :: wtGA_411)
theorem twGA_411 : ∀ w ∈ wtGA_411, w ∈ wsGA := fun w h => twGA_410 w (List.mem_cons_of_mem (Cond.selects RX11 yX11_hasMonth yX11_hasMonth) h)
theorem mGA_411 : Cond.code yX11_hasMonth cX11_hasMonth 4 (some .boolean) ∈ wsGA := twGA_411 _ (List.mem_cons_self : Cond.code yX11_hasMonth cX11_hasMonth 4 (some .boolean) ∈ Cond.code yX11_hasMonth cX11_hasMonth 4 (some .boolean) :: wtGA_412)
theorem twGA_412 : ∀ w ∈ wtGA_412, w ∈ wsGA := fun w h => twGA_411 w (List.mem_cons_of_mem (Cond.code yX11_hasMonth cX11_hasMonth 4 (some .boolean)) h)
theorem mGA_412 : Cond.methodLink RX11 395 yX11_isTold ∈ wsGA := twGA_412 _ (List.mem_cons_self : Cond.methodLink RX11 395 yX11_isTold ∈ Cond.methodLink RX11 395 yX11_isTold :: wtGA_413)
theorem twGA_413 : ∀ w ∈ wtGA_413, w ∈ wsGA := fun w h => twGA_412 w (List.mem_cons_of_mem (Cond.methodLink RX11 395 yX11_isTold) h)
theorem mGA_413 : Cond.instanceMethod yX11_isTold ∈ wsGA := twGA_413 _ (List.mem_cons_self : Cond.instanceMethod yX11_isTold ∈ Cond.instanceMethod yX11_isTold :: wtGA_414)
theorem twGA_414 : ∀ w ∈ wtGA_414, w ∈ wsGA := fun w h => twGA_413 w (List.mem_cons_of_mem (Cond.instanceMethod yX11_isTold) h)
theorem mGA_414 : Cond.selects RX11 yX11_isTold yX11_isTold ∈ wsGA := twGA_414 _ (List.mem_cons_self : Cond.selects RX11 yX11_isTold yX11_isTold ∈ Cond.selects RX11 yX11_isTold yX11_isTold :: wtGA_415)
theorem twGA_415 : ∀ w ∈ wtGA_415, w ∈ wsGA := fun w h => twGA_414 w (List.mem_cons_of_mem (Cond.selects RX11 yX11_isTold yX11_isTold) h)
theorem mGA_415 : Cond.code yX11_isTold cX11_isTold 1 (some .boolean) ∈ wsGA := twGA_415 _ (List.mem_cons_self : Cond.code yX11_isTold cX11_isTold 1 (some .boolean) ∈ Cond.code yX11_isTold cX11_isTold 1 (some .boolean) :: wtGA_416)
theorem twGA_416 : ∀ w ∈ wtGA_416, w ∈ wsGA := fun w h => twGA_415 w (List.mem_cons_of_mem (Cond.code yX11_isTold cX11_isTold 1 (some .boolean)) h)
theorem mGA_416 : Cond.methodLink RX11 213 yX0_earlyOf ∈ wsGA := twGA_416 _ (List.mem_cons_self : Cond.methodLink RX11 213 yX0_earlyOf ∈ Cond.methodLink RX11 213 yX0_earlyOf :: wtGA_417)
theorem twGA_417 : ∀ w ∈ wtGA_417, w ∈ wsGA := fun w h => twGA_416 w (List.mem_cons_of_mem (Cond.methodLink RX11 213 yX0_earlyOf) h)
theorem mGA_417 : Cond.instanceMethod yX0_earlyOf ∈ wsGA := twGA_417 _ (List.mem_cons_self : Cond.instanceMethod yX0_earlyOf ∈ Cond.instanceMethod yX0_earlyOf :: wtGA_418)
theorem twGA_418 : ∀ w ∈ wtGA_418, w ∈ wsGA := fun w h => twGA_417 w (List.mem_cons_of_mem (Cond.instanceMethod yX0_earlyOf) h)
theorem mGA_418 : Cond.selects RX0 yX0_earlyOf yX0_earlyOf ∈ wsGA := twGA_418 _ (List.mem_cons_self : Cond.selects RX0 yX0_earlyOf yX0_earlyOf ∈ Cond.selects RX0 yX0_earlyOf yX0_earlyOf :: wtGA_419)
theorem twGA_419 : ∀ w ∈ wtGA_419, w ∈ wsGA := fun w h => twGA_418 w (List.mem_cons_of_mem (Cond.selects RX0 yX0_earlyOf yX0_earlyOf) h)
theorem mGA_419 : Cond.code yX0_earlyOf cX0_earlyOf 2 (some .int) ∈ wsGA := twGA_419 _ (List.mem_cons_self : Cond.code yX0_earlyOf cX0_earlyOf 2 (some .int) ∈ Cond.code yX0_earlyOf cX0_earlyOf 2 (some .int) :: wtGA_420)
theorem twGA_420 : ∀ w ∈ wtGA_420, w ∈ wsGA := fun w h => twGA_419 w (List.mem_cons_of_mem (Cond.code yX0_earlyOf cX0_earlyOf 2 (some .int)) h)
theorem mGA_420 : Cond.instanceMethod yX11_judged ∈ wsGA := twGA_420 _ (List.mem_cons_self : Cond.instanceMethod yX11_judged ∈ Cond.instanceMethod yX11_judged :: wtGA_421)
theorem twGA_421 : ∀ w ∈ wtGA_421, w ∈ wsGA := fun w h => twGA_420 w (List.mem_cons_of_mem (Cond.instanceMethod yX11_judged) h)
theorem mGA_421 : Cond.selects RX11 yX11_judged yX11_judged ∈ wsGA := twGA_421 _ (List.mem_cons_self : Cond.selects RX11 yX11_judged yX11_judged ∈ Cond.selects RX11 yX11_judged yX11_judged :: wtGA_422)
theorem twGA_422 : ∀ w ∈ wtGA_422, w ∈ wsGA := fun w h => twGA_421 w (List.mem_cons_of_mem (Cond.selects RX11 yX11_judged yX11_judged) h)
theorem mGA_422 : Cond.code yX11_judged cX11_judged 3 (some .int) ∈ wsGA := twGA_422 _ (List.mem_cons_self : Cond.code yX11_judged cX11_judged 3 (some .int) ∈ Cond.code yX11_judged cX11_judged 3 (some .int) :: wtGA_423)
theorem twGA_423 : ∀ w ∈ wtGA_423, w ∈ wsGA := fun w h => twGA_422 w (List.mem_cons_of_mem (Cond.code yX11_judged cX11_judged 3 (some .int)) h)
theorem mGA_423 : Cond.fieldLink RX11 223 "SightedMonths$Court" "verdicts" "[I" ∈ wsGA := twGA_423 _ (List.mem_cons_self : Cond.fieldLink RX11 223 "SightedMonths$Court" "verdicts" "[I" ∈ Cond.fieldLink RX11 223 "SightedMonths$Court" "verdicts" "[I" :: wtGA_424)
theorem twGA_424 : ∀ w ∈ wtGA_424, w ∈ wsGA := fun w h => twGA_423 w (List.mem_cons_of_mem (Cond.fieldLink RX11 223 "SightedMonths$Court" "verdicts" "[I") h)
theorem mGA_424 : Cond.methodLink RX11 216 yX11_hasTime ∈ wsGA := twGA_424 _ (List.mem_cons_self : Cond.methodLink RX11 216 yX11_hasTime ∈ Cond.methodLink RX11 216 yX11_hasTime :: wtGA_425)
theorem twGA_425 : ∀ w ∈ wtGA_425, w ∈ wsGA := fun w h => twGA_424 w (List.mem_cons_of_mem (Cond.methodLink RX11 216 yX11_hasTime) h)
theorem mGA_425 : Cond.instanceMethod yX11_hasTime ∈ wsGA := twGA_425 _ (List.mem_cons_self : Cond.instanceMethod yX11_hasTime ∈ Cond.instanceMethod yX11_hasTime :: wtGA_426)
theorem twGA_426 : ∀ w ∈ wtGA_426, w ∈ wsGA := fun w h => twGA_425 w (List.mem_cons_of_mem (Cond.instanceMethod yX11_hasTime) h)
theorem mGA_426 : Cond.selects RX11 yX11_hasTime yX11_hasTime ∈ wsGA := twGA_426 _ (List.mem_cons_self : Cond.selects RX11 yX11_hasTime yX11_hasTime ∈ Cond.selects RX11 yX11_hasTime yX11_hasTime :: wtGA_427)
theorem twGA_427 : ∀ w ∈ wtGA_427, w ∈ wsGA := fun w h => twGA_426 w (List.mem_cons_of_mem (Cond.selects RX11 yX11_hasTime yX11_hasTime) h)
theorem mGA_427 : Cond.code yX11_hasTime cX11_hasTime 2 (some .boolean) ∈ wsGA := twGA_427 _ (List.mem_cons_self : Cond.code yX11_hasTime cX11_hasTime 2 (some .boolean) ∈ Cond.code yX11_hasTime cX11_hasTime 2 (some .boolean) :: wtGA_428)
theorem twGA_428 : ∀ w ∈ wtGA_428, w ∈ wsGA := fun w h => twGA_427 w (List.mem_cons_of_mem (Cond.code yX11_hasTime cX11_hasTime 2 (some .boolean)) h)
theorem mGA_428 : Cond.methodLink RX11 219 yX11_courtBy ∈ wsGA := twGA_428 _ (List.mem_cons_self : Cond.methodLink RX11 219 yX11_courtBy ∈ Cond.methodLink RX11 219 yX11_courtBy :: wtGA_429)
theorem twGA_429 : ∀ w ∈ wtGA_429, w ∈ wsGA := fun w h => twGA_428 w (List.mem_cons_of_mem (Cond.methodLink RX11 219 yX11_courtBy) h)
theorem mGA_429 : Cond.instanceMethod yX11_courtBy ∈ wsGA := twGA_429 _ (List.mem_cons_self : Cond.instanceMethod yX11_courtBy ∈ Cond.instanceMethod yX11_courtBy :: wtGA_430)
theorem twGA_430 : ∀ w ∈ wtGA_430, w ∈ wsGA := fun w h => twGA_429 w (List.mem_cons_of_mem (Cond.instanceMethod yX11_courtBy) h)
theorem mGA_430 : Cond.selects RX11 yX11_courtBy yX11_courtBy ∈ wsGA := twGA_430 _ (List.mem_cons_self : Cond.selects RX11 yX11_courtBy yX11_courtBy ∈ Cond.selects RX11 yX11_courtBy yX11_courtBy :: wtGA_431)
theorem twGA_431 : ∀ w ∈ wtGA_431, w ∈ wsGA := fun w h => twGA_430 w (List.mem_cons_of_mem (Cond.selects RX11 yX11_courtBy yX11_courtBy) h)
theorem mGA_431 : Cond.code yX11_courtBy cX11_courtBy 3 (some (.object "SightedMonths$Court")) ∈ wsGA := twGA_431 _ (List.mem_cons_self : Cond.code yX11_courtBy cX11_courtBy 3 (some (.object "SightedMonths$Court")) ∈ Cond.code yX11_courtBy cX11_courtBy 3 (some (.object "SightedMonths$Court")) :: wtGA_432)
theorem twGA_432 : ∀ w ∈ wtGA_432, w ∈ wsGA := fun w h => twGA_431 w (List.mem_cons_of_mem (Cond.code yX11_courtBy cX11_courtBy 3 (some (.object "SightedMonths$Court"))) h)
theorem mGA_432 : Cond.methodLink RX11 403 yX0_latestNews ∈ wsGA := twGA_432 _ (List.mem_cons_self : Cond.methodLink RX11 403 yX0_latestNews ∈ Cond.methodLink RX11 403 yX0_latestNews :: wtGA_433)
theorem twGA_433 : ∀ w ∈ wtGA_433, w ∈ wsGA := fun w h => twGA_432 w (List.mem_cons_of_mem (Cond.methodLink RX11 403 yX0_latestNews) h)
theorem mGA_433 : Cond.instanceMethod yX0_latestNews ∈ wsGA := twGA_433 _ (List.mem_cons_self : Cond.instanceMethod yX0_latestNews ∈ Cond.instanceMethod yX0_latestNews :: wtGA_434)
theorem twGA_434 : ∀ w ∈ wtGA_434, w ∈ wsGA := fun w h => twGA_433 w (List.mem_cons_of_mem (Cond.instanceMethod yX0_latestNews) h)
theorem mGA_434 : Cond.selects RX0 yX0_latestNews yX0_latestNews ∈ wsGA := twGA_434 _ (List.mem_cons_self : Cond.selects RX0 yX0_latestNews yX0_latestNews ∈ Cond.selects RX0 yX0_latestNews yX0_latestNews :: wtGA_435)
theorem twGA_435 : ∀ w ∈ wtGA_435, w ∈ wsGA := fun w h => twGA_434 w (List.mem_cons_of_mem (Cond.selects RX0 yX0_latestNews yX0_latestNews) h)
theorem mGA_435 : Cond.code yX0_latestNews cX0_latestNews 4 (some .int) ∈ wsGA := twGA_435 _ (List.mem_cons_self : Cond.code yX0_latestNews cX0_latestNews 4 (some .int) ∈ Cond.code yX0_latestNews cX0_latestNews 4 (some .int) :: wtGA_436)
theorem twGA_436 : ∀ w ∈ wtGA_436, w ∈ wsGA := fun w h => twGA_435 w (List.mem_cons_of_mem (Cond.code yX0_latestNews cX0_latestNews 4 (some .int)) h)
theorem mGA_436 : Cond.methodLink RX0 115 Lib.Math.max.name ∈ wsGA := twGA_436 _ (List.mem_cons_self : Cond.methodLink RX0 115 Lib.Math.max.name ∈ Cond.methodLink RX0 115 Lib.Math.max.name :: wtGA_437)
theorem twGA_437 : ∀ w ∈ wtGA_437, w ∈ wsGA := fun w h => twGA_436 w (List.mem_cons_of_mem (Cond.methodLink RX0 115 Lib.Math.max.name) h)
theorem mGA_437 : Cond.methodLink RX0 111 yX7_isKnownBy ∈ wsGA := twGA_437 _ (List.mem_cons_self : Cond.methodLink RX0 111 yX7_isKnownBy ∈ Cond.methodLink RX0 111 yX7_isKnownBy :: wtGA_438)
theorem twGA_438 : ∀ w ∈ wtGA_438, w ∈ wsGA := fun w h => twGA_437 w (List.mem_cons_of_mem (Cond.methodLink RX0 111 yX7_isKnownBy) h)
theorem mGA_438 : Cond.instanceMethod yX7_isKnownBy ∈ wsGA := twGA_438 _ (List.mem_cons_self : Cond.instanceMethod yX7_isKnownBy ∈ Cond.instanceMethod yX7_isKnownBy :: wtGA_439)
theorem twGA_439 : ∀ w ∈ wtGA_439, w ∈ wsGA := fun w h => twGA_438 w (List.mem_cons_of_mem (Cond.instanceMethod yX7_isKnownBy) h)
theorem mGA_439 : Cond.selects RX7 yX7_isKnownBy yX7_isKnownBy ∈ wsGA := twGA_439 _ (List.mem_cons_self : Cond.selects RX7 yX7_isKnownBy yX7_isKnownBy ∈ Cond.selects RX7 yX7_isKnownBy yX7_isKnownBy :: wtGA_440)
theorem twGA_440 : ∀ w ∈ wtGA_440, w ∈ wsGA := fun w h => twGA_439 w (List.mem_cons_of_mem (Cond.selects RX7 yX7_isKnownBy yX7_isKnownBy) h)
theorem mGA_440 : Cond.code yX7_isKnownBy cX7_isKnownBy 2 (some .boolean) ∈ wsGA := twGA_440 _ (List.mem_cons_self : Cond.code yX7_isKnownBy cX7_isKnownBy 2 (some .boolean) ∈ Cond.code yX7_isKnownBy cX7_isKnownBy 2 (some .boolean) :: wtGA_441)
theorem twGA_441 : ∀ w ∈ wtGA_441, w ∈ wsGA := fun w h => twGA_440 w (List.mem_cons_of_mem (Cond.code yX7_isKnownBy cX7_isKnownBy 2 (some .boolean)) h)
theorem mGA_441 : Cond.fieldLink RX7 7 "SightedMonths$Report" "struck" "Z" ∈ wsGA := twGA_441 _ (List.mem_cons_self : Cond.fieldLink RX7 7 "SightedMonths$Report" "struck" "Z" ∈ Cond.fieldLink RX7 7 "SightedMonths$Report" "struck" "Z" :: wtGA_442)
theorem twGA_442 : ∀ w ∈ wtGA_442, w ∈ wsGA := fun w h => twGA_441 w (List.mem_cons_of_mem (Cond.fieldLink RX7 7 "SightedMonths$Report" "struck" "Z") h)
theorem mGA_442 : Cond.fieldLink RX7 13 "SightedMonths$Report" "known" "I" ∈ wsGA := twGA_442 _ (List.mem_cons_self : Cond.fieldLink RX7 13 "SightedMonths$Report" "known" "I" ∈ Cond.fieldLink RX7 13 "SightedMonths$Report" "known" "I" :: wtGA_443)
theorem twGA_443 : ∀ w ∈ wtGA_443, w ∈ wsGA := fun w h => twGA_442 w (List.mem_cons_of_mem (Cond.fieldLink RX7 13 "SightedMonths$Report" "known" "I") h)
theorem mGA_443 : Cond.methodLink RX11 254 yX1_judge ∈ wsGA := twGA_443 _ (List.mem_cons_self : Cond.methodLink RX11 254 yX1_judge ∈ Cond.methodLink RX11 254 yX1_judge :: wtGA_444)
theorem twGA_444 : ∀ w ∈ wtGA_444, w ∈ wsGA := fun w h => twGA_443 w (List.mem_cons_of_mem (Cond.methodLink RX11 254 yX1_judge) h)
theorem mGA_444 : Cond.instanceMethod yX1_judge ∈ wsGA := twGA_444 _ (List.mem_cons_self : Cond.instanceMethod yX1_judge ∈ Cond.instanceMethod yX1_judge :: wtGA_445)
theorem twGA_445 : ∀ w ∈ wtGA_445, w ∈ wsGA := fun w h => twGA_444 w (List.mem_cons_of_mem (Cond.instanceMethod yX1_judge) h)
theorem mGA_445 : Cond.selects RX1 yX1_judge yX1_judge ∈ wsGA := twGA_445 _ (List.mem_cons_self : Cond.selects RX1 yX1_judge yX1_judge ∈ Cond.selects RX1 yX1_judge yX1_judge :: wtGA_446)
theorem twGA_446 : ∀ w ∈ wtGA_446, w ∈ wsGA := fun w h => twGA_445 w (List.mem_cons_of_mem (Cond.selects RX1 yX1_judge yX1_judge) h)
theorem mGA_446 : Cond.code yX1_judge cX1_judge 5 none ∈ wsGA := twGA_446 _ (List.mem_cons_self : Cond.code yX1_judge cX1_judge 5 none ∈ Cond.code yX1_judge cX1_judge 5 none :: wtGA_447)
theorem twGA_447 : ∀ w ∈ wtGA_447, w ∈ wsGA := fun w h => twGA_446 w (List.mem_cons_of_mem (Cond.code yX1_judge cX1_judge 5 none) h)
theorem mGA_447 : Cond.fieldLink RX1 47 "SightedMonths$Almanac" "reports" "[LSightedMonths$Report;" ∈ wsGA := twGA_447 _ (List.mem_cons_self : Cond.fieldLink RX1 47 "SightedMonths$Almanac" "reports" "[LSightedMonths$Report;" ∈ Cond.fieldLink RX1 47 "SightedMonths$Almanac" "reports" "[LSightedMonths$Report;" :: wtGA_448)
theorem twGA_448 : ∀ w ∈ wtGA_448, w ∈ wsGA := fun w h => twGA_447 w (List.mem_cons_of_mem (Cond.fieldLink RX1 47 "SightedMonths$Almanac" "reports" "[LSightedMonths$Report;") h)
theorem mGA_448 : Cond.methodLink RX1 39 yX1_lineUp ∈ wsGA := twGA_448 _ (List.mem_cons_self : Cond.methodLink RX1 39 yX1_lineUp ∈ Cond.methodLink RX1 39 yX1_lineUp :: wtGA_449)
theorem twGA_449 : ∀ w ∈ wtGA_449, w ∈ wsGA := fun w h => twGA_448 w (List.mem_cons_of_mem (Cond.methodLink RX1 39 yX1_lineUp) h)
theorem mGA_449 : Cond.instanceMethod yX1_lineUp ∈ wsGA := twGA_449 _ (List.mem_cons_self : Cond.instanceMethod yX1_lineUp ∈ Cond.instanceMethod yX1_lineUp :: wtGA_450)
theorem twGA_450 : ∀ w ∈ wtGA_450, w ∈ wsGA := fun w h => twGA_449 w (List.mem_cons_of_mem (Cond.instanceMethod yX1_lineUp) h)
theorem mGA_450 : Cond.selects RX1 yX1_lineUp yX1_lineUp ∈ wsGA := twGA_450 _ (List.mem_cons_self : Cond.selects RX1 yX1_lineUp yX1_lineUp ∈ Cond.selects RX1 yX1_lineUp yX1_lineUp :: wtGA_451)
theorem twGA_451 : ∀ w ∈ wtGA_451, w ∈ wsGA := fun w h => twGA_450 w (List.mem_cons_of_mem (Cond.selects RX1 yX1_lineUp yX1_lineUp) h)
theorem mGA_451 : Cond.code yX1_lineUp cX1_lineUp 4 none ∈ wsGA := twGA_451 _ (List.mem_cons_self : Cond.code yX1_lineUp cX1_lineUp 4 none ∈ Cond.code yX1_lineUp cX1_lineUp 4 none :: wtGA_452)
theorem twGA_452 : ∀ w ∈ wtGA_452, w ∈ wsGA := fun w h => twGA_451 w (List.mem_cons_of_mem (Cond.code yX1_lineUp cX1_lineUp 4 none) h)
theorem mGA_452 : Cond.fieldLink RX1 65 "SightedMonths$Almanac" "reportCount" "I" ∈ wsGA := twGA_452 _ (List.mem_cons_self : Cond.fieldLink RX1 65 "SightedMonths$Almanac" "reportCount" "I" ∈ Cond.fieldLink RX1 65 "SightedMonths$Almanac" "reportCount" "I" :: wtGA_453)
theorem twGA_453 : ∀ w ∈ wtGA_453, w ∈ wsGA := fun w h => twGA_452 w (List.mem_cons_of_mem (Cond.fieldLink RX1 65 "SightedMonths$Almanac" "reportCount" "I") h)
theorem mGA_453 : Cond.methodLink RX1 68 yX7_isKnownBy ∈ wsGA := twGA_453 _ (List.mem_cons_self : Cond.methodLink RX1 68 yX7_isKnownBy ∈ Cond.methodLink RX1 68 yX7_isKnownBy :: wtGA_454)
theorem twGA_454 : ∀ w ∈ wtGA_454, w ∈ wsGA := fun w h => twGA_453 w (List.mem_cons_of_mem (Cond.methodLink RX1 68 yX7_isKnownBy) h)
theorem mGA_454 : Cond.methodLink RX1 74 yX1_turnOf ∈ wsGA := twGA_454 _ (List.mem_cons_self : Cond.methodLink RX1 74 yX1_turnOf ∈ Cond.methodLink RX1 74 yX1_turnOf :: wtGA_455)
theorem twGA_455 : ∀ w ∈ wtGA_455, w ∈ wsGA := fun w h => twGA_454 w (List.mem_cons_of_mem (Cond.methodLink RX1 74 yX1_turnOf) h)
theorem mGA_455 : Cond.static yX1_turnOf ∈ wsGA := twGA_455 _ (List.mem_cons_self : Cond.static yX1_turnOf ∈ Cond.static yX1_turnOf :: wtGA_456)
theorem twGA_456 : ∀ w ∈ wtGA_456, w ∈ wsGA := fun w h => twGA_455 w (List.mem_cons_of_mem (Cond.static yX1_turnOf) h)
theorem mGA_456 : Cond.code yX1_turnOf cX1_turnOf 6 (some .long) ∈ wsGA := twGA_456 _ (List.mem_cons_self : Cond.code yX1_turnOf cX1_turnOf 6 (some .long) ∈ Cond.code yX1_turnOf cX1_turnOf 6 (some .long) :: wtGA_457)
theorem twGA_457 : ∀ w ∈ wtGA_457, w ∈ wsGA := fun w h => twGA_456 w (List.mem_cons_of_mem (Cond.code yX1_turnOf cX1_turnOf 6 (some .long)) h)
theorem mGA_457 : Cond.fieldLink RX1 82 "SightedMonths$Almanac" "places" "[LSightedMonths$Place;" ∈ wsGA := twGA_457 _ (List.mem_cons_self : Cond.fieldLink RX1 82 "SightedMonths$Almanac" "places" "[LSightedMonths$Place;" ∈ Cond.fieldLink RX1 82 "SightedMonths$Almanac" "places" "[LSightedMonths$Place;" :: wtGA_458)
theorem twGA_458 : ∀ w ∈ wtGA_458, w ∈ wsGA := fun w h => twGA_457 w (List.mem_cons_of_mem (Cond.fieldLink RX1 82 "SightedMonths$Almanac" "places" "[LSightedMonths$Place;") h)
theorem mGA_458 : Cond.fieldLink RX1 86 "SightedMonths$Report" "place" "I" ∈ wsGA := twGA_458 _ (List.mem_cons_self : Cond.fieldLink RX1 86 "SightedMonths$Report" "place" "I" ∈ Cond.fieldLink RX1 86 "SightedMonths$Report" "place" "I" :: wtGA_459)
theorem twGA_459 : ∀ w ∈ wtGA_459, w ∈ wsGA := fun w h => twGA_458 w (List.mem_cons_of_mem (Cond.fieldLink RX1 86 "SightedMonths$Report" "place" "I") h)
theorem mGA_459 : Cond.fieldLink RX1 89 "SightedMonths$Place" "trust" "I" ∈ wsGA := twGA_459 _ (List.mem_cons_self : Cond.fieldLink RX1 89 "SightedMonths$Place" "trust" "I" ∈ Cond.fieldLink RX1 89 "SightedMonths$Place" "trust" "I" :: wtGA_460)
theorem twGA_460 : ∀ w ∈ wtGA_460, w ∈ wsGA := fun w h => twGA_459 w (List.mem_cons_of_mem (Cond.fieldLink RX1 89 "SightedMonths$Place" "trust" "I") h)
theorem mGA_460 : Cond.constantLong RX1 94 (387420489) ∈ wsGA := twGA_460 _ (List.mem_cons_self : Cond.constantLong RX1 94 (387420489) ∈ Cond.constantLong RX1 94 (387420489) :: wtGA_461)
theorem twGA_461 : ∀ w ∈ wtGA_461, w ∈ wsGA := fun w h => twGA_460 w (List.mem_cons_of_mem (Cond.constantLong RX1 94 (387420489)) h)
theorem mGA_461 : Cond.fieldLink RX1 96 "SightedMonths$Place" "name" "I" ∈ wsGA := twGA_461 _ (List.mem_cons_self : Cond.fieldLink RX1 96 "SightedMonths$Place" "name" "I" ∈ Cond.fieldLink RX1 96 "SightedMonths$Place" "name" "I" :: wtGA_462)
theorem twGA_462 : ∀ w ∈ wtGA_462, w ∈ wsGA := fun w h => twGA_461 w (List.mem_cons_of_mem (Cond.fieldLink RX1 96 "SightedMonths$Place" "name" "I") h)
theorem mGA_462 : Cond.constantLong RX1 99 (24) ∈ wsGA := twGA_462 _ (List.mem_cons_self : Cond.constantLong RX1 99 (24) ∈ Cond.constantLong RX1 99 (24) :: wtGA_463)
theorem twGA_463 : ∀ w ∈ wtGA_463, w ∈ wsGA := fun w h => twGA_462 w (List.mem_cons_of_mem (Cond.constantLong RX1 99 (24)) h)
theorem mGA_463 : Cond.fieldLink RX1 101 "SightedMonths$Report" "month" "I" ∈ wsGA := twGA_463 _ (List.mem_cons_self : Cond.fieldLink RX1 101 "SightedMonths$Report" "month" "I" ∈ Cond.fieldLink RX1 101 "SightedMonths$Report" "month" "I" :: wtGA_464)
theorem twGA_464 : ∀ w ∈ wtGA_464, w ∈ wsGA := fun w h => twGA_463 w (List.mem_cons_of_mem (Cond.fieldLink RX1 101 "SightedMonths$Report" "month" "I") h)
theorem mGA_464 : Cond.constantLong RX1 104 (1000) ∈ wsGA := twGA_464 _ (List.mem_cons_self : Cond.constantLong RX1 104 (1000) ∈ Cond.constantLong RX1 104 (1000) :: wtGA_465)
theorem twGA_465 : ∀ w ∈ wtGA_465, w ∈ wsGA := fun w h => twGA_464 w (List.mem_cons_of_mem (Cond.constantLong RX1 104 (1000)) h)
theorem mGA_465 : Cond.fieldLink RX1 106 "SightedMonths$Report" "day" "I" ∈ wsGA := twGA_465 _ (List.mem_cons_self : Cond.fieldLink RX1 106 "SightedMonths$Report" "day" "I" ∈ Cond.fieldLink RX1 106 "SightedMonths$Report" "day" "I" :: wtGA_466)
theorem twGA_466 : ∀ w ∈ wtGA_466, w ∈ wsGA := fun w h => twGA_465 w (List.mem_cons_of_mem (Cond.fieldLink RX1 106 "SightedMonths$Report" "day" "I") h)
theorem mGA_466 : Cond.constantLong RX1 109 (3) ∈ wsGA := twGA_466 _ (List.mem_cons_self : Cond.constantLong RX1 109 (3) ∈ Cond.constantLong RX1 109 (3) :: wtGA_467)
theorem twGA_467 : ∀ w ∈ wtGA_467, w ∈ wsGA := fun w h => twGA_466 w (List.mem_cons_of_mem (Cond.constantLong RX1 109 (3)) h)
theorem mGA_467 : Cond.fieldLink RX1 111 "SightedMonths$Report" "kind" "I" ∈ wsGA := twGA_467 _ (List.mem_cons_self : Cond.fieldLink RX1 111 "SightedMonths$Report" "kind" "I" ∈ Cond.fieldLink RX1 111 "SightedMonths$Report" "kind" "I" :: wtGA_468)
theorem twGA_468 : ∀ w ∈ wtGA_468, w ∈ wsGA := fun w h => twGA_467 w (List.mem_cons_of_mem (Cond.fieldLink RX1 111 "SightedMonths$Report" "kind" "I") h)
theorem mGA_468 : Cond.methodLink RX1 78 yX1_insert ∈ wsGA := twGA_468 _ (List.mem_cons_self : Cond.methodLink RX1 78 yX1_insert ∈ Cond.methodLink RX1 78 yX1_insert :: wtGA_469)
theorem twGA_469 : ∀ w ∈ wtGA_469, w ∈ wsGA := fun w h => twGA_468 w (List.mem_cons_of_mem (Cond.methodLink RX1 78 yX1_insert) h)
theorem mGA_469 : Cond.instanceMethod yX1_insert ∈ wsGA := twGA_469 _ (List.mem_cons_self : Cond.instanceMethod yX1_insert ∈ Cond.instanceMethod yX1_insert :: wtGA_470)
theorem twGA_470 : ∀ w ∈ wtGA_470, w ∈ wsGA := fun w h => twGA_469 w (List.mem_cons_of_mem (Cond.instanceMethod yX1_insert) h)
theorem mGA_470 : Cond.selects RX1 yX1_insert yX1_insert ∈ wsGA := twGA_470 _ (List.mem_cons_self : Cond.selects RX1 yX1_insert yX1_insert ∈ Cond.selects RX1 yX1_insert yX1_insert :: wtGA_471)
theorem twGA_471 : ∀ w ∈ wtGA_471, w ∈ wsGA := fun w h => twGA_470 w (List.mem_cons_of_mem (Cond.selects RX1 yX1_insert yX1_insert) h)
theorem mGA_471 : Cond.code yX1_insert cX1_insert 5 none ∈ wsGA := twGA_471 _ (List.mem_cons_self : Cond.code yX1_insert cX1_insert 5 none ∈ Cond.code yX1_insert cX1_insert 5 none :: wtGA_472)
theorem twGA_472 : ∀ w ∈ wtGA_472, w ∈ wsGA := fun w h => twGA_471 w (List.mem_cons_of_mem (Cond.code yX1_insert cX1_insert 5 none) h)
theorem mGA_472 : Cond.methodLink RX1 43 yX3_open ∈ wsGA := twGA_472 _ (List.mem_cons_self : Cond.methodLink RX1 43 yX3_open ∈ Cond.methodLink RX1 43 yX3_open :: wtGA_473)
theorem twGA_473 : ∀ w ∈ wtGA_473, w ∈ wsGA := fun w h => twGA_472 w (List.mem_cons_of_mem (Cond.methodLink RX1 43 yX3_open) h)
theorem mGA_473 : Cond.instanceMethod yX3_open ∈ wsGA := twGA_473 _ (List.mem_cons_self : Cond.instanceMethod yX3_open ∈ Cond.instanceMethod yX3_open :: wtGA_474)
theorem twGA_474 : ∀ w ∈ wtGA_474, w ∈ wsGA := fun w h => twGA_473 w (List.mem_cons_of_mem (Cond.instanceMethod yX3_open) h)
theorem mGA_474 : Cond.selects RX3 yX3_open yX3_open ∈ wsGA := twGA_474 _ (List.mem_cons_self : Cond.selects RX3 yX3_open yX3_open ∈ Cond.selects RX3 yX3_open yX3_open :: wtGA_475)
theorem twGA_475 : ∀ w ∈ wtGA_475, w ∈ wsGA := fun w h => twGA_474 w (List.mem_cons_of_mem (Cond.selects RX3 yX3_open yX3_open) h)
theorem mGA_475 : Cond.code yX3_open cX3_open 3 none ∈ wsGA := twGA_475 _ (List.mem_cons_self : Cond.code yX3_open cX3_open 3 none ∈ Cond.code yX3_open cX3_open 3 none :: wtGA_476)
theorem twGA_476 : ∀ w ∈ wtGA_476, w ∈ wsGA := fun w h => twGA_475 w (List.mem_cons_of_mem (Cond.code yX3_open cX3_open 3 none) h)
theorem mGA_476 : Cond.fieldLink RX3 18 "SightedMonths$Almanac" "months" "I" ∈ wsGA := twGA_476 _ (List.mem_cons_self : Cond.fieldLink RX3 18 "SightedMonths$Almanac" "months" "I" ∈ Cond.fieldLink RX3 18 "SightedMonths$Almanac" "months" "I" :: wtGA_477)
theorem twGA_477 : ∀ w ∈ wtGA_477, w ∈ wsGA := fun w h => twGA_476 w (List.mem_cons_of_mem (Cond.fieldLink RX3 18 "SightedMonths$Almanac" "months" "I") h)
theorem mGA_477 : Cond.fieldLink RX3 24 "SightedMonths$Frame" "months" "I" ∈ wsGA := twGA_477 _ (List.mem_cons_self : Cond.fieldLink RX3 24 "SightedMonths$Frame" "months" "I" ∈ Cond.fieldLink RX3 24 "SightedMonths$Frame" "months" "I" :: wtGA_478)
theorem twGA_478 : ∀ w ∈ wtGA_478, w ∈ wsGA := fun w h => twGA_477 w (List.mem_cons_of_mem (Cond.fieldLink RX3 24 "SightedMonths$Frame" "months" "I") h)
theorem mGA_478 : Cond.fieldLink RX3 25 "SightedMonths$Almanac" "full" "I" ∈ wsGA := twGA_478 _ (List.mem_cons_self : Cond.fieldLink RX3 25 "SightedMonths$Almanac" "full" "I" ∈ Cond.fieldLink RX3 25 "SightedMonths$Almanac" "full" "I" :: wtGA_479)
theorem twGA_479 : ∀ w ∈ wtGA_479, w ∈ wsGA := fun w h => twGA_478 w (List.mem_cons_of_mem (Cond.fieldLink RX3 25 "SightedMonths$Almanac" "full" "I") h)
theorem mGA_479 : Cond.fieldLink RX3 28 "SightedMonths$Frame" "full" "I" ∈ wsGA := twGA_479 _ (List.mem_cons_self : Cond.fieldLink RX3 28 "SightedMonths$Frame" "full" "I" ∈ Cond.fieldLink RX3 28 "SightedMonths$Frame" "full" "I" :: wtGA_480)
theorem twGA_480 : ∀ w ∈ wtGA_480, w ∈ wsGA := fun w h => twGA_479 w (List.mem_cons_of_mem (Cond.fieldLink RX3 28 "SightedMonths$Frame" "full" "I") h)
theorem mGA_480 : Cond.fieldLink RX3 29 "SightedMonths$Almanac" "lean" "I" ∈ wsGA := twGA_480 _ (List.mem_cons_self : Cond.fieldLink RX3 29 "SightedMonths$Almanac" "lean" "I" ∈ Cond.fieldLink RX3 29 "SightedMonths$Almanac" "lean" "I" :: wtGA_481)
theorem twGA_481 : ∀ w ∈ wtGA_481, w ∈ wsGA := fun w h => twGA_480 w (List.mem_cons_of_mem (Cond.fieldLink RX3 29 "SightedMonths$Almanac" "lean" "I") h)
theorem mGA_481 : Cond.fieldLink RX3 32 "SightedMonths$Frame" "lean" "I" ∈ wsGA := twGA_481 _ (List.mem_cons_self : Cond.fieldLink RX3 32 "SightedMonths$Frame" "lean" "I" ∈ Cond.fieldLink RX3 32 "SightedMonths$Frame" "lean" "I" :: wtGA_482)
theorem twGA_482 : ∀ w ∈ wtGA_482, w ∈ wsGA := fun w h => twGA_481 w (List.mem_cons_of_mem (Cond.fieldLink RX3 32 "SightedMonths$Frame" "lean" "I") h)
theorem mGA_482 : Cond.methodLink RX1 53 yX1_verdictOn ∈ wsGA := twGA_482 _ (List.mem_cons_self : Cond.methodLink RX1 53 yX1_verdictOn ∈ Cond.methodLink RX1 53 yX1_verdictOn :: wtGA_483)
theorem twGA_483 : ∀ w ∈ wtGA_483, w ∈ wsGA := fun w h => twGA_482 w (List.mem_cons_of_mem (Cond.methodLink RX1 53 yX1_verdictOn) h)
theorem mGA_483 : Cond.instanceMethod yX1_verdictOn ∈ wsGA := twGA_483 _ (List.mem_cons_self : Cond.instanceMethod yX1_verdictOn ∈ Cond.instanceMethod yX1_verdictOn :: wtGA_484)
theorem twGA_484 : ∀ w ∈ wtGA_484, w ∈ wsGA := fun w h => twGA_483 w (List.mem_cons_of_mem (Cond.instanceMethod yX1_verdictOn) h)
theorem mGA_484 : Cond.selects RX1 yX1_verdictOn yX1_verdictOn ∈ wsGA := twGA_484 _ (List.mem_cons_self : Cond.selects RX1 yX1_verdictOn yX1_verdictOn ∈ Cond.selects RX1 yX1_verdictOn yX1_verdictOn :: wtGA_485)
theorem twGA_485 : ∀ w ∈ wtGA_485, w ∈ wsGA := fun w h => twGA_484 w (List.mem_cons_of_mem (Cond.selects RX1 yX1_verdictOn yX1_verdictOn) h)
theorem mGA_485 : Cond.code yX1_verdictOn cX1_verdictOn 5 (some .int) ∈ wsGA := twGA_485 _ (List.mem_cons_self : Cond.code yX1_verdictOn cX1_verdictOn 5 (some .int) ∈ Cond.code yX1_verdictOn cX1_verdictOn 5 (some .int) :: wtGA_486)
theorem twGA_486 : ∀ w ∈ wtGA_486, w ∈ wsGA := fun w h => twGA_485 w (List.mem_cons_of_mem (Cond.code yX1_verdictOn cX1_verdictOn 5 (some .int)) h)
theorem mGA_486 : Cond.fieldLink RX1 114 "SightedMonths$Almanac" "hasMoon" "Z" ∈ wsGA := twGA_486 _ (List.mem_cons_self : Cond.fieldLink RX1 114 "SightedMonths$Almanac" "hasMoon" "Z" ∈ Cond.fieldLink RX1 114 "SightedMonths$Almanac" "hasMoon" "Z" :: wtGA_487)
theorem twGA_487 : ∀ w ∈ wtGA_487, w ∈ wsGA := fun w h => twGA_486 w (List.mem_cons_of_mem (Cond.fieldLink RX1 114 "SightedMonths$Almanac" "hasMoon" "Z") h)
theorem mGA_487 : Cond.fieldLink RX1 122 "SightedMonths$Frame" "allowed" "[I" ∈ wsGA := twGA_487 _ (List.mem_cons_self : Cond.fieldLink RX1 122 "SightedMonths$Frame" "allowed" "[I" ∈ Cond.fieldLink RX1 122 "SightedMonths$Frame" "allowed" "[I" :: wtGA_488)
theorem twGA_488 : ∀ w ∈ wtGA_488, w ∈ wsGA := fun w h => twGA_487 w (List.mem_cons_of_mem (Cond.fieldLink RX1 122 "SightedMonths$Frame" "allowed" "[I") h)
theorem mGA_488 : Cond.methodLink RX1 118 yX0_earlyOf ∈ wsGA := twGA_488 _ (List.mem_cons_self : Cond.methodLink RX1 118 yX0_earlyOf ∈ Cond.methodLink RX1 118 yX0_earlyOf :: wtGA_489)
theorem twGA_489 : ∀ w ∈ wtGA_489, w ∈ wsGA := fun w h => twGA_488 w (List.mem_cons_of_mem (Cond.methodLink RX1 118 yX0_earlyOf) h)
theorem mGA_489 : Cond.methodLink RX1 125 yX3_narrow ∈ wsGA := twGA_489 _ (List.mem_cons_self : Cond.methodLink RX1 125 yX3_narrow ∈ Cond.methodLink RX1 125 yX3_narrow :: wtGA_490)
theorem twGA_490 : ∀ w ∈ wtGA_490, w ∈ wsGA := fun w h => twGA_489 w (List.mem_cons_of_mem (Cond.methodLink RX1 125 yX3_narrow) h)
theorem mGA_490 : Cond.instanceMethod yX3_narrow ∈ wsGA := twGA_490 _ (List.mem_cons_self : Cond.instanceMethod yX3_narrow ∈ Cond.instanceMethod yX3_narrow :: wtGA_491)
theorem twGA_491 : ∀ w ∈ wtGA_491, w ∈ wsGA := fun w h => twGA_490 w (List.mem_cons_of_mem (Cond.instanceMethod yX3_narrow) h)
theorem mGA_491 : Cond.selects RX3 yX3_narrow yX3_narrow ∈ wsGA := twGA_491 _ (List.mem_cons_self : Cond.selects RX3 yX3_narrow yX3_narrow ∈ Cond.selects RX3 yX3_narrow yX3_narrow :: wtGA_492)
theorem twGA_492 : ∀ w ∈ wtGA_492, w ∈ wsGA := fun w h => twGA_491 w (List.mem_cons_of_mem (Cond.selects RX3 yX3_narrow yX3_narrow) h)
theorem mGA_492 : Cond.code yX3_narrow cX3_narrow 2 none ∈ wsGA := twGA_492 _ (List.mem_cons_self : Cond.code yX3_narrow cX3_narrow 2 none ∈ Cond.code yX3_narrow cX3_narrow 2 none :: wtGA_493)
theorem twGA_493 : ∀ w ∈ wtGA_493, w ∈ wsGA := fun w h => twGA_492 w (List.mem_cons_of_mem (Cond.code yX3_narrow cX3_narrow 2 none) h)
theorem mGA_493 : Cond.fieldLink RX3 33 "SightedMonths$Report" "month" "I" ∈ wsGA := twGA_493 _ (List.mem_cons_self : Cond.fieldLink RX3 33 "SightedMonths$Report" "month" "I" ∈ Cond.fieldLink RX3 33 "SightedMonths$Report" "month" "I" :: wtGA_494)
theorem twGA_494 : ∀ w ∈ wtGA_494, w ∈ wsGA := fun w h => twGA_493 w (List.mem_cons_of_mem (Cond.fieldLink RX3 33 "SightedMonths$Report" "month" "I") h)
theorem mGA_494 : Cond.methodLink RX3 44 yX3_rightFor ∈ wsGA := twGA_494 _ (List.mem_cons_self : Cond.methodLink RX3 44 yX3_rightFor ∈ Cond.methodLink RX3 44 yX3_rightFor :: wtGA_495)
theorem twGA_495 : ∀ w ∈ wtGA_495, w ∈ wsGA := fun w h => twGA_494 w (List.mem_cons_of_mem (Cond.methodLink RX3 44 yX3_rightFor) h)
theorem mGA_495 : Cond.static yX3_rightFor ∈ wsGA := twGA_495 _ (List.mem_cons_self : Cond.static yX3_rightFor ∈ Cond.static yX3_rightFor :: wtGA_496)
theorem twGA_496 : ∀ w ∈ wtGA_496, w ∈ wsGA := fun w h => twGA_495 w (List.mem_cons_of_mem (Cond.static yX3_rightFor) h)
theorem mGA_496 : Cond.code yX3_rightFor cX3_rightFor 3 (some .int) ∈ wsGA := twGA_496 _ (List.mem_cons_self : Cond.code yX3_rightFor cX3_rightFor 3 (some .int) ∈ Cond.code yX3_rightFor cX3_rightFor 3 (some .int) :: wtGA_497)
theorem twGA_497 : ∀ w ∈ wtGA_497, w ∈ wsGA := fun w h => twGA_496 w (List.mem_cons_of_mem (Cond.code yX3_rightFor cX3_rightFor 3 (some .int)) h)
theorem mGA_497 : Cond.fieldLink RX3 38 "SightedMonths$Report" "day" "I" ∈ wsGA := twGA_497 _ (List.mem_cons_self : Cond.fieldLink RX3 38 "SightedMonths$Report" "day" "I" ∈ Cond.fieldLink RX3 38 "SightedMonths$Report" "day" "I" :: wtGA_498)
theorem twGA_498 : ∀ w ∈ wtGA_498, w ∈ wsGA := fun w h => twGA_497 w (List.mem_cons_of_mem (Cond.fieldLink RX3 38 "SightedMonths$Report" "day" "I") h)
theorem mGA_498 : Cond.fieldLink RX3 41 "SightedMonths$Report" "kind" "I" ∈ wsGA := twGA_498 _ (List.mem_cons_self : Cond.fieldLink RX3 41 "SightedMonths$Report" "kind" "I" ∈ Cond.fieldLink RX3 41 "SightedMonths$Report" "kind" "I" :: wtGA_499)
theorem twGA_499 : ∀ w ∈ wtGA_499, w ∈ wsGA := fun w h => twGA_498 w (List.mem_cons_of_mem (Cond.fieldLink RX3 41 "SightedMonths$Report" "kind" "I") h)
theorem mGA_499 : Cond.methodLink RX1 57 yX3_fits ∈ wsGA := twGA_499 _ (List.mem_cons_self : Cond.methodLink RX1 57 yX3_fits ∈ Cond.methodLink RX1 57 yX3_fits :: wtGA_500)
theorem twGA_500 : ∀ w ∈ wtGA_500, w ∈ wsGA := fun w h => twGA_499 w (List.mem_cons_of_mem (Cond.methodLink RX1 57 yX3_fits) h)
theorem mGA_500 : Cond.instanceMethod yX3_fits ∈ wsGA := twGA_500 _ (List.mem_cons_self : Cond.instanceMethod yX3_fits ∈ Cond.instanceMethod yX3_fits :: wtGA_501)
theorem twGA_501 : ∀ w ∈ wtGA_501, w ∈ wsGA := fun w h => twGA_500 w (List.mem_cons_of_mem (Cond.instanceMethod yX3_fits) h)
theorem mGA_501 : Cond.selects RX3 yX3_fits yX3_fits ∈ wsGA := twGA_501 _ (List.mem_cons_self : Cond.selects RX3 yX3_fits yX3_fits ∈ Cond.selects RX3 yX3_fits yX3_fits :: wtGA_502)
theorem twGA_502 : ∀ w ∈ wtGA_502, w ∈ wsGA := fun w h => twGA_501 w (List.mem_cons_of_mem (Cond.selects RX3 yX3_fits yX3_fits) h)
theorem mGA_502 : Cond.code yX3_fits cX3_fits 6 (some .boolean) ∈ wsGA := twGA_502 _ (List.mem_cons_self : Cond.code yX3_fits cX3_fits 6 (some .boolean) ∈ Cond.code yX3_fits cX3_fits 6 (some .boolean) :: wtGA_503)
theorem twGA_503 : ∀ w ∈ wtGA_503, w ∈ wsGA := fun w h => twGA_502 w (List.mem_cons_of_mem (Cond.code yX3_fits cX3_fits 6 (some .boolean)) h)
theorem mGA_503 : Cond.static yX11_firstRun ∈ wsGA := twGA_503 _ (List.mem_cons_self : Cond.static yX11_firstRun ∈ Cond.static yX11_firstRun :: wtGA_504)
theorem twGA_504 : ∀ w ∈ wtGA_504, w ∈ wsGA := fun w h => twGA_503 w (List.mem_cons_of_mem (Cond.static yX11_firstRun) h)
theorem mGA_504 : Cond.code yX11_firstRun cX11_firstRun 1 (some .int) ∈ wsGA := twGA_504 _ (List.mem_cons_self : Cond.code yX11_firstRun cX11_firstRun 1 (some .int) ∈ Cond.code yX11_firstRun cX11_firstRun 1 (some .int) :: wtGA_505)
theorem twGA_505 : ∀ w ∈ wtGA_505, w ∈ wsGA := fun w h => twGA_504 w (List.mem_cons_of_mem (Cond.code yX11_firstRun cX11_firstRun 1 (some .int)) h)
theorem mGA_505 : Cond.static yX11_lastRun ∈ wsGA := twGA_505 _ (List.mem_cons_self : Cond.static yX11_lastRun ∈ Cond.static yX11_lastRun :: wtGA_506)
theorem twGA_506 : ∀ w ∈ wtGA_506, w ∈ wsGA := fun w h => twGA_505 w (List.mem_cons_of_mem (Cond.static yX11_lastRun) h)
theorem mGA_506 : Cond.code yX11_lastRun cX11_lastRun 3 (some .int) ∈ wsGA := twGA_506 _ (List.mem_cons_self : Cond.code yX11_lastRun cX11_lastRun 3 (some .int) ∈ Cond.code yX11_lastRun cX11_lastRun 3 (some .int) :: wtGA_507)
theorem twGA_507 : ∀ w ∈ wtGA_507, w ∈ wsGA := fun w h => twGA_506 w (List.mem_cons_of_mem (Cond.code yX11_lastRun cX11_lastRun 3 (some .int)) h)
theorem mGA_507 : Cond.static yX11_runWithFull ∈ wsGA := twGA_507 _ (List.mem_cons_self : Cond.static yX11_runWithFull ∈ Cond.static yX11_runWithFull :: wtGA_508)
theorem twGA_508 : ∀ w ∈ wtGA_508, w ∈ wsGA := fun w h => twGA_507 w (List.mem_cons_of_mem (Cond.static yX11_runWithFull) h)
theorem mGA_508 : Cond.code yX11_runWithFull cX11_runWithFull 2 (some .int) ∈ wsGA := twGA_508 _ (List.mem_cons_self : Cond.code yX11_runWithFull cX11_runWithFull 2 (some .int) ∈ Cond.code yX11_runWithFull cX11_runWithFull 2 (some .int) :: wtGA_509)
theorem twGA_509 : ∀ w ∈ wtGA_509, w ∈ wsGA := fun w h => twGA_508 w (List.mem_cons_of_mem (Cond.code yX11_runWithFull cX11_runWithFull 2 (some .int)) h)
theorem mGA_509 : Cond.static yX11_runWithLean ∈ wsGA := twGA_509 _ (List.mem_cons_self : Cond.static yX11_runWithLean ∈ Cond.static yX11_runWithLean :: wtGA_510)
theorem twGA_510 : ∀ w ∈ wtGA_510, w ∈ wsGA := fun w h => twGA_509 w (List.mem_cons_of_mem (Cond.static yX11_runWithLean) h)
theorem mGA_510 : Cond.code yX11_runWithLean cX11_runWithLean 3 (some .int) ∈ wsGA := twGA_510 _ (List.mem_cons_self : Cond.code yX11_runWithLean cX11_runWithLean 3 (some .int) ∈ Cond.code yX11_runWithLean cX11_runWithLean 3 (some .int) :: wtGA_511)
theorem twGA_511 : ∀ w ∈ wtGA_511, w ∈ wsGA := fun w h => twGA_510 w (List.mem_cons_of_mem (Cond.code yX11_runWithLean cX11_runWithLean 3 (some .int)) h)
theorem mGA_511 : Cond.methodLink RX1 61 yX3_beginsInto ∈ wsGA := twGA_511 _ (List.mem_cons_self : Cond.methodLink RX1 61 yX3_beginsInto ∈ Cond.methodLink RX1 61 yX3_beginsInto :: wtGA_512)
theorem twGA_512 : ∀ w ∈ wtGA_512, w ∈ wsGA := fun w h => twGA_511 w (List.mem_cons_of_mem (Cond.methodLink RX1 61 yX3_beginsInto) h)
theorem mGA_512 : Cond.instanceMethod yX3_beginsInto ∈ wsGA := twGA_512 _ (List.mem_cons_self : Cond.instanceMethod yX3_beginsInto ∈ Cond.instanceMethod yX3_beginsInto :: wtGA_513)
theorem twGA_513 : ∀ w ∈ wtGA_513, w ∈ wsGA := fun w h => twGA_512 w (List.mem_cons_of_mem (Cond.instanceMethod yX3_beginsInto) h)
theorem mGA_513 : Cond.selects RX3 yX3_beginsInto yX3_beginsInto ∈ wsGA := twGA_513 _ (List.mem_cons_self : Cond.selects RX3 yX3_beginsInto yX3_beginsInto ∈ Cond.selects RX3 yX3_beginsInto yX3_beginsInto :: wtGA_514)
theorem twGA_514 : ∀ w ∈ wtGA_514, w ∈ wsGA := fun w h => twGA_513 w (List.mem_cons_of_mem (Cond.selects RX3 yX3_beginsInto yX3_beginsInto) h)
theorem mGA_514 : Cond.code yX3_beginsInto cX3_beginsInto 6 none ∈ wsGA := twGA_514 _ (List.mem_cons_self : Cond.code yX3_beginsInto cX3_beginsInto 6 none ∈ Cond.code yX3_beginsInto cX3_beginsInto 6 none :: wtGA_515)
theorem twGA_515 : ∀ w ∈ wtGA_515, w ∈ wsGA := fun w h => twGA_514 w (List.mem_cons_of_mem (Cond.code yX3_beginsInto cX3_beginsInto 6 none) h)
theorem mGA_515 : Cond.static yX11_dayOf ∈ wsGA := twGA_515 _ (List.mem_cons_self : Cond.static yX11_dayOf ∈ Cond.static yX11_dayOf :: wtGA_516)
theorem twGA_516 : ∀ w ∈ wtGA_516, w ∈ wsGA := fun w h => twGA_515 w (List.mem_cons_of_mem (Cond.static yX11_dayOf) h)
theorem mGA_516 : Cond.code yX11_dayOf cX11_dayOf 2 (some .int) ∈ wsGA := twGA_516 _ (List.mem_cons_self : Cond.code yX11_dayOf cX11_dayOf 2 (some .int) ∈ Cond.code yX11_dayOf cX11_dayOf 2 (some .int) :: wtGA_517)
theorem twGA_517 : ∀ w ∈ wtGA_517, w ∈ wsGA := fun w h => twGA_516 w (List.mem_cons_of_mem (Cond.code yX11_dayOf cX11_dayOf 2 (some .int)) h)
theorem mGA_517 : Cond.instanceMethod yX11_taken ∈ wsGA := twGA_517 _ (List.mem_cons_self : Cond.instanceMethod yX11_taken ∈ Cond.instanceMethod yX11_taken :: wtGA_518)
theorem twGA_518 : ∀ w ∈ wtGA_518, w ∈ wsGA := fun w h => twGA_517 w (List.mem_cons_of_mem (Cond.instanceMethod yX11_taken) h)
theorem mGA_518 : Cond.selects RX11 yX11_taken yX11_taken ∈ wsGA := twGA_518 _ (List.mem_cons_self : Cond.selects RX11 yX11_taken yX11_taken ∈ Cond.selects RX11 yX11_taken yX11_taken :: wtGA_519)
theorem twGA_519 : ∀ w ∈ wtGA_519, w ∈ wsGA := fun w h => twGA_518 w (List.mem_cons_of_mem (Cond.selects RX11 yX11_taken yX11_taken) h)
theorem mGA_519 : Cond.code yX11_taken cX11_taken 2 (some .int) ∈ wsGA := twGA_519 _ (List.mem_cons_self : Cond.code yX11_taken cX11_taken 2 (some .int) ∈ Cond.code yX11_taken cX11_taken 2 (some .int) :: wtGA_520)
theorem twGA_520 : ∀ w ∈ wtGA_520, w ∈ wsGA := fun w h => twGA_519 w (List.mem_cons_of_mem (Cond.code yX11_taken cX11_taken 2 (some .int)) h)
theorem mGA_520 : Cond.fieldLink RX11 226 "SightedMonths$Court" "takenBits" "I" ∈ wsGA := twGA_520 _ (List.mem_cons_self : Cond.fieldLink RX11 226 "SightedMonths$Court" "takenBits" "I" ∈ Cond.fieldLink RX11 226 "SightedMonths$Court" "takenBits" "I" :: wtGA_521)
theorem twGA_521 : ∀ w ∈ wtGA_521, w ∈ wsGA := fun w h => twGA_520 w (List.mem_cons_of_mem (Cond.fieldLink RX11 226 "SightedMonths$Court" "takenBits" "I") h)
theorem mGA_521 : Cond.methodLink RX11 229 yJ6_bitCount_0f7a4 ∈ wsGA := twGA_521 _ (List.mem_cons_self : Cond.methodLink RX11 229 yJ6_bitCount_0f7a4 ∈ Cond.methodLink RX11 229 yJ6_bitCount_0f7a4 :: wtGA_522)
theorem twGA_522 : ∀ w ∈ wtGA_522, w ∈ wsGA := fun w h => twGA_521 w (List.mem_cons_of_mem (Cond.methodLink RX11 229 yJ6_bitCount_0f7a4) h)
theorem mGA_522 : Cond.static yJ6_bitCount_0f7a4 ∈ wsGA := twGA_522 _ (List.mem_cons_self : Cond.static yJ6_bitCount_0f7a4 ∈ Cond.static yJ6_bitCount_0f7a4 :: wtGA_523)
theorem twGA_523 : ∀ w ∈ wtGA_523, w ∈ wsGA := fun w h => twGA_522 w (List.mem_cons_of_mem (Cond.static yJ6_bitCount_0f7a4) h)
theorem mGA_523 : Cond.initialized RJ6 ∈ wsGA := twGA_523 _ (List.mem_cons_self : Cond.initialized RJ6 ∈ Cond.initialized RJ6 :: wtGA_524)
theorem twGA_524 : ∀ w ∈ wtGA_524, w ∈ wsGA := fun w h => twGA_523 w (List.mem_cons_of_mem (Cond.initialized RJ6) h)
theorem mGA_524 : Cond.code yJ6_bitCount_0f7a4 cJ6_bitCount_0f7a4 1 (some .int) ∈ wsGA := twGA_524 _ (List.mem_cons_self : Cond.code yJ6_bitCount_0f7a4 cJ6_bitCount_0f7a4 1 (some .int) ∈ Cond.code yJ6_bitCount_0f7a4 cJ6_bitCount_0f7a4 1 (some .int) :: wtGA_525)
theorem twGA_525 : ∀ w ∈ wtGA_525, w ∈ wsGA := fun w h => twGA_524 w (List.mem_cons_of_mem (Cond.code yJ6_bitCount_0f7a4 cJ6_bitCount_0f7a4 1 (some .int)) h)
theorem mGA_525 : Cond.constant RJ6 265 (1431655765) ∈ wsGA := twGA_525 _ (List.mem_cons_self : Cond.constant RJ6 265 (1431655765) ∈ Cond.constant RJ6 265 (1431655765) :: wtGA_526)
theorem twGA_526 : ∀ w ∈ wtGA_526, w ∈ wsGA := fun w h => twGA_525 w (List.mem_cons_of_mem (Cond.constant RJ6 265 (1431655765)) h)
theorem mGA_526 : Cond.constant RJ6 266 (858993459) ∈ wsGA := twGA_526 _ (List.mem_cons_self : Cond.constant RJ6 266 (858993459) ∈ Cond.constant RJ6 266 (858993459) :: wtGA_527)
theorem twGA_527 : ∀ w ∈ wtGA_527, w ∈ wsGA := fun w h => twGA_526 w (List.mem_cons_of_mem (Cond.constant RJ6 266 (858993459)) h)
theorem mGA_527 : Cond.constant RJ6 267 (252645135) ∈ wsGA := twGA_527 _ (List.mem_cons_self : Cond.constant RJ6 267 (252645135) ∈ Cond.constant RJ6 267 (252645135) :: wtGA_528)
theorem twGA_528 : ∀ w ∈ wtGA_528, w ∈ wsGA := fun w h => twGA_527 w (List.mem_cons_of_mem (Cond.constant RJ6 267 (252645135)) h)
theorem mGA_528 : Cond.instanceMethod yX11_order ∈ wsGA := twGA_528 _ (List.mem_cons_self : Cond.instanceMethod yX11_order ∈ Cond.instanceMethod yX11_order :: wtGA_529)
theorem twGA_529 : ∀ w ∈ wtGA_529, w ∈ wsGA := fun w h => twGA_528 w (List.mem_cons_of_mem (Cond.instanceMethod yX11_order) h)
theorem mGA_529 : Cond.selects RX11 yX11_order yX11_order ∈ wsGA := twGA_529 _ (List.mem_cons_self : Cond.selects RX11 yX11_order yX11_order ∈ Cond.selects RX11 yX11_order yX11_order :: wtGA_530)
theorem twGA_530 : ∀ w ∈ wtGA_530, w ∈ wsGA := fun w h => twGA_529 w (List.mem_cons_of_mem (Cond.selects RX11 yX11_order yX11_order) h)
theorem mGA_530 : Cond.code yX11_order cX11_order 4 (some .int) ∈ wsGA := twGA_530 _ (List.mem_cons_self : Cond.code yX11_order cX11_order 4 (some .int) ∈ Cond.code yX11_order cX11_order 4 (some .int) :: wtGA_531)
theorem twGA_531 : ∀ w ∈ wtGA_531, w ∈ wsGA := fun w h => twGA_530 w (List.mem_cons_of_mem (Cond.code yX11_order cX11_order 4 (some .int)) h)
theorem mGA_531 : Cond.fieldLink RX11 234 "SightedMonths$Court" "queueLength" "I" ∈ wsGA := twGA_531 _ (List.mem_cons_self : Cond.fieldLink RX11 234 "SightedMonths$Court" "queueLength" "I" ∈ Cond.fieldLink RX11 234 "SightedMonths$Court" "queueLength" "I" :: wtGA_532)
theorem twGA_532 : ∀ w ∈ wtGA_532, w ∈ wsGA := fun w h => twGA_531 w (List.mem_cons_of_mem (Cond.fieldLink RX11 234 "SightedMonths$Court" "queueLength" "I") h)
theorem mGA_532 : Cond.fieldLink RX11 237 "SightedMonths$Court" "queue" "[I" ∈ wsGA := twGA_532 _ (List.mem_cons_self : Cond.fieldLink RX11 237 "SightedMonths$Court" "queue" "[I" ∈ Cond.fieldLink RX11 237 "SightedMonths$Court" "queue" "[I" :: wtGA_533)
theorem twGA_533 : ∀ w ∈ wtGA_533, w ∈ wsGA := fun w h => twGA_532 w (List.mem_cons_of_mem (Cond.fieldLink RX11 237 "SightedMonths$Court" "queue" "[I") h)
theorem mGA_533 : Cond.instanceMethod yX11_against ∈ wsGA := twGA_533 _ (List.mem_cons_self : Cond.instanceMethod yX11_against ∈ Cond.instanceMethod yX11_against :: wtGA_534)
theorem twGA_534 : ∀ w ∈ wtGA_534, w ∈ wsGA := fun w h => twGA_533 w (List.mem_cons_of_mem (Cond.instanceMethod yX11_against) h)
theorem mGA_534 : Cond.selects RX11 yX11_against yX11_against ∈ wsGA := twGA_534 _ (List.mem_cons_self : Cond.selects RX11 yX11_against yX11_against ∈ Cond.selects RX11 yX11_against yX11_against :: wtGA_535)
theorem twGA_535 : ∀ w ∈ wtGA_535, w ∈ wsGA := fun w h => twGA_534 w (List.mem_cons_of_mem (Cond.selects RX11 yX11_against yX11_against) h)
theorem mGA_535 : Cond.code yX11_against cX11_against 6 (some .int) ∈ wsGA := twGA_535 _ (List.mem_cons_self : Cond.code yX11_against cX11_against 6 (some .int) ∈ Cond.code yX11_against cX11_against 6 (some .int) :: wtGA_536)
theorem twGA_536 : ∀ w ∈ wtGA_536, w ∈ wsGA := fun w h => twGA_535 w (List.mem_cons_of_mem (Cond.code yX11_against cX11_against 6 (some .int)) h)
theorem mGA_536 : Cond.methodLink RX11 240 yX11_canBothBe ∈ wsGA := twGA_536 _ (List.mem_cons_self : Cond.methodLink RX11 240 yX11_canBothBe ∈ Cond.methodLink RX11 240 yX11_canBothBe :: wtGA_537)
theorem twGA_537 : ∀ w ∈ wtGA_537, w ∈ wsGA := fun w h => twGA_536 w (List.mem_cons_of_mem (Cond.methodLink RX11 240 yX11_canBothBe) h)
theorem mGA_537 : Cond.instanceMethod yX11_canBothBe ∈ wsGA := twGA_537 _ (List.mem_cons_self : Cond.instanceMethod yX11_canBothBe ∈ Cond.instanceMethod yX11_canBothBe :: wtGA_538)
theorem twGA_538 : ∀ w ∈ wtGA_538, w ∈ wsGA := fun w h => twGA_537 w (List.mem_cons_of_mem (Cond.instanceMethod yX11_canBothBe) h)
theorem mGA_538 : Cond.selects RX11 yX11_canBothBe yX11_canBothBe ∈ wsGA := twGA_538 _ (List.mem_cons_self : Cond.selects RX11 yX11_canBothBe yX11_canBothBe ∈ Cond.selects RX11 yX11_canBothBe yX11_canBothBe :: wtGA_539)
theorem twGA_539 : ∀ w ∈ wtGA_539, w ∈ wsGA := fun w h => twGA_538 w (List.mem_cons_of_mem (Cond.selects RX11 yX11_canBothBe yX11_canBothBe) h)
theorem mGA_539 : Cond.code yX11_canBothBe cX11_canBothBe 3 (some .boolean) ∈ wsGA := twGA_539 _ (List.mem_cons_self : Cond.code yX11_canBothBe cX11_canBothBe 3 (some .boolean) ∈ Cond.code yX11_canBothBe cX11_canBothBe 3 (some .boolean) :: wtGA_540)
theorem twGA_540 : ∀ w ∈ wtGA_540, w ∈ wsGA := fun w h => twGA_539 w (List.mem_cons_of_mem (Cond.code yX11_canBothBe cX11_canBothBe 3 (some .boolean)) h)
theorem mGA_540 : Cond.methodLink RX11 355 yX3_open ∈ wsGA := twGA_540 _ (List.mem_cons_self : Cond.methodLink RX11 355 yX3_open ∈ Cond.methodLink RX11 355 yX3_open :: wtGA_541)
theorem twGA_541 : ∀ w ∈ wtGA_541, w ∈ wsGA := fun w h => twGA_540 w (List.mem_cons_of_mem (Cond.methodLink RX11 355 yX3_open) h)
theorem mGA_541 : Cond.methodLink RX11 412 yX3_narrow ∈ wsGA := twGA_541 _ (List.mem_cons_self : Cond.methodLink RX11 412 yX3_narrow ∈ Cond.methodLink RX11 412 yX3_narrow :: wtGA_542)
theorem twGA_542 : ∀ w ∈ wtGA_542, w ∈ wsGA := fun w h => twGA_541 w (List.mem_cons_of_mem (Cond.methodLink RX11 412 yX3_narrow) h)
theorem mGA_542 : Cond.methodLink RX11 415 yX3_fits ∈ wsGA := twGA_542 _ (List.mem_cons_self : Cond.methodLink RX11 415 yX3_fits ∈ Cond.methodLink RX11 415 yX3_fits :: wtGA_543)
theorem twGA_543 : ∀ w ∈ wtGA_543, w ∈ wsGA := fun w h => twGA_542 w (List.mem_cons_of_mem (Cond.methodLink RX11 415 yX3_fits) h)
theorem mGA_543 : Cond.instanceMethod yX11_blind ∈ wsGA := twGA_543 _ (List.mem_cons_self : Cond.instanceMethod yX11_blind ∈ Cond.instanceMethod yX11_blind :: wtGA_544)
theorem twGA_544 : ∀ w ∈ wtGA_544, w ∈ wsGA := fun w h => twGA_543 w (List.mem_cons_of_mem (Cond.instanceMethod yX11_blind) h)
theorem mGA_544 : Cond.selects RX11 yX11_blind yX11_blind ∈ wsGA := twGA_544 _ (List.mem_cons_self : Cond.selects RX11 yX11_blind yX11_blind ∈ Cond.selects RX11 yX11_blind yX11_blind :: wtGA_545)
theorem twGA_545 : ∀ w ∈ wtGA_545, w ∈ wsGA := fun w h => twGA_544 w (List.mem_cons_of_mem (Cond.selects RX11 yX11_blind yX11_blind) h)
theorem mGA_545 : Cond.code yX11_blind cX11_blind 6 (some .int) ∈ wsGA := twGA_545 _ (List.mem_cons_self : Cond.code yX11_blind cX11_blind 6 (some .int) ∈ Cond.code yX11_blind cX11_blind 6 (some .int) :: wtGA_546)
theorem twGA_546 : ∀ w ∈ wtGA_546, w ∈ wsGA := fun w h => twGA_545 w (List.mem_cons_of_mem (Cond.code yX11_blind cX11_blind 6 (some .int)) h)
theorem mGA_546 : Cond.methodLink RX11 244 yX7_isKnownBy ∈ wsGA := twGA_546 _ (List.mem_cons_self : Cond.methodLink RX11 244 yX7_isKnownBy ∈ Cond.methodLink RX11 244 yX7_isKnownBy :: wtGA_547)
theorem twGA_547 : ∀ w ∈ wtGA_547, w ∈ wsGA := fun w h => twGA_546 w (List.mem_cons_of_mem (Cond.methodLink RX11 244 yX7_isKnownBy) h)
theorem mGA_547 : Cond.instanceMethod yX11_ways ∈ wsGA := twGA_547 _ (List.mem_cons_self : Cond.instanceMethod yX11_ways ∈ Cond.instanceMethod yX11_ways :: wtGA_548)
theorem twGA_548 : ∀ w ∈ wtGA_548, w ∈ wsGA := fun w h => twGA_547 w (List.mem_cons_of_mem (Cond.instanceMethod yX11_ways) h)
theorem mGA_548 : Cond.selects RX11 yX11_ways yX11_ways ∈ wsGA := twGA_548 _ (List.mem_cons_self : Cond.selects RX11 yX11_ways yX11_ways ∈ Cond.selects RX11 yX11_ways yX11_ways :: wtGA_549)
theorem twGA_549 : ∀ w ∈ wtGA_549, w ∈ wsGA := fun w h => twGA_548 w (List.mem_cons_of_mem (Cond.selects RX11 yX11_ways yX11_ways) h)
theorem mGA_549 : Cond.code yX11_ways cX11_ways 2 (some .int) ∈ wsGA := twGA_549 _ (List.mem_cons_self : Cond.code yX11_ways cX11_ways 2 (some .int) ∈ Cond.code yX11_ways cX11_ways 2 (some .int) :: wtGA_550)
theorem twGA_550 : ∀ w ∈ wtGA_550, w ∈ wsGA := fun w h => twGA_549 w (List.mem_cons_of_mem (Cond.code yX11_ways cX11_ways 2 (some .int)) h)
theorem mGA_550 : Cond.methodLink RX11 275 yX11_tallyBy ∈ wsGA := twGA_550 _ (List.mem_cons_self : Cond.methodLink RX11 275 yX11_tallyBy ∈ Cond.methodLink RX11 275 yX11_tallyBy :: wtGA_551)
theorem twGA_551 : ∀ w ∈ wtGA_551, w ∈ wsGA := fun w h => twGA_550 w (List.mem_cons_of_mem (Cond.methodLink RX11 275 yX11_tallyBy) h)
theorem mGA_551 : Cond.instanceMethod yX11_tallyBy ∈ wsGA := twGA_551 _ (List.mem_cons_self : Cond.instanceMethod yX11_tallyBy ∈ Cond.instanceMethod yX11_tallyBy :: wtGA_552)
theorem twGA_552 : ∀ w ∈ wtGA_552, w ∈ wsGA := fun w h => twGA_551 w (List.mem_cons_of_mem (Cond.instanceMethod yX11_tallyBy) h)
theorem mGA_552 : Cond.selects RX11 yX11_tallyBy yX11_tallyBy ∈ wsGA := twGA_552 _ (List.mem_cons_self : Cond.selects RX11 yX11_tallyBy yX11_tallyBy ∈ Cond.selects RX11 yX11_tallyBy yX11_tallyBy :: wtGA_553)
theorem twGA_553 : ∀ w ∈ wtGA_553, w ∈ wsGA := fun w h => twGA_552 w (List.mem_cons_of_mem (Cond.selects RX11 yX11_tallyBy yX11_tallyBy) h)
theorem mGA_553 : Cond.code yX11_tallyBy cX11_tallyBy 3 (some (.object "SightedMonths$Tally")) ∈ wsGA := twGA_553 _ (List.mem_cons_self : Cond.code yX11_tallyBy cX11_tallyBy 3 (some (.object "SightedMonths$Tally")) ∈ Cond.code yX11_tallyBy cX11_tallyBy 3 (some (.object "SightedMonths$Tally")) :: wtGA_554)
theorem twGA_554 : ∀ w ∈ wtGA_554, w ∈ wsGA := fun w h => twGA_553 w (List.mem_cons_of_mem (Cond.code yX11_tallyBy cX11_tallyBy 3 (some (.object "SightedMonths$Tally"))) h)
theorem mGA_554 : Cond.fieldLink RX11 338 "SightedMonths$Court" "frame" "LSightedMonths$Frame;" ∈ wsGA := twGA_554 _ (List.mem_cons_self : Cond.fieldLink RX11 338 "SightedMonths$Court" "frame" "LSightedMonths$Frame;" ∈ Cond.fieldLink RX11 338 "SightedMonths$Court" "frame" "LSightedMonths$Frame;" :: wtGA_555)
theorem twGA_555 : ∀ w ∈ wtGA_555, w ∈ wsGA := fun w h => twGA_554 w (List.mem_cons_of_mem (Cond.fieldLink RX11 338 "SightedMonths$Court" "frame" "LSightedMonths$Frame;") h)
theorem mGA_555 : Cond.methodLink RX11 406 yX9_fill ∈ wsGA := twGA_555 _ (List.mem_cons_self : Cond.methodLink RX11 406 yX9_fill ∈ Cond.methodLink RX11 406 yX9_fill :: wtGA_556)
theorem twGA_556 : ∀ w ∈ wtGA_556, w ∈ wsGA := fun w h => twGA_555 w (List.mem_cons_of_mem (Cond.methodLink RX11 406 yX9_fill) h)
theorem mGA_556 : Cond.instanceMethod yX9_fill ∈ wsGA := twGA_556 _ (List.mem_cons_self : Cond.instanceMethod yX9_fill ∈ Cond.instanceMethod yX9_fill :: wtGA_557)
theorem twGA_557 : ∀ w ∈ wtGA_557, w ∈ wsGA := fun w h => twGA_556 w (List.mem_cons_of_mem (Cond.instanceMethod yX9_fill) h)
theorem mGA_557 : Cond.selects RX9 yX9_fill yX9_fill ∈ wsGA := twGA_557 _ (List.mem_cons_self : Cond.selects RX9 yX9_fill yX9_fill ∈ Cond.selects RX9 yX9_fill yX9_fill :: wtGA_558)
theorem twGA_558 : ∀ w ∈ wtGA_558, w ∈ wsGA := fun w h => twGA_557 w (List.mem_cons_of_mem (Cond.selects RX9 yX9_fill yX9_fill) h)
theorem mGA_558 : Cond.code yX9_fill cX9_fill 2 none ∈ wsGA := twGA_558 _ (List.mem_cons_self : Cond.code yX9_fill cX9_fill 2 none ∈ Cond.code yX9_fill cX9_fill 2 none :: wtGA_559)
theorem twGA_559 : ∀ w ∈ wtGA_559, w ∈ wsGA := fun w h => twGA_558 w (List.mem_cons_of_mem (Cond.code yX9_fill cX9_fill 2 none) h)
theorem mGA_559 : Cond.fieldLink RX9 21 "SightedMonths$Frame" "months" "I" ∈ wsGA := twGA_559 _ (List.mem_cons_self : Cond.fieldLink RX9 21 "SightedMonths$Frame" "months" "I" ∈ Cond.fieldLink RX9 21 "SightedMonths$Frame" "months" "I" :: wtGA_560)
theorem twGA_560 : ∀ w ∈ wtGA_560, w ∈ wsGA := fun w h => twGA_559 w (List.mem_cons_of_mem (Cond.fieldLink RX9 21 "SightedMonths$Frame" "months" "I") h)
theorem mGA_560 : Cond.fieldLink RX9 27 "SightedMonths$Tally" "months" "I" ∈ wsGA := twGA_560 _ (List.mem_cons_self : Cond.fieldLink RX9 27 "SightedMonths$Tally" "months" "I" ∈ Cond.fieldLink RX9 27 "SightedMonths$Tally" "months" "I" :: wtGA_561)
theorem twGA_561 : ∀ w ∈ wtGA_561, w ∈ wsGA := fun w h => twGA_560 w (List.mem_cons_of_mem (Cond.fieldLink RX9 27 "SightedMonths$Tally" "months" "I") h)
theorem mGA_561 : Cond.fieldLink RX9 28 "SightedMonths$Frame" "full" "I" ∈ wsGA := twGA_561 _ (List.mem_cons_self : Cond.fieldLink RX9 28 "SightedMonths$Frame" "full" "I" ∈ Cond.fieldLink RX9 28 "SightedMonths$Frame" "full" "I" :: wtGA_562)
theorem twGA_562 : ∀ w ∈ wtGA_562, w ∈ wsGA := fun w h => twGA_561 w (List.mem_cons_of_mem (Cond.fieldLink RX9 28 "SightedMonths$Frame" "full" "I") h)
theorem mGA_562 : Cond.fieldLink RX9 31 "SightedMonths$Tally" "full" "I" ∈ wsGA := twGA_562 _ (List.mem_cons_self : Cond.fieldLink RX9 31 "SightedMonths$Tally" "full" "I" ∈ Cond.fieldLink RX9 31 "SightedMonths$Tally" "full" "I" :: wtGA_563)
theorem twGA_563 : ∀ w ∈ wtGA_563, w ∈ wsGA := fun w h => twGA_562 w (List.mem_cons_of_mem (Cond.fieldLink RX9 31 "SightedMonths$Tally" "full" "I") h)
theorem mGA_563 : Cond.fieldLink RX9 32 "SightedMonths$Frame" "lean" "I" ∈ wsGA := twGA_563 _ (List.mem_cons_self : Cond.fieldLink RX9 32 "SightedMonths$Frame" "lean" "I" ∈ Cond.fieldLink RX9 32 "SightedMonths$Frame" "lean" "I" :: wtGA_564)
theorem twGA_564 : ∀ w ∈ wtGA_564, w ∈ wsGA := fun w h => twGA_563 w (List.mem_cons_of_mem (Cond.fieldLink RX9 32 "SightedMonths$Frame" "lean" "I") h)
theorem mGA_564 : Cond.fieldLink RX9 35 "SightedMonths$Tally" "lean" "I" ∈ wsGA := twGA_564 _ (List.mem_cons_self : Cond.fieldLink RX9 35 "SightedMonths$Tally" "lean" "I" ∈ Cond.fieldLink RX9 35 "SightedMonths$Tally" "lean" "I" :: wtGA_565)
theorem twGA_565 : ∀ w ∈ wtGA_565, w ∈ wsGA := fun w h => twGA_564 w (List.mem_cons_of_mem (Cond.fieldLink RX9 35 "SightedMonths$Tally" "lean" "I") h)
theorem mGA_565 : Cond.methodLink RX9 36 yJ7_fill_53178 ∈ wsGA := twGA_565 _ (List.mem_cons_self : Cond.methodLink RX9 36 yJ7_fill_53178 ∈ Cond.methodLink RX9 36 yJ7_fill_53178 :: wtGA_566)
theorem twGA_566 : ∀ w ∈ wtGA_566, w ∈ wsGA := fun w h => twGA_565 w (List.mem_cons_of_mem (Cond.methodLink RX9 36 yJ7_fill_53178) h)
theorem mGA_566 : Cond.static yJ7_fill_53178 ∈ wsGA := twGA_566 _ (List.mem_cons_self : Cond.static yJ7_fill_53178 ∈ Cond.static yJ7_fill_53178 :: wtGA_567)
theorem twGA_567 : ∀ w ∈ wtGA_567, w ∈ wsGA := fun w h => twGA_566 w (List.mem_cons_of_mem (Cond.static yJ7_fill_53178) h)
theorem mGA_567 : Cond.initialized RJ7 ∈ wsGA := twGA_567 _ (List.mem_cons_self : Cond.initialized RJ7 ∈ Cond.initialized RJ7 :: wtGA_568)
theorem twGA_568 : ∀ w ∈ wtGA_568, w ∈ wsGA := fun w h => twGA_567 w (List.mem_cons_of_mem (Cond.initialized RJ7) h)
theorem mGA_568 : Cond.code yJ7_fill_53178 cJ7_fill_53178 4 none ∈ wsGA := twGA_568 _ (List.mem_cons_self : Cond.code yJ7_fill_53178 cJ7_fill_53178 4 none ∈ Cond.code yJ7_fill_53178 cJ7_fill_53178 4 none :: wtGA_569)
theorem twGA_569 : ∀ w ∈ wtGA_569, w ∈ wsGA := fun w h => twGA_568 w (List.mem_cons_of_mem (Cond.code yJ7_fill_53178 cJ7_fill_53178 4 none) h)
theorem mGA_569 : Cond.methodLink RX9 42 yX9_countBefore ∈ wsGA := twGA_569 _ (List.mem_cons_self : Cond.methodLink RX9 42 yX9_countBefore ∈ Cond.methodLink RX9 42 yX9_countBefore :: wtGA_570)
theorem twGA_570 : ∀ w ∈ wtGA_570, w ∈ wsGA := fun w h => twGA_569 w (List.mem_cons_of_mem (Cond.methodLink RX9 42 yX9_countBefore) h)
theorem mGA_570 : Cond.instanceMethod yX9_countBefore ∈ wsGA := twGA_570 _ (List.mem_cons_self : Cond.instanceMethod yX9_countBefore ∈ Cond.instanceMethod yX9_countBefore :: wtGA_571)
theorem twGA_571 : ∀ w ∈ wtGA_571, w ∈ wsGA := fun w h => twGA_570 w (List.mem_cons_of_mem (Cond.instanceMethod yX9_countBefore) h)
theorem mGA_571 : Cond.selects RX9 yX9_countBefore yX9_countBefore ∈ wsGA := twGA_571 _ (List.mem_cons_self : Cond.selects RX9 yX9_countBefore yX9_countBefore ∈ Cond.selects RX9 yX9_countBefore yX9_countBefore :: wtGA_572)
theorem twGA_572 : ∀ w ∈ wtGA_572, w ∈ wsGA := fun w h => twGA_571 w (List.mem_cons_of_mem (Cond.selects RX9 yX9_countBefore yX9_countBefore) h)
theorem mGA_572 : Cond.code yX9_countBefore cX9_countBefore 4 none ∈ wsGA := twGA_572 _ (List.mem_cons_self : Cond.code yX9_countBefore cX9_countBefore 4 none ∈ Cond.code yX9_countBefore cX9_countBefore 4 none :: wtGA_573)
theorem twGA_573 : ∀ w ∈ wtGA_573, w ∈ wsGA := fun w h => twGA_572 w (List.mem_cons_of_mem (Cond.code yX9_countBefore cX9_countBefore 4 none) h)
theorem mGA_573 : Cond.methodLink RX9 52 yX3_allows ∈ wsGA := twGA_573 _ (List.mem_cons_self : Cond.methodLink RX9 52 yX3_allows ∈ Cond.methodLink RX9 52 yX3_allows :: wtGA_574)
theorem twGA_574 : ∀ w ∈ wtGA_574, w ∈ wsGA := fun w h => twGA_573 w (List.mem_cons_of_mem (Cond.methodLink RX9 52 yX3_allows) h)
theorem mGA_574 : Cond.instanceMethod yX3_allows ∈ wsGA := twGA_574 _ (List.mem_cons_self : Cond.instanceMethod yX3_allows ∈ Cond.instanceMethod yX3_allows :: wtGA_575)
theorem twGA_575 : ∀ w ∈ wtGA_575, w ∈ wsGA := fun w h => twGA_574 w (List.mem_cons_of_mem (Cond.instanceMethod yX3_allows) h)
theorem mGA_575 : Cond.selects RX3 yX3_allows yX3_allows ∈ wsGA := twGA_575 _ (List.mem_cons_self : Cond.selects RX3 yX3_allows yX3_allows ∈ Cond.selects RX3 yX3_allows yX3_allows :: wtGA_576)
theorem twGA_576 : ∀ w ∈ wtGA_576, w ∈ wsGA := fun w h => twGA_575 w (List.mem_cons_of_mem (Cond.selects RX3 yX3_allows yX3_allows) h)
theorem mGA_576 : Cond.code yX3_allows cX3_allows 3 (some .boolean) ∈ wsGA := twGA_576 _ (List.mem_cons_self : Cond.code yX3_allows cX3_allows 3 (some .boolean) ∈ Cond.code yX3_allows cX3_allows 3 (some .boolean) :: wtGA_577)
theorem twGA_577 : ∀ w ∈ wtGA_577, w ∈ wsGA := fun w h => twGA_576 w (List.mem_cons_of_mem (Cond.code yX3_allows cX3_allows 3 (some .boolean)) h)
theorem mGA_577 : Cond.methodLink RX9 56 yX9_takeOnWithFull ∈ wsGA := twGA_577 _ (List.mem_cons_self : Cond.methodLink RX9 56 yX9_takeOnWithFull ∈ Cond.methodLink RX9 56 yX9_takeOnWithFull :: wtGA_578)
theorem twGA_578 : ∀ w ∈ wtGA_578, w ∈ wsGA := fun w h => twGA_577 w (List.mem_cons_of_mem (Cond.methodLink RX9 56 yX9_takeOnWithFull) h)
theorem mGA_578 : Cond.instanceMethod yX9_takeOnWithFull ∈ wsGA := twGA_578 _ (List.mem_cons_self : Cond.instanceMethod yX9_takeOnWithFull ∈ Cond.instanceMethod yX9_takeOnWithFull :: wtGA_579)
theorem twGA_579 : ∀ w ∈ wtGA_579, w ∈ wsGA := fun w h => twGA_578 w (List.mem_cons_of_mem (Cond.instanceMethod yX9_takeOnWithFull) h)
theorem mGA_579 : Cond.selects RX9 yX9_takeOnWithFull yX9_takeOnWithFull ∈ wsGA := twGA_579 _ (List.mem_cons_self : Cond.selects RX9 yX9_takeOnWithFull yX9_takeOnWithFull ∈ Cond.selects RX9 yX9_takeOnWithFull yX9_takeOnWithFull :: wtGA_580)
theorem twGA_580 : ∀ w ∈ wtGA_580, w ∈ wsGA := fun w h => twGA_579 w (List.mem_cons_of_mem (Cond.selects RX9 yX9_takeOnWithFull yX9_takeOnWithFull) h)
theorem mGA_580 : Cond.code yX9_takeOnWithFull cX9_takeOnWithFull 7 none ∈ wsGA := twGA_580 _ (List.mem_cons_self : Cond.code yX9_takeOnWithFull cX9_takeOnWithFull 7 none ∈ Cond.code yX9_takeOnWithFull cX9_takeOnWithFull 7 none :: wtGA_581)
theorem twGA_581 : ∀ w ∈ wtGA_581, w ∈ wsGA := fun w h => twGA_580 w (List.mem_cons_of_mem (Cond.code yX9_takeOnWithFull cX9_takeOnWithFull 7 none) h)
theorem mGA_581 : Cond.static yX11_spot ∈ wsGA := twGA_581 _ (List.mem_cons_self : Cond.static yX11_spot ∈ Cond.static yX11_spot :: wtGA_582)
theorem twGA_582 : ∀ w ∈ wtGA_582, w ∈ wsGA := fun w h => twGA_581 w (List.mem_cons_of_mem (Cond.static yX11_spot) h)
theorem mGA_582 : Cond.code yX11_spot cX11_spot 3 (some .int) ∈ wsGA := twGA_582 _ (List.mem_cons_self : Cond.code yX11_spot cX11_spot 3 (some .int) ∈ Cond.code yX11_spot cX11_spot 3 (some .int) :: wtGA_583)
theorem twGA_583 : ∀ w ∈ wtGA_583, w ∈ wsGA := fun w h => twGA_582 w (List.mem_cons_of_mem (Cond.code yX11_spot cX11_spot 3 (some .int)) h)
theorem mGA_583 : Cond.methodLink RX11 425 yX11_cell ∈ wsGA := twGA_583 _ (List.mem_cons_self : Cond.methodLink RX11 425 yX11_cell ∈ Cond.methodLink RX11 425 yX11_cell :: wtGA_584)
theorem twGA_584 : ∀ w ∈ wtGA_584, w ∈ wsGA := fun w h => twGA_583 w (List.mem_cons_of_mem (Cond.methodLink RX11 425 yX11_cell) h)
theorem mGA_584 : Cond.static yX11_cell ∈ wsGA := twGA_584 _ (List.mem_cons_self : Cond.static yX11_cell ∈ Cond.static yX11_cell :: wtGA_585)
theorem twGA_585 : ∀ w ∈ wtGA_585, w ∈ wsGA := fun w h => twGA_584 w (List.mem_cons_of_mem (Cond.static yX11_cell) h)
theorem mGA_585 : Cond.code yX11_cell cX11_cell 2 (some .int) ∈ wsGA := twGA_585 _ (List.mem_cons_self : Cond.code yX11_cell cX11_cell 2 (some .int) ∈ Cond.code yX11_cell cX11_cell 2 (some .int) :: wtGA_586)
theorem twGA_586 : ∀ w ∈ wtGA_586, w ∈ wsGA := fun w h => twGA_585 w (List.mem_cons_of_mem (Cond.code yX11_cell cX11_cell 2 (some .int)) h)
theorem mGA_586 : Cond.methodLink RX9 60 yX9_takeOnWithLean ∈ wsGA := twGA_586 _ (List.mem_cons_self : Cond.methodLink RX9 60 yX9_takeOnWithLean ∈ Cond.methodLink RX9 60 yX9_takeOnWithLean :: wtGA_587)
theorem twGA_587 : ∀ w ∈ wtGA_587, w ∈ wsGA := fun w h => twGA_586 w (List.mem_cons_of_mem (Cond.methodLink RX9 60 yX9_takeOnWithLean) h)
theorem mGA_587 : Cond.instanceMethod yX9_takeOnWithLean ∈ wsGA := twGA_587 _ (List.mem_cons_self : Cond.instanceMethod yX9_takeOnWithLean ∈ Cond.instanceMethod yX9_takeOnWithLean :: wtGA_588)
theorem twGA_588 : ∀ w ∈ wtGA_588, w ∈ wsGA := fun w h => twGA_587 w (List.mem_cons_of_mem (Cond.instanceMethod yX9_takeOnWithLean) h)
theorem mGA_588 : Cond.selects RX9 yX9_takeOnWithLean yX9_takeOnWithLean ∈ wsGA := twGA_588 _ (List.mem_cons_self : Cond.selects RX9 yX9_takeOnWithLean yX9_takeOnWithLean ∈ Cond.selects RX9 yX9_takeOnWithLean yX9_takeOnWithLean :: wtGA_589)
theorem twGA_589 : ∀ w ∈ wtGA_589, w ∈ wsGA := fun w h => twGA_588 w (List.mem_cons_of_mem (Cond.selects RX9 yX9_takeOnWithLean yX9_takeOnWithLean) h)
theorem mGA_589 : Cond.code yX9_takeOnWithLean cX9_takeOnWithLean 7 none ∈ wsGA := twGA_589 _ (List.mem_cons_self : Cond.code yX9_takeOnWithLean cX9_takeOnWithLean 7 none ∈ Cond.code yX9_takeOnWithLean cX9_takeOnWithLean 7 none :: wtGA_590)
theorem twGA_590 : ∀ w ∈ wtGA_590, w ∈ wsGA := fun w h => twGA_589 w (List.mem_cons_of_mem (Cond.code yX9_takeOnWithLean cX9_takeOnWithLean 7 none) h)
theorem mGA_590 : Cond.methodLink RX9 46 yX9_countBehind ∈ wsGA := twGA_590 _ (List.mem_cons_self : Cond.methodLink RX9 46 yX9_countBehind ∈ Cond.methodLink RX9 46 yX9_countBehind :: wtGA_591)
theorem twGA_591 : ∀ w ∈ wtGA_591, w ∈ wsGA := fun w h => twGA_590 w (List.mem_cons_of_mem (Cond.methodLink RX9 46 yX9_countBehind) h)
theorem mGA_591 : Cond.instanceMethod yX9_countBehind ∈ wsGA := twGA_591 _ (List.mem_cons_self : Cond.instanceMethod yX9_countBehind ∈ Cond.instanceMethod yX9_countBehind :: wtGA_592)
theorem twGA_592 : ∀ w ∈ wtGA_592, w ∈ wsGA := fun w h => twGA_591 w (List.mem_cons_of_mem (Cond.instanceMethod yX9_countBehind) h)
theorem mGA_592 : Cond.selects RX9 yX9_countBehind yX9_countBehind ∈ wsGA := twGA_592 _ (List.mem_cons_self : Cond.selects RX9 yX9_countBehind yX9_countBehind ∈ Cond.selects RX9 yX9_countBehind yX9_countBehind :: wtGA_593)
theorem twGA_593 : ∀ w ∈ wtGA_593, w ∈ wsGA := fun w h => twGA_592 w (List.mem_cons_of_mem (Cond.selects RX9 yX9_countBehind yX9_countBehind) h)
theorem mGA_593 : Cond.code yX9_countBehind cX9_countBehind 6 none ∈ wsGA := twGA_593 _ (List.mem_cons_self : Cond.code yX9_countBehind cX9_countBehind 6 none ∈ Cond.code yX9_countBehind cX9_countBehind 6 none :: wtGA_594)
theorem twGA_594 : ∀ w ∈ wtGA_594, w ∈ wsGA := fun w h => twGA_593 w (List.mem_cons_of_mem (Cond.code yX9_countBehind cX9_countBehind 6 none) h)
theorem mGA_594 : Cond.methodLink RX9 81 Lib.Math.min.name ∈ wsGA := twGA_594 _ (List.mem_cons_self : Cond.methodLink RX9 81 Lib.Math.min.name ∈ Cond.methodLink RX9 81 Lib.Math.min.name :: wtGA_595)
theorem twGA_595 : ∀ w ∈ wtGA_595, w ∈ wsGA := fun w h => twGA_594 w (List.mem_cons_of_mem (Cond.methodLink RX9 81 Lib.Math.min.name) h)
theorem mGA_595 : Cond.methodLink RX9 86 yX9_withFull ∈ wsGA := twGA_595 _ (List.mem_cons_self : Cond.methodLink RX9 86 yX9_withFull ∈ Cond.methodLink RX9 86 yX9_withFull :: wtGA_596)
theorem twGA_596 : ∀ w ∈ wtGA_596, w ∈ wsGA := fun w h => twGA_595 w (List.mem_cons_of_mem (Cond.methodLink RX9 86 yX9_withFull) h)
theorem mGA_596 : Cond.instanceMethod yX9_withFull ∈ wsGA := twGA_596 _ (List.mem_cons_self : Cond.instanceMethod yX9_withFull ∈ Cond.instanceMethod yX9_withFull :: wtGA_597)
theorem twGA_597 : ∀ w ∈ wtGA_597, w ∈ wsGA := fun w h => twGA_596 w (List.mem_cons_of_mem (Cond.instanceMethod yX9_withFull) h)
theorem mGA_597 : Cond.selects RX9 yX9_withFull yX9_withFull ∈ wsGA := twGA_597 _ (List.mem_cons_self : Cond.selects RX9 yX9_withFull yX9_withFull ∈ Cond.selects RX9 yX9_withFull yX9_withFull :: wtGA_598)
theorem twGA_598 : ∀ w ∈ wtGA_598, w ∈ wsGA := fun w h => twGA_597 w (List.mem_cons_of_mem (Cond.selects RX9 yX9_withFull yX9_withFull) h)
theorem mGA_598 : Cond.code yX9_withFull cX9_withFull 4 (some .int) ∈ wsGA := twGA_598 _ (List.mem_cons_self : Cond.code yX9_withFull cX9_withFull 4 (some .int) ∈ Cond.code yX9_withFull cX9_withFull 4 (some .int) :: wtGA_599)
theorem twGA_599 : ∀ w ∈ wtGA_599, w ∈ wsGA := fun w h => twGA_598 w (List.mem_cons_of_mem (Cond.code yX9_withFull cX9_withFull 4 (some .int)) h)
theorem mGA_599 : Cond.methodLink RX9 89 yX9_withLean ∈ wsGA := twGA_599 _ (List.mem_cons_self : Cond.methodLink RX9 89 yX9_withLean ∈ Cond.methodLink RX9 89 yX9_withLean :: wtGA_600)
theorem twGA_600 : ∀ w ∈ wtGA_600, w ∈ wsGA := fun w h => twGA_599 w (List.mem_cons_of_mem (Cond.methodLink RX9 89 yX9_withLean) h)
theorem mGA_600 : Cond.instanceMethod yX9_withLean ∈ wsGA := twGA_600 _ (List.mem_cons_self : Cond.instanceMethod yX9_withLean ∈ Cond.instanceMethod yX9_withLean :: wtGA_601)
theorem twGA_601 : ∀ w ∈ wtGA_601, w ∈ wsGA := fun w h => twGA_600 w (List.mem_cons_of_mem (Cond.instanceMethod yX9_withLean) h)
theorem mGA_601 : Cond.selects RX9 yX9_withLean yX9_withLean ∈ wsGA := twGA_601 _ (List.mem_cons_self : Cond.selects RX9 yX9_withLean yX9_withLean ∈ Cond.selects RX9 yX9_withLean yX9_withLean :: wtGA_602)
theorem twGA_602 : ∀ w ∈ wtGA_602, w ∈ wsGA := fun w h => twGA_601 w (List.mem_cons_of_mem (Cond.selects RX9 yX9_withLean yX9_withLean) h)
theorem mGA_602 : Cond.code yX9_withLean cX9_withLean 4 (some .int) ∈ wsGA := twGA_602 _ (List.mem_cons_self : Cond.code yX9_withLean cX9_withLean 4 (some .int) ∈ Cond.code yX9_withLean cX9_withLean 4 (some .int) :: wtGA_603)
theorem twGA_603 : ∀ w ∈ wtGA_603, w ∈ wsGA := fun w h => twGA_602 w (List.mem_cons_of_mem (Cond.code yX9_withLean cX9_withLean 4 (some .int)) h)
theorem mGA_603 : Cond.methodLink RX9 49 yX9_countStarts ∈ wsGA := twGA_603 _ (List.mem_cons_self : Cond.methodLink RX9 49 yX9_countStarts ∈ Cond.methodLink RX9 49 yX9_countStarts :: wtGA_604)
theorem twGA_604 : ∀ w ∈ wtGA_604, w ∈ wsGA := fun w h => twGA_603 w (List.mem_cons_of_mem (Cond.methodLink RX9 49 yX9_countStarts) h)
theorem mGA_604 : Cond.instanceMethod yX9_countStarts ∈ wsGA := twGA_604 _ (List.mem_cons_self : Cond.instanceMethod yX9_countStarts ∈ Cond.instanceMethod yX9_countStarts :: wtGA_605)
theorem twGA_605 : ∀ w ∈ wtGA_605, w ∈ wsGA := fun w h => twGA_604 w (List.mem_cons_of_mem (Cond.instanceMethod yX9_countStarts) h)
theorem mGA_605 : Cond.selects RX9 yX9_countStarts yX9_countStarts ∈ wsGA := twGA_605 _ (List.mem_cons_self : Cond.selects RX9 yX9_countStarts yX9_countStarts ∈ Cond.selects RX9 yX9_countStarts yX9_countStarts :: wtGA_606)
theorem twGA_606 : ∀ w ∈ wtGA_606, w ∈ wsGA := fun w h => twGA_605 w (List.mem_cons_of_mem (Cond.selects RX9 yX9_countStarts yX9_countStarts) h)
theorem mGA_606 : Cond.code yX9_countStarts cX9_countStarts 6 none ∈ wsGA := twGA_606 _ (List.mem_cons_self : Cond.code yX9_countStarts cX9_countStarts 6 none ∈ Cond.code yX9_countStarts cX9_countStarts 6 none :: wtGA_607)
theorem twGA_607 : ∀ w ∈ wtGA_607, w ∈ wsGA := fun w h => twGA_606 w (List.mem_cons_of_mem (Cond.code yX9_countStarts cX9_countStarts 6 none) h)
theorem mGA_607 : Cond.methodLink RX11 279 yX9_total ∈ wsGA := twGA_607 _ (List.mem_cons_self : Cond.methodLink RX11 279 yX9_total ∈ Cond.methodLink RX11 279 yX9_total :: wtGA_608)
theorem twGA_608 : ∀ w ∈ wtGA_608, w ∈ wsGA := fun w h => twGA_607 w (List.mem_cons_of_mem (Cond.methodLink RX11 279 yX9_total) h)
theorem mGA_608 : Cond.instanceMethod yX9_total ∈ wsGA := twGA_608 _ (List.mem_cons_self : Cond.instanceMethod yX9_total ∈ Cond.instanceMethod yX9_total :: wtGA_609)
theorem twGA_609 : ∀ w ∈ wtGA_609, w ∈ wsGA := fun w h => twGA_608 w (List.mem_cons_of_mem (Cond.instanceMethod yX9_total) h)
theorem mGA_609 : Cond.selects RX9 yX9_total yX9_total ∈ wsGA := twGA_609 _ (List.mem_cons_self : Cond.selects RX9 yX9_total yX9_total ∈ Cond.selects RX9 yX9_total yX9_total :: wtGA_610)
theorem twGA_610 : ∀ w ∈ wtGA_610, w ∈ wsGA := fun w h => twGA_609 w (List.mem_cons_of_mem (Cond.selects RX9 yX9_total yX9_total) h)
theorem mGA_610 : Cond.code yX9_total cX9_total 1 (some .int) ∈ wsGA := twGA_610 _ (List.mem_cons_self : Cond.code yX9_total cX9_total 1 (some .int) ∈ Cond.code yX9_total cX9_total 1 (some .int) :: wtGA_611)
theorem twGA_611 : ∀ w ∈ wtGA_611, w ∈ wsGA := fun w h => twGA_610 w (List.mem_cons_of_mem (Cond.code yX9_total cX9_total 1 (some .int)) h)
theorem mGA_611 : Cond.instanceMethod yX11_begin ∈ wsGA := twGA_611 _ (List.mem_cons_self : Cond.instanceMethod yX11_begin ∈ Cond.instanceMethod yX11_begin :: wtGA_612)
theorem twGA_612 : ∀ w ∈ wtGA_612, w ∈ wsGA := fun w h => twGA_611 w (List.mem_cons_of_mem (Cond.instanceMethod yX11_begin) h)
theorem mGA_612 : Cond.selects RX11 yX11_begin yX11_begin ∈ wsGA := twGA_612 _ (List.mem_cons_self : Cond.selects RX11 yX11_begin yX11_begin ∈ Cond.selects RX11 yX11_begin yX11_begin :: wtGA_613)
theorem twGA_613 : ∀ w ∈ wtGA_613, w ∈ wsGA := fun w h => twGA_612 w (List.mem_cons_of_mem (Cond.selects RX11 yX11_begin yX11_begin) h)
theorem mGA_613 : Cond.code yX11_begin cX11_begin 3 (some .int) ∈ wsGA := twGA_613 _ (List.mem_cons_self : Cond.code yX11_begin cX11_begin 3 (some .int) ∈ Cond.code yX11_begin cX11_begin 3 (some .int) :: wtGA_614)
theorem twGA_614 : ∀ w ∈ wtGA_614, w ∈ wsGA := fun w h => twGA_613 w (List.mem_cons_of_mem (Cond.code yX11_begin cX11_begin 3 (some .int)) h)
theorem mGA_614 : Cond.fieldLink RX11 258 "SightedMonths$Court" "begins" "[I" ∈ wsGA := twGA_614 _ (List.mem_cons_self : Cond.fieldLink RX11 258 "SightedMonths$Court" "begins" "[I" ∈ Cond.fieldLink RX11 258 "SightedMonths$Court" "begins" "[I" :: wtGA_615)
theorem twGA_615 : ∀ w ∈ wtGA_615, w ∈ wsGA := fun w h => twGA_614 w (List.mem_cons_of_mem (Cond.fieldLink RX11 258 "SightedMonths$Court" "begins" "[I") h)
theorem mGA_615 : Cond.instanceMethod yX11_span ∈ wsGA := twGA_615 _ (List.mem_cons_self : Cond.instanceMethod yX11_span ∈ Cond.instanceMethod yX11_span :: wtGA_616)
theorem twGA_616 : ∀ w ∈ wtGA_616, w ∈ wsGA := fun w h => twGA_615 w (List.mem_cons_of_mem (Cond.instanceMethod yX11_span) h)
theorem mGA_616 : Cond.selects RX11 yX11_span yX11_span ∈ wsGA := twGA_616 _ (List.mem_cons_self : Cond.selects RX11 yX11_span yX11_span ∈ Cond.selects RX11 yX11_span yX11_span :: wtGA_617)
theorem twGA_617 : ∀ w ∈ wtGA_617, w ∈ wsGA := fun w h => twGA_616 w (List.mem_cons_of_mem (Cond.selects RX11 yX11_span yX11_span) h)
theorem mGA_617 : Cond.code yX11_span cX11_span 4 (some .int) ∈ wsGA := twGA_617 _ (List.mem_cons_self : Cond.code yX11_span cX11_span 4 (some .int) ∈ Cond.code yX11_span cX11_span 4 (some .int) :: wtGA_618)
theorem twGA_618 : ∀ w ∈ wtGA_618, w ∈ wsGA := fun w h => twGA_617 w (List.mem_cons_of_mem (Cond.code yX11_span cX11_span 4 (some .int)) h)
theorem mGA_618 : Cond.methodLink RX11 283 yX11_isEither ∈ wsGA := twGA_618 _ (List.mem_cons_self : Cond.methodLink RX11 283 yX11_isEither ∈ Cond.methodLink RX11 283 yX11_isEither :: wtGA_619)
theorem twGA_619 : ∀ w ∈ wtGA_619, w ∈ wsGA := fun w h => twGA_618 w (List.mem_cons_of_mem (Cond.methodLink RX11 283 yX11_isEither) h)
theorem mGA_619 : Cond.static yX11_isEither ∈ wsGA := twGA_619 _ (List.mem_cons_self : Cond.static yX11_isEither ∈ Cond.static yX11_isEither :: wtGA_620)
theorem twGA_620 : ∀ w ∈ wtGA_620, w ∈ wsGA := fun w h => twGA_619 w (List.mem_cons_of_mem (Cond.static yX11_isEither) h)
theorem mGA_620 : Cond.code yX11_isEither cX11_isEither 1 (some .boolean) ∈ wsGA := twGA_620 _ (List.mem_cons_self : Cond.code yX11_isEither cX11_isEither 1 (some .boolean) ∈ Cond.code yX11_isEither cX11_isEither 1 (some .boolean) :: wtGA_621)
theorem twGA_621 : ∀ w ∈ wtGA_621, w ∈ wsGA := fun w h => twGA_620 w (List.mem_cons_of_mem (Cond.code yX11_isEither cX11_isEither 1 (some .boolean)) h)
theorem mGA_621 : Cond.methodLink RX11 286 yX9_bound ∈ wsGA := twGA_621 _ (List.mem_cons_self : Cond.methodLink RX11 286 yX9_bound ∈ Cond.methodLink RX11 286 yX9_bound :: wtGA_622)
theorem twGA_622 : ∀ w ∈ wtGA_622, w ∈ wsGA := fun w h => twGA_621 w (List.mem_cons_of_mem (Cond.methodLink RX11 286 yX9_bound) h)
theorem mGA_622 : Cond.instanceMethod yX9_bound ∈ wsGA := twGA_622 _ (List.mem_cons_self : Cond.instanceMethod yX9_bound ∈ Cond.instanceMethod yX9_bound :: wtGA_623)
theorem twGA_623 : ∀ w ∈ wtGA_623, w ∈ wsGA := fun w h => twGA_622 w (List.mem_cons_of_mem (Cond.instanceMethod yX9_bound) h)
theorem mGA_623 : Cond.selects RX9 yX9_bound yX9_bound ∈ wsGA := twGA_623 _ (List.mem_cons_self : Cond.selects RX9 yX9_bound yX9_bound ∈ Cond.selects RX9 yX9_bound yX9_bound :: wtGA_624)
theorem twGA_624 : ∀ w ∈ wtGA_624, w ∈ wsGA := fun w h => twGA_623 w (List.mem_cons_of_mem (Cond.selects RX9 yX9_bound yX9_bound) h)
theorem mGA_624 : Cond.code yX9_bound cX9_bound 5 (some .int) ∈ wsGA := twGA_624 _ (List.mem_cons_self : Cond.code yX9_bound cX9_bound 5 (some .int) ∈ Cond.code yX9_bound cX9_bound 5 (some .int) :: wtGA_625)
theorem twGA_625 : ∀ w ∈ wtGA_625, w ∈ wsGA := fun w h => twGA_624 w (List.mem_cons_of_mem (Cond.code yX9_bound cX9_bound 5 (some .int)) h)
theorem mGA_625 : Cond.instanceMethod yX11_sure ∈ wsGA := twGA_625 _ (List.mem_cons_self : Cond.instanceMethod yX11_sure ∈ Cond.instanceMethod yX11_sure :: wtGA_626)
theorem twGA_626 : ∀ w ∈ wtGA_626, w ∈ wsGA := fun w h => twGA_625 w (List.mem_cons_of_mem (Cond.instanceMethod yX11_sure) h)
theorem mGA_626 : Cond.selects RX11 yX11_sure yX11_sure ∈ wsGA := twGA_626 _ (List.mem_cons_self : Cond.selects RX11 yX11_sure yX11_sure ∈ Cond.selects RX11 yX11_sure yX11_sure :: wtGA_627)
theorem twGA_627 : ∀ w ∈ wtGA_627, w ∈ wsGA := fun w h => twGA_626 w (List.mem_cons_of_mem (Cond.selects RX11 yX11_sure yX11_sure) h)
theorem mGA_627 : Cond.code yX11_sure cX11_sure 5 (some .int) ∈ wsGA := twGA_627 _ (List.mem_cons_self : Cond.code yX11_sure cX11_sure 5 (some .int) ∈ Cond.code yX11_sure cX11_sure 5 (some .int) :: wtGA_628)
theorem twGA_628 : ∀ w ∈ wtGA_628, w ∈ wsGA := fun w h => twGA_627 w (List.mem_cons_of_mem (Cond.code yX11_sure cX11_sure 5 (some .int)) h)
theorem mGA_628 : Cond.instanceMethod yX11_lasts ∈ wsGA := twGA_628 _ (List.mem_cons_self : Cond.instanceMethod yX11_lasts ∈ Cond.instanceMethod yX11_lasts :: wtGA_629)
theorem twGA_629 : ∀ w ∈ wtGA_629, w ∈ wsGA := fun w h => twGA_628 w (List.mem_cons_of_mem (Cond.instanceMethod yX11_lasts) h)
theorem mGA_629 : Cond.selects RX11 yX11_lasts yX11_lasts ∈ wsGA := twGA_629 _ (List.mem_cons_self : Cond.selects RX11 yX11_lasts yX11_lasts ∈ Cond.selects RX11 yX11_lasts yX11_lasts :: wtGA_630)
theorem twGA_630 : ∀ w ∈ wtGA_630, w ∈ wsGA := fun w h => twGA_629 w (List.mem_cons_of_mem (Cond.selects RX11 yX11_lasts yX11_lasts) h)
theorem mGA_630 : Cond.code yX11_lasts cX11_lasts 3 (some .int) ∈ wsGA := twGA_630 _ (List.mem_cons_self : Cond.code yX11_lasts cX11_lasts 3 (some .int) ∈ Cond.code yX11_lasts cX11_lasts 3 (some .int) :: wtGA_631)
theorem twGA_631 : ∀ w ∈ wtGA_631, w ∈ wsGA := fun w h => twGA_630 w (List.mem_cons_of_mem (Cond.code yX11_lasts cX11_lasts 3 (some .int)) h)
theorem mGA_631 : Cond.methodLink RX11 358 yX1_lengthOf ∈ wsGA := twGA_631 _ (List.mem_cons_self : Cond.methodLink RX11 358 yX1_lengthOf ∈ Cond.methodLink RX11 358 yX1_lengthOf :: wtGA_632)
theorem twGA_632 : ∀ w ∈ wtGA_632, w ∈ wsGA := fun w h => twGA_631 w (List.mem_cons_of_mem (Cond.methodLink RX11 358 yX1_lengthOf) h)
theorem mGA_632 : Cond.instanceMethod yX1_lengthOf ∈ wsGA := twGA_632 _ (List.mem_cons_self : Cond.instanceMethod yX1_lengthOf ∈ Cond.instanceMethod yX1_lengthOf :: wtGA_633)
theorem twGA_633 : ∀ w ∈ wtGA_633, w ∈ wsGA := fun w h => twGA_632 w (List.mem_cons_of_mem (Cond.instanceMethod yX1_lengthOf) h)
theorem mGA_633 : Cond.selects RX1 yX1_lengthOf yX1_lengthOf ∈ wsGA := twGA_633 _ (List.mem_cons_self : Cond.selects RX1 yX1_lengthOf yX1_lengthOf ∈ Cond.selects RX1 yX1_lengthOf yX1_lengthOf :: wtGA_634)
theorem twGA_634 : ∀ w ∈ wtGA_634, w ∈ wsGA := fun w h => twGA_633 w (List.mem_cons_of_mem (Cond.selects RX1 yX1_lengthOf yX1_lengthOf) h)
theorem mGA_634 : Cond.code yX1_lengthOf cX1_lengthOf 2 (some .int) ∈ wsGA := twGA_634 _ (List.mem_cons_self : Cond.code yX1_lengthOf cX1_lengthOf 2 (some .int) ∈ Cond.code yX1_lengthOf cX1_lengthOf 2 (some .int) :: wtGA_635)
theorem twGA_635 : ∀ w ∈ wtGA_635, w ∈ wsGA := fun w h => twGA_634 w (List.mem_cons_of_mem (Cond.code yX1_lengthOf cX1_lengthOf 2 (some .int)) h)
theorem mGA_635 : Cond.instanceMethod yX11_could ∈ wsGA := twGA_635 _ (List.mem_cons_self : Cond.instanceMethod yX11_could ∈ Cond.instanceMethod yX11_could :: wtGA_636)
theorem twGA_636 : ∀ w ∈ wtGA_636, w ∈ wsGA := fun w h => twGA_635 w (List.mem_cons_of_mem (Cond.instanceMethod yX11_could) h)
theorem mGA_636 : Cond.selects RX11 yX11_could yX11_could ∈ wsGA := twGA_636 _ (List.mem_cons_self : Cond.selects RX11 yX11_could yX11_could ∈ Cond.selects RX11 yX11_could yX11_could :: wtGA_637)
theorem twGA_637 : ∀ w ∈ wtGA_637, w ∈ wsGA := fun w h => twGA_636 w (List.mem_cons_of_mem (Cond.selects RX11 yX11_could yX11_could) h)
theorem mGA_637 : Cond.code yX11_could cX11_could 4 (some .int) ∈ wsGA := twGA_637 _ (List.mem_cons_self : Cond.code yX11_could cX11_could 4 (some .int) ∈ Cond.code yX11_could cX11_could 4 (some .int) :: wtGA_638)
theorem twGA_638 : ∀ w ∈ wtGA_638, w ∈ wsGA := fun w h => twGA_637 w (List.mem_cons_of_mem (Cond.code yX11_could cX11_could 4 (some .int)) h)
theorem mGA_638 : Cond.methodLink RX11 290 yX9_onDay ∈ wsGA := twGA_638 _ (List.mem_cons_self : Cond.methodLink RX11 290 yX9_onDay ∈ Cond.methodLink RX11 290 yX9_onDay :: wtGA_639)
theorem twGA_639 : ∀ w ∈ wtGA_639, w ∈ wsGA := fun w h => twGA_638 w (List.mem_cons_of_mem (Cond.methodLink RX11 290 yX9_onDay) h)
theorem mGA_639 : Cond.instanceMethod yX9_onDay ∈ wsGA := twGA_639 _ (List.mem_cons_self : Cond.instanceMethod yX9_onDay ∈ Cond.instanceMethod yX9_onDay :: wtGA_640)
theorem twGA_640 : ∀ w ∈ wtGA_640, w ∈ wsGA := fun w h => twGA_639 w (List.mem_cons_of_mem (Cond.instanceMethod yX9_onDay) h)
theorem mGA_640 : Cond.selects RX9 yX9_onDay yX9_onDay ∈ wsGA := twGA_640 _ (List.mem_cons_self : Cond.selects RX9 yX9_onDay yX9_onDay ∈ Cond.selects RX9 yX9_onDay yX9_onDay :: wtGA_641)
theorem twGA_641 : ∀ w ∈ wtGA_641, w ∈ wsGA := fun w h => twGA_640 w (List.mem_cons_of_mem (Cond.selects RX9 yX9_onDay yX9_onDay) h)
theorem mGA_641 : Cond.code yX9_onDay cX9_onDay 4 (some .int) ∈ wsGA := twGA_641 _ (List.mem_cons_self : Cond.code yX9_onDay cX9_onDay 4 (some .int) ∈ Cond.code yX9_onDay cX9_onDay 4 (some .int) :: wtGA_642)
theorem twGA_642 : ∀ w ∈ wtGA_642, w ∈ wsGA := fun w h => twGA_641 w (List.mem_cons_of_mem (Cond.code yX9_onDay cX9_onDay 4 (some .int)) h)
theorem mGA_642 : Cond.instanceMethod yX11_lean ∈ wsGA := twGA_642 _ (List.mem_cons_self : Cond.instanceMethod yX11_lean ∈ Cond.instanceMethod yX11_lean :: wtGA_643)
theorem twGA_643 : ∀ w ∈ wtGA_643, w ∈ wsGA := fun w h => twGA_642 w (List.mem_cons_of_mem (Cond.instanceMethod yX11_lean) h)
theorem mGA_643 : Cond.selects RX11 yX11_lean yX11_lean ∈ wsGA := twGA_643 _ (List.mem_cons_self : Cond.selects RX11 yX11_lean yX11_lean ∈ Cond.selects RX11 yX11_lean yX11_lean :: wtGA_644)
theorem twGA_644 : ∀ w ∈ wtGA_644, w ∈ wsGA := fun w h => twGA_643 w (List.mem_cons_of_mem (Cond.selects RX11 yX11_lean yX11_lean) h)
theorem mGA_644 : Cond.code yX11_lean cX11_lean 3 (some .int) ∈ wsGA := twGA_644 _ (List.mem_cons_self : Cond.code yX11_lean cX11_lean 3 (some .int) ∈ Cond.code yX11_lean cX11_lean 3 (some .int) :: wtGA_645)
theorem twGA_645 : ∀ w ∈ wtGA_645, w ∈ wsGA := fun w h => twGA_644 w (List.mem_cons_of_mem (Cond.code yX11_lean cX11_lean 3 (some .int)) h)
theorem mGA_645 : Cond.methodLink RX11 294 yX9_leanIn ∈ wsGA := twGA_645 _ (List.mem_cons_self : Cond.methodLink RX11 294 yX9_leanIn ∈ Cond.methodLink RX11 294 yX9_leanIn :: wtGA_646)
theorem twGA_646 : ∀ w ∈ wtGA_646, w ∈ wsGA := fun w h => twGA_645 w (List.mem_cons_of_mem (Cond.methodLink RX11 294 yX9_leanIn) h)
theorem mGA_646 : Cond.instanceMethod yX9_leanIn ∈ wsGA := twGA_646 _ (List.mem_cons_self : Cond.instanceMethod yX9_leanIn ∈ Cond.instanceMethod yX9_leanIn :: wtGA_647)
theorem twGA_647 : ∀ w ∈ wtGA_647, w ∈ wsGA := fun w h => twGA_646 w (List.mem_cons_of_mem (Cond.instanceMethod yX9_leanIn) h)
theorem mGA_647 : Cond.selects RX9 yX9_leanIn yX9_leanIn ∈ wsGA := twGA_647 _ (List.mem_cons_self : Cond.selects RX9 yX9_leanIn yX9_leanIn ∈ Cond.selects RX9 yX9_leanIn yX9_leanIn :: wtGA_648)
theorem twGA_648 : ∀ w ∈ wtGA_648, w ∈ wsGA := fun w h => twGA_647 w (List.mem_cons_of_mem (Cond.selects RX9 yX9_leanIn yX9_leanIn) h)
theorem mGA_648 : Cond.code yX9_leanIn cX9_leanIn 5 (some .int) ∈ wsGA := twGA_648 _ (List.mem_cons_self : Cond.code yX9_leanIn cX9_leanIn 5 (some .int) ∈ Cond.code yX9_leanIn cX9_leanIn 5 (some .int) :: wtGA_649)
theorem twGA_649 : ∀ w ∈ wtGA_649, w ∈ wsGA := fun w h => twGA_648 w (List.mem_cons_of_mem (Cond.code yX9_leanIn cX9_leanIn 5 (some .int)) h)
theorem mGA_649 : Cond.instanceMethod yX11_ranked ∈ wsGA := twGA_649 _ (List.mem_cons_self : Cond.instanceMethod yX11_ranked ∈ Cond.instanceMethod yX11_ranked :: wtGA_650)
theorem twGA_650 : ∀ w ∈ wtGA_650, w ∈ wsGA := fun w h => twGA_649 w (List.mem_cons_of_mem (Cond.instanceMethod yX11_ranked) h)
theorem mGA_650 : Cond.selects RX11 yX11_ranked yX11_ranked ∈ wsGA := twGA_650 _ (List.mem_cons_self : Cond.selects RX11 yX11_ranked yX11_ranked ∈ Cond.selects RX11 yX11_ranked yX11_ranked :: wtGA_651)
theorem twGA_651 : ∀ w ∈ wtGA_651, w ∈ wsGA := fun w h => twGA_650 w (List.mem_cons_of_mem (Cond.selects RX11 yX11_ranked yX11_ranked) h)
theorem mGA_651 : Cond.code yX11_ranked cX11_ranked 5 (some .int) ∈ wsGA := twGA_651 _ (List.mem_cons_self : Cond.code yX11_ranked cX11_ranked 5 (some .int) ∈ Cond.code yX11_ranked cX11_ranked 5 (some .int) :: wtGA_652)
theorem twGA_652 : ∀ w ∈ wtGA_652, w ∈ wsGA := fun w h => twGA_651 w (List.mem_cons_of_mem (Cond.code yX11_ranked cX11_ranked 5 (some .int)) h)
theorem mGA_652 : Cond.methodLink RX11 297 yX9_beginOf ∈ wsGA := twGA_652 _ (List.mem_cons_self : Cond.methodLink RX11 297 yX9_beginOf ∈ Cond.methodLink RX11 297 yX9_beginOf :: wtGA_653)
theorem twGA_653 : ∀ w ∈ wtGA_653, w ∈ wsGA := fun w h => twGA_652 w (List.mem_cons_of_mem (Cond.methodLink RX11 297 yX9_beginOf) h)
theorem mGA_653 : Cond.instanceMethod yX9_beginOf ∈ wsGA := twGA_653 _ (List.mem_cons_self : Cond.instanceMethod yX9_beginOf ∈ Cond.instanceMethod yX9_beginOf :: wtGA_654)
theorem twGA_654 : ∀ w ∈ wtGA_654, w ∈ wsGA := fun w h => twGA_653 w (List.mem_cons_of_mem (Cond.instanceMethod yX9_beginOf) h)
theorem mGA_654 : Cond.selects RX9 yX9_beginOf yX9_beginOf ∈ wsGA := twGA_654 _ (List.mem_cons_self : Cond.selects RX9 yX9_beginOf yX9_beginOf ∈ Cond.selects RX9 yX9_beginOf yX9_beginOf :: wtGA_655)
theorem twGA_655 : ∀ w ∈ wtGA_655, w ∈ wsGA := fun w h => twGA_654 w (List.mem_cons_of_mem (Cond.selects RX9 yX9_beginOf yX9_beginOf) h)
theorem mGA_655 : Cond.code yX9_beginOf cX9_beginOf 8 (some .int) ∈ wsGA := twGA_655 _ (List.mem_cons_self : Cond.code yX9_beginOf cX9_beginOf 8 (some .int) ∈ Cond.code yX9_beginOf cX9_beginOf 8 (some .int) :: wtGA_656)
theorem twGA_656 : ∀ w ∈ wtGA_656, w ∈ wsGA := fun w h => twGA_655 w (List.mem_cons_of_mem (Cond.code yX9_beginOf cX9_beginOf 8 (some .int)) h)
theorem mGA_656 : Cond.instanceMethod yX11_rank ∈ wsGA := twGA_656 _ (List.mem_cons_self : Cond.instanceMethod yX11_rank ∈ Cond.instanceMethod yX11_rank :: wtGA_657)
theorem twGA_657 : ∀ w ∈ wtGA_657, w ∈ wsGA := fun w h => twGA_656 w (List.mem_cons_of_mem (Cond.instanceMethod yX11_rank) h)
theorem mGA_657 : Cond.selects RX11 yX11_rank yX11_rank ∈ wsGA := twGA_657 _ (List.mem_cons_self : Cond.selects RX11 yX11_rank yX11_rank ∈ Cond.selects RX11 yX11_rank yX11_rank :: wtGA_658)
theorem twGA_658 : ∀ w ∈ wtGA_658, w ∈ wsGA := fun w h => twGA_657 w (List.mem_cons_of_mem (Cond.selects RX11 yX11_rank yX11_rank) h)
theorem mGA_658 : Cond.code yX11_rank cX11_rank 3 (some .int) ∈ wsGA := twGA_658 _ (List.mem_cons_self : Cond.code yX11_rank cX11_rank 3 (some .int) ∈ Cond.code yX11_rank cX11_rank 3 (some .int) :: wtGA_659)
theorem twGA_659 : ∀ w ∈ wtGA_659, w ∈ wsGA := fun w h => twGA_658 w (List.mem_cons_of_mem (Cond.code yX11_rank cX11_rank 3 (some .int)) h)
theorem mGA_659 : Cond.methodLink RX11 300 yX9_indexOf ∈ wsGA := twGA_659 _ (List.mem_cons_self : Cond.methodLink RX11 300 yX9_indexOf ∈ Cond.methodLink RX11 300 yX9_indexOf :: wtGA_660)
theorem twGA_660 : ∀ w ∈ wtGA_660, w ∈ wsGA := fun w h => twGA_659 w (List.mem_cons_of_mem (Cond.methodLink RX11 300 yX9_indexOf) h)
theorem mGA_660 : Cond.instanceMethod yX9_indexOf ∈ wsGA := twGA_660 _ (List.mem_cons_self : Cond.instanceMethod yX9_indexOf ∈ Cond.instanceMethod yX9_indexOf :: wtGA_661)
theorem twGA_661 : ∀ w ∈ wtGA_661, w ∈ wsGA := fun w h => twGA_660 w (List.mem_cons_of_mem (Cond.instanceMethod yX9_indexOf) h)
theorem mGA_661 : Cond.selects RX9 yX9_indexOf yX9_indexOf ∈ wsGA := twGA_661 _ (List.mem_cons_self : Cond.selects RX9 yX9_indexOf yX9_indexOf ∈ Cond.selects RX9 yX9_indexOf yX9_indexOf :: wtGA_662)
theorem twGA_662 : ∀ w ∈ wtGA_662, w ∈ wsGA := fun w h => twGA_661 w (List.mem_cons_of_mem (Cond.selects RX9 yX9_indexOf yX9_indexOf) h)
theorem mGA_662 : Cond.code yX9_indexOf cX9_indexOf 6 (some .int) ∈ wsGA := twGA_662 _ (List.mem_cons_self : Cond.code yX9_indexOf cX9_indexOf 6 (some .int) ∈ Cond.code yX9_indexOf cX9_indexOf 6 (some .int) :: wtGA_663)
theorem twGA_663 : ∀ w ∈ wtGA_663, w ∈ wsGA := fun w h => twGA_662 w (List.mem_cons_of_mem (Cond.code yX9_indexOf cX9_indexOf 6 (some .int)) h)
theorem mGA_663 : Cond.instanceMethod yX11_drawn ∈ wsGA := twGA_663 _ (List.mem_cons_self : Cond.instanceMethod yX11_drawn ∈ Cond.instanceMethod yX11_drawn :: wtGA_664)
theorem twGA_664 : ∀ w ∈ wtGA_664, w ∈ wsGA := fun w h => twGA_663 w (List.mem_cons_of_mem (Cond.instanceMethod yX11_drawn) h)
theorem mGA_664 : Cond.selects RX11 yX11_drawn yX11_drawn ∈ wsGA := twGA_664 _ (List.mem_cons_self : Cond.selects RX11 yX11_drawn yX11_drawn ∈ Cond.selects RX11 yX11_drawn yX11_drawn :: wtGA_665)
theorem twGA_665 : ∀ w ∈ wtGA_665, w ∈ wsGA := fun w h => twGA_664 w (List.mem_cons_of_mem (Cond.selects RX11 yX11_drawn yX11_drawn) h)
theorem mGA_665 : Cond.code yX11_drawn cX11_drawn 5 (some .int) ∈ wsGA := twGA_665 _ (List.mem_cons_self : Cond.code yX11_drawn cX11_drawn 5 (some .int) ∈ Cond.code yX11_drawn cX11_drawn 5 (some .int) :: wtGA_666)
theorem twGA_666 : ∀ w ∈ wtGA_666, w ∈ wsGA := fun w h => twGA_665 w (List.mem_cons_of_mem (Cond.code yX11_drawn cX11_drawn 5 (some .int)) h)
theorem mGA_666 : Cond.constant RX11 303 (1103515245) ∈ wsGA := twGA_666 _ (List.mem_cons_self : Cond.constant RX11 303 (1103515245) ∈ Cond.constant RX11 303 (1103515245) :: wtGA_667)
theorem twGA_667 : ∀ w ∈ wtGA_667, w ∈ wsGA := fun w h => twGA_666 w (List.mem_cons_of_mem (Cond.constant RX11 303 (1103515245)) h)
theorem mGA_667 : Cond.instanceMethod yX11_day ∈ wsGA := twGA_667 _ (List.mem_cons_self : Cond.instanceMethod yX11_day ∈ Cond.instanceMethod yX11_day :: wtGA_668)
theorem twGA_668 : ∀ w ∈ wtGA_668, w ∈ wsGA := fun w h => twGA_667 w (List.mem_cons_of_mem (Cond.instanceMethod yX11_day) h)
theorem mGA_668 : Cond.selects RX11 yX11_day yX11_day ∈ wsGA := twGA_668 _ (List.mem_cons_self : Cond.selects RX11 yX11_day yX11_day ∈ Cond.selects RX11 yX11_day yX11_day :: wtGA_669)
theorem twGA_669 : ∀ w ∈ wtGA_669, w ∈ wsGA := fun w h => twGA_668 w (List.mem_cons_of_mem (Cond.selects RX11 yX11_day yX11_day) h)
theorem mGA_669 : Cond.code yX11_day cX11_day 4 (some .int) ∈ wsGA := twGA_669 _ (List.mem_cons_self : Cond.code yX11_day cX11_day 4 (some .int) ∈ Cond.code yX11_day cX11_day 4 (some .int) :: wtGA_670)
theorem twGA_670 : ∀ w ∈ wtGA_670, w ∈ wsGA := fun w h => twGA_669 w (List.mem_cons_of_mem (Cond.code yX11_day cX11_day 4 (some .int)) h)
theorem mGA_670 : Cond.methodLink RX11 314 yX11_hasDate ∈ wsGA := twGA_670 _ (List.mem_cons_self : Cond.methodLink RX11 314 yX11_hasDate ∈ Cond.methodLink RX11 314 yX11_hasDate :: wtGA_671)
theorem twGA_671 : ∀ w ∈ wtGA_671, w ∈ wsGA := fun w h => twGA_670 w (List.mem_cons_of_mem (Cond.methodLink RX11 314 yX11_hasDate) h)
theorem mGA_671 : Cond.instanceMethod yX11_hasDate ∈ wsGA := twGA_671 _ (List.mem_cons_self : Cond.instanceMethod yX11_hasDate ∈ Cond.instanceMethod yX11_hasDate :: wtGA_672)
theorem twGA_672 : ∀ w ∈ wtGA_672, w ∈ wsGA := fun w h => twGA_671 w (List.mem_cons_of_mem (Cond.instanceMethod yX11_hasDate) h)
theorem mGA_672 : Cond.selects RX11 yX11_hasDate yX11_hasDate ∈ wsGA := twGA_672 _ (List.mem_cons_self : Cond.selects RX11 yX11_hasDate yX11_hasDate ∈ Cond.selects RX11 yX11_hasDate yX11_hasDate :: wtGA_673)
theorem twGA_673 : ∀ w ∈ wtGA_673, w ∈ wsGA := fun w h => twGA_672 w (List.mem_cons_of_mem (Cond.selects RX11 yX11_hasDate yX11_hasDate) h)
theorem mGA_673 : Cond.code yX11_hasDate cX11_hasDate 3 (some .boolean) ∈ wsGA := twGA_673 _ (List.mem_cons_self : Cond.code yX11_hasDate cX11_hasDate 3 (some .boolean) ∈ Cond.code yX11_hasDate cX11_hasDate 3 (some .boolean) :: wtGA_674)
theorem twGA_674 : ∀ w ∈ wtGA_674, w ∈ wsGA := fun w h => twGA_673 w (List.mem_cons_of_mem (Cond.code yX11_hasDate cX11_hasDate 3 (some .boolean)) h)
theorem mGA_674 : Cond.methodLink RX11 317 yX11_anchorOf ∈ wsGA := twGA_674 _ (List.mem_cons_self : Cond.methodLink RX11 317 yX11_anchorOf ∈ Cond.methodLink RX11 317 yX11_anchorOf :: wtGA_675)
theorem twGA_675 : ∀ w ∈ wtGA_675, w ∈ wsGA := fun w h => twGA_674 w (List.mem_cons_of_mem (Cond.methodLink RX11 317 yX11_anchorOf) h)
theorem mGA_675 : Cond.static yX11_anchorOf ∈ wsGA := twGA_675 _ (List.mem_cons_self : Cond.static yX11_anchorOf ∈ Cond.static yX11_anchorOf :: wtGA_676)
theorem twGA_676 : ∀ w ∈ wtGA_676, w ∈ wsGA := fun w h => twGA_675 w (List.mem_cons_of_mem (Cond.static yX11_anchorOf) h)
theorem mGA_676 : Cond.code yX11_anchorOf cX11_anchorOf 2 (some .int) ∈ wsGA := twGA_676 _ (List.mem_cons_self : Cond.code yX11_anchorOf cX11_anchorOf 2 (some .int) ∈ Cond.code yX11_anchorOf cX11_anchorOf 2 (some .int) :: wtGA_677)
theorem twGA_677 : ∀ w ∈ wtGA_677, w ∈ wsGA := fun w h => twGA_676 w (List.mem_cons_of_mem (Cond.code yX11_anchorOf cX11_anchorOf 2 (some .int)) h)
theorem mGA_677 : Cond.methodLink RX11 320 yX11_offsetOf ∈ wsGA := twGA_677 _ (List.mem_cons_self : Cond.methodLink RX11 320 yX11_offsetOf ∈ Cond.methodLink RX11 320 yX11_offsetOf :: wtGA_678)
theorem twGA_678 : ∀ w ∈ wtGA_678, w ∈ wsGA := fun w h => twGA_677 w (List.mem_cons_of_mem (Cond.methodLink RX11 320 yX11_offsetOf) h)
theorem mGA_678 : Cond.static yX11_offsetOf ∈ wsGA := twGA_678 _ (List.mem_cons_self : Cond.static yX11_offsetOf ∈ Cond.static yX11_offsetOf :: wtGA_679)
theorem twGA_679 : ∀ w ∈ wtGA_679, w ∈ wsGA := fun w h => twGA_678 w (List.mem_cons_of_mem (Cond.static yX11_offsetOf) h)
theorem mGA_679 : Cond.code yX11_offsetOf cX11_offsetOf 1 (some .int) ∈ wsGA := twGA_679 _ (List.mem_cons_self : Cond.code yX11_offsetOf cX11_offsetOf 1 (some .int) ∈ Cond.code yX11_offsetOf cX11_offsetOf 1 (some .int) :: wtGA_680)
theorem twGA_680 : ∀ w ∈ wtGA_680, w ∈ wsGA := fun w h => twGA_679 w (List.mem_cons_of_mem (Cond.code yX11_offsetOf cX11_offsetOf 1 (some .int)) h)
theorem mGA_680 : Cond.instanceMethod yX11_date ∈ wsGA := twGA_680 _ (List.mem_cons_self : Cond.instanceMethod yX11_date ∈ Cond.instanceMethod yX11_date :: wtGA_681)
theorem twGA_681 : ∀ w ∈ wtGA_681, w ∈ wsGA := fun w h => twGA_680 w (List.mem_cons_of_mem (Cond.instanceMethod yX11_date) h)
theorem mGA_681 : Cond.selects RX11 yX11_date yX11_date ∈ wsGA := twGA_681 _ (List.mem_cons_self : Cond.selects RX11 yX11_date yX11_date ∈ Cond.selects RX11 yX11_date yX11_date :: wtGA_682)
theorem twGA_682 : ∀ w ∈ wtGA_682, w ∈ wsGA := fun w h => twGA_681 w (List.mem_cons_of_mem (Cond.selects RX11 yX11_date yX11_date) h)
theorem mGA_682 : Cond.code yX11_date cX11_date 5 (some .int) ∈ wsGA := twGA_682 _ (List.mem_cons_self : Cond.code yX11_date cX11_date 5 (some .int) ∈ Cond.code yX11_date cX11_date 5 (some .int) :: wtGA_683)
theorem twGA_683 : ∀ w ∈ wtGA_683, w ∈ wsGA := fun w h => twGA_682 w (List.mem_cons_of_mem (Cond.code yX11_date cX11_date 5 (some .int)) h)
theorem mGA_683 : Cond.instanceMethod yX11_dates ∈ wsGA := twGA_683 _ (List.mem_cons_self : Cond.instanceMethod yX11_dates ∈ Cond.instanceMethod yX11_dates :: wtGA_684)
theorem twGA_684 : ∀ w ∈ wtGA_684, w ∈ wsGA := fun w h => twGA_683 w (List.mem_cons_of_mem (Cond.instanceMethod yX11_dates) h)
theorem mGA_684 : Cond.selects RX11 yX11_dates yX11_dates ∈ wsGA := twGA_684 _ (List.mem_cons_self : Cond.selects RX11 yX11_dates yX11_dates ∈ Cond.selects RX11 yX11_dates yX11_dates :: wtGA_685)
theorem twGA_685 : ∀ w ∈ wtGA_685, w ∈ wsGA := fun w h => twGA_684 w (List.mem_cons_of_mem (Cond.selects RX11 yX11_dates yX11_dates) h)
theorem mGA_685 : Cond.code yX11_dates cX11_dates 7 (some .int) ∈ wsGA := twGA_685 _ (List.mem_cons_self : Cond.code yX11_dates cX11_dates 7 (some .int) ∈ Cond.code yX11_dates cX11_dates 7 (some .int) :: wtGA_686)
theorem twGA_686 : ∀ w ∈ wtGA_686, w ∈ wsGA := fun w h => twGA_685 w (List.mem_cons_of_mem (Cond.code yX11_dates cX11_dates 7 (some .int)) h)
theorem mGA_686 : Cond.methodLink RX11 304 yX9_dated ∈ wsGA := twGA_686 _ (List.mem_cons_self : Cond.methodLink RX11 304 yX9_dated ∈ Cond.methodLink RX11 304 yX9_dated :: wtGA_687)
theorem twGA_687 : ∀ w ∈ wtGA_687, w ∈ wsGA := fun w h => twGA_686 w (List.mem_cons_of_mem (Cond.methodLink RX11 304 yX9_dated) h)
theorem mGA_687 : Cond.instanceMethod yX9_dated ∈ wsGA := twGA_687 _ (List.mem_cons_self : Cond.instanceMethod yX9_dated ∈ Cond.instanceMethod yX9_dated :: wtGA_688)
theorem twGA_688 : ∀ w ∈ wtGA_688, w ∈ wsGA := fun w h => twGA_687 w (List.mem_cons_of_mem (Cond.instanceMethod yX9_dated) h)
theorem mGA_688 : Cond.selects RX9 yX9_dated yX9_dated ∈ wsGA := twGA_688 _ (List.mem_cons_self : Cond.selects RX9 yX9_dated yX9_dated ∈ Cond.selects RX9 yX9_dated yX9_dated :: wtGA_689)
theorem twGA_689 : ∀ w ∈ wtGA_689, w ∈ wsGA := fun w h => twGA_688 w (List.mem_cons_of_mem (Cond.selects RX9 yX9_dated yX9_dated) h)
theorem mGA_689 : Cond.code yX9_dated cX9_dated 7 (some .int) ∈ wsGA := twGA_689 _ (List.mem_cons_self : Cond.code yX9_dated cX9_dated 7 (some .int) ∈ Cond.code yX9_dated cX9_dated 7 (some .int) :: wtGA_690)
theorem twGA_690 : ∀ w ∈ wtGA_690, w ∈ wsGA := fun w h => twGA_689 w (List.mem_cons_of_mem (Cond.code yX9_dated cX9_dated 7 (some .int)) h)
theorem mGA_690 : Cond.instanceMethod yX11_likely ∈ wsGA := twGA_690 _ (List.mem_cons_self : Cond.instanceMethod yX11_likely ∈ Cond.instanceMethod yX11_likely :: wtGA_691)
theorem twGA_691 : ∀ w ∈ wtGA_691, w ∈ wsGA := fun w h => twGA_690 w (List.mem_cons_of_mem (Cond.instanceMethod yX11_likely) h)
theorem mGA_691 : Cond.selects RX11 yX11_likely yX11_likely ∈ wsGA := twGA_691 _ (List.mem_cons_self : Cond.selects RX11 yX11_likely yX11_likely ∈ Cond.selects RX11 yX11_likely yX11_likely :: wtGA_692)
theorem twGA_692 : ∀ w ∈ wtGA_692, w ∈ wsGA := fun w h => twGA_691 w (List.mem_cons_of_mem (Cond.selects RX11 yX11_likely yX11_likely) h)
theorem mGA_692 : Cond.code yX11_likely cX11_likely 9 (some .int) ∈ wsGA := twGA_692 _ (List.mem_cons_self : Cond.code yX11_likely cX11_likely 9 (some .int) ∈ Cond.code yX11_likely cX11_likely 9 (some .int) :: wtGA_693)
theorem twGA_693 : ∀ w ∈ wtGA_693, w ∈ wsGA := fun w h => twGA_692 w (List.mem_cons_of_mem (Cond.code yX11_likely cX11_likely 9 (some .int)) h)
theorem mGA_693 : Cond.methodLink RX11 308 yX11_dayOf ∈ wsGA := twGA_693 _ (List.mem_cons_self : Cond.methodLink RX11 308 yX11_dayOf ∈ Cond.methodLink RX11 308 yX11_dayOf :: wtGA_694)
theorem twGA_694 : ∀ w ∈ wtGA_694, w ∈ wsGA := fun w h => twGA_693 w (List.mem_cons_of_mem (Cond.methodLink RX11 308 yX11_dayOf) h)
theorem mGA_694 : Cond.instanceMethod yX11_moved ∈ wsGA := twGA_694 _ (List.mem_cons_self : Cond.instanceMethod yX11_moved ∈ Cond.instanceMethod yX11_moved :: wtGA_695)
theorem twGA_695 : ∀ w ∈ wtGA_695, w ∈ wsGA := fun w h => twGA_694 w (List.mem_cons_of_mem (Cond.instanceMethod yX11_moved) h)
theorem mGA_695 : Cond.selects RX11 yX11_moved yX11_moved ∈ wsGA := twGA_695 _ (List.mem_cons_self : Cond.selects RX11 yX11_moved yX11_moved ∈ Cond.selects RX11 yX11_moved yX11_moved :: wtGA_696)
theorem twGA_696 : ∀ w ∈ wtGA_696, w ∈ wsGA := fun w h => twGA_695 w (List.mem_cons_of_mem (Cond.selects RX11 yX11_moved yX11_moved) h)
theorem mGA_696 : Cond.code yX11_moved cX11_moved 5 (some .int) ∈ wsGA := twGA_696 _ (List.mem_cons_self : Cond.code yX11_moved cX11_moved 5 (some .int) ∈ Cond.code yX11_moved cX11_moved 5 (some .int) :: wtGA_697)
theorem twGA_697 : ∀ w ∈ wtGA_697, w ∈ wsGA := fun w h => twGA_696 w (List.mem_cons_of_mem (Cond.code yX11_moved cX11_moved 5 (some .int)) h)
theorem mGA_697 : Cond.instanceMethod yX11_shifts ∈ wsGA := twGA_697 _ (List.mem_cons_self : Cond.instanceMethod yX11_shifts ∈ Cond.instanceMethod yX11_shifts :: wtGA_698)
theorem twGA_698 : ∀ w ∈ wtGA_698, w ∈ wsGA := fun w h => twGA_697 w (List.mem_cons_of_mem (Cond.instanceMethod yX11_shifts) h)
theorem mGA_698 : Cond.selects RX11 yX11_shifts yX11_shifts ∈ wsGA := twGA_698 _ (List.mem_cons_self : Cond.selects RX11 yX11_shifts yX11_shifts ∈ Cond.selects RX11 yX11_shifts yX11_shifts :: wtGA_699)
theorem twGA_699 : ∀ w ∈ wtGA_699, w ∈ wsGA := fun w h => twGA_698 w (List.mem_cons_of_mem (Cond.selects RX11 yX11_shifts yX11_shifts) h)
theorem mGA_699 : Cond.code yX11_shifts cX11_shifts 2 (some .int) ∈ wsGA := twGA_699 _ (List.mem_cons_self : Cond.code yX11_shifts cX11_shifts 2 (some .int) ∈ Cond.code yX11_shifts cX11_shifts 2 (some .int) :: wtGA_700)
theorem twGA_700 : ∀ w ∈ wtGA_700, w ∈ wsGA := fun w h => twGA_699 w (List.mem_cons_of_mem (Cond.code yX11_shifts cX11_shifts 2 (some .int)) h)
theorem mGA_700 : Cond.methodLink RX11 361 yX11_historyNow ∈ wsGA := twGA_700 _ (List.mem_cons_self : Cond.methodLink RX11 361 yX11_historyNow ∈ Cond.methodLink RX11 361 yX11_historyNow :: wtGA_701)
theorem twGA_701 : ∀ w ∈ wtGA_701, w ∈ wsGA := fun w h => twGA_700 w (List.mem_cons_of_mem (Cond.methodLink RX11 361 yX11_historyNow) h)
theorem mGA_701 : Cond.instanceMethod yX11_historyNow ∈ wsGA := twGA_701 _ (List.mem_cons_self : Cond.instanceMethod yX11_historyNow ∈ Cond.instanceMethod yX11_historyNow :: wtGA_702)
theorem twGA_702 : ∀ w ∈ wtGA_702, w ∈ wsGA := fun w h => twGA_701 w (List.mem_cons_of_mem (Cond.instanceMethod yX11_historyNow) h)
theorem mGA_702 : Cond.selects RX11 yX11_historyNow yX11_historyNow ∈ wsGA := twGA_702 _ (List.mem_cons_self : Cond.selects RX11 yX11_historyNow yX11_historyNow ∈ Cond.selects RX11 yX11_historyNow yX11_historyNow :: wtGA_703)
theorem twGA_703 : ∀ w ∈ wtGA_703, w ∈ wsGA := fun w h => twGA_702 w (List.mem_cons_of_mem (Cond.selects RX11 yX11_historyNow yX11_historyNow) h)
theorem mGA_703 : Cond.code yX11_historyNow cX11_historyNow 1 (some (.object "SightedMonths$History")) ∈ wsGA := twGA_703 _ (List.mem_cons_self : Cond.code yX11_historyNow cX11_historyNow 1 (some (.object "SightedMonths$History")) ∈ Cond.code yX11_historyNow cX11_historyNow 1 (some (.object "SightedMonths$History")) :: wtGA_704)
theorem twGA_704 : ∀ w ∈ wtGA_704, w ∈ wsGA := fun w h => twGA_703 w (List.mem_cons_of_mem (Cond.code yX11_historyNow cX11_historyNow 1 (some (.object "SightedMonths$History"))) h)
theorem mGA_704 : Cond.methodLink RX11 409 yX4_fill ∈ wsGA := twGA_704 _ (List.mem_cons_self : Cond.methodLink RX11 409 yX4_fill ∈ Cond.methodLink RX11 409 yX4_fill :: wtGA_705)
theorem twGA_705 : ∀ w ∈ wtGA_705, w ∈ wsGA := fun w h => twGA_704 w (List.mem_cons_of_mem (Cond.methodLink RX11 409 yX4_fill) h)
theorem mGA_705 : Cond.instanceMethod yX4_fill ∈ wsGA := twGA_705 _ (List.mem_cons_self : Cond.instanceMethod yX4_fill ∈ Cond.instanceMethod yX4_fill :: wtGA_706)
theorem twGA_706 : ∀ w ∈ wtGA_706, w ∈ wsGA := fun w h => twGA_705 w (List.mem_cons_of_mem (Cond.instanceMethod yX4_fill) h)
theorem mGA_706 : Cond.selects RX4 yX4_fill yX4_fill ∈ wsGA := twGA_706 _ (List.mem_cons_self : Cond.selects RX4 yX4_fill yX4_fill ∈ Cond.selects RX4 yX4_fill yX4_fill :: wtGA_707)
theorem twGA_707 : ∀ w ∈ wtGA_707, w ∈ wsGA := fun w h => twGA_706 w (List.mem_cons_of_mem (Cond.selects RX4 yX4_fill yX4_fill) h)
theorem mGA_707 : Cond.code yX4_fill cX4_fill 4 none ∈ wsGA := twGA_707 _ (List.mem_cons_self : Cond.code yX4_fill cX4_fill 4 none ∈ Cond.code yX4_fill cX4_fill 4 none :: wtGA_708)
theorem twGA_708 : ∀ w ∈ wtGA_708, w ∈ wsGA := fun w h => twGA_707 w (List.mem_cons_of_mem (Cond.code yX4_fill cX4_fill 4 none) h)
theorem mGA_708 : Cond.fieldLink RX4 28 "SightedMonths$Court" "begins" "[I" ∈ wsGA := twGA_708 _ (List.mem_cons_self : Cond.fieldLink RX4 28 "SightedMonths$Court" "begins" "[I" ∈ Cond.fieldLink RX4 28 "SightedMonths$Court" "begins" "[I" :: wtGA_709)
theorem twGA_709 : ∀ w ∈ wtGA_709, w ∈ wsGA := fun w h => twGA_708 w (List.mem_cons_of_mem (Cond.fieldLink RX4 28 "SightedMonths$Court" "begins" "[I") h)
theorem mGA_709 : Cond.methodLink RX4 29 arraycopyName ∈ wsGA := twGA_709 _ (List.mem_cons_self : Cond.methodLink RX4 29 arraycopyName ∈ Cond.methodLink RX4 29 arraycopyName :: wtGA_710)
theorem twGA_710 : ∀ w ∈ wtGA_710, w ∈ wsGA := fun w h => twGA_709 w (List.mem_cons_of_mem (Cond.methodLink RX4 29 arraycopyName) h)
theorem mGA_710 : Cond.native arraycopyName ∈ wsGA := twGA_710 _ (List.mem_cons_self : Cond.native arraycopyName ∈ Cond.native arraycopyName :: wtGA_711)
theorem twGA_711 : ∀ w ∈ wtGA_711, w ∈ wsGA := fun w h => twGA_710 w (List.mem_cons_of_mem (Cond.native arraycopyName) h)
theorem mGA_711 : Cond.static arraycopyName ∈ wsGA := twGA_711 _ (List.mem_cons_self : Cond.static arraycopyName ∈ Cond.static arraycopyName :: wtGA_712)
theorem twGA_712 : ∀ w ∈ wtGA_712, w ∈ wsGA := fun w h => twGA_711 w (List.mem_cons_of_mem (Cond.static arraycopyName) h)
theorem mGA_712 : Cond.initialized "java/lang/System" ∈ wsGA := twGA_712 _ (List.mem_cons_self : Cond.initialized "java/lang/System" ∈ Cond.initialized "java/lang/System" :: wtGA_713)
theorem twGA_713 : ∀ w ∈ wtGA_713, w ∈ wsGA := fun w h => twGA_712 w (List.mem_cons_of_mem (Cond.initialized "java/lang/System") h)
theorem mGA_713 : Cond.methodLink RX4 22 yX1_judge ∈ wsGA := twGA_713 _ (List.mem_cons_self : Cond.methodLink RX4 22 yX1_judge ∈ Cond.methodLink RX4 22 yX1_judge :: wtGA_714)
theorem twGA_714 : ∀ w ∈ wtGA_714, w ∈ wsGA := fun w h => twGA_713 w (List.mem_cons_of_mem (Cond.methodLink RX4 22 yX1_judge) h)
theorem mGA_714 : Cond.methodLink RX4 35 yX0_newsBehind ∈ wsGA := twGA_714 _ (List.mem_cons_self : Cond.methodLink RX4 35 yX0_newsBehind ∈ Cond.methodLink RX4 35 yX0_newsBehind :: wtGA_715)
theorem twGA_715 : ∀ w ∈ wtGA_715, w ∈ wsGA := fun w h => twGA_714 w (List.mem_cons_of_mem (Cond.methodLink RX4 35 yX0_newsBehind) h)
theorem mGA_715 : Cond.instanceMethod yX0_newsBehind ∈ wsGA := twGA_715 _ (List.mem_cons_self : Cond.instanceMethod yX0_newsBehind ∈ Cond.instanceMethod yX0_newsBehind :: wtGA_716)
theorem twGA_716 : ∀ w ∈ wtGA_716, w ∈ wsGA := fun w h => twGA_715 w (List.mem_cons_of_mem (Cond.instanceMethod yX0_newsBehind) h)
theorem mGA_716 : Cond.selects RX0 yX0_newsBehind yX0_newsBehind ∈ wsGA := twGA_716 _ (List.mem_cons_self : Cond.selects RX0 yX0_newsBehind yX0_newsBehind ∈ Cond.selects RX0 yX0_newsBehind yX0_newsBehind :: wtGA_717)
theorem twGA_717 : ∀ w ∈ wtGA_717, w ∈ wsGA := fun w h => twGA_716 w (List.mem_cons_of_mem (Cond.selects RX0 yX0_newsBehind yX0_newsBehind) h)
theorem mGA_717 : Cond.code yX0_newsBehind cX0_newsBehind 4 (some .int) ∈ wsGA := twGA_717 _ (List.mem_cons_self : Cond.code yX0_newsBehind cX0_newsBehind 4 (some .int) ∈ Cond.code yX0_newsBehind cX0_newsBehind 4 (some .int) :: wtGA_718)
theorem twGA_718 : ∀ w ∈ wtGA_718, w ∈ wsGA := fun w h => twGA_717 w (List.mem_cons_of_mem (Cond.code yX0_newsBehind cX0_newsBehind 4 (some .int)) h)
theorem mGA_718 : Cond.methodLink RX0 121 Lib.Math.min.name ∈ wsGA := twGA_718 _ (List.mem_cons_self : Cond.methodLink RX0 121 Lib.Math.min.name ∈ Cond.methodLink RX0 121 Lib.Math.min.name :: wtGA_719)
theorem twGA_719 : ∀ w ∈ wtGA_719, w ∈ wsGA := fun w h => twGA_718 w (List.mem_cons_of_mem (Cond.methodLink RX0 121 Lib.Math.min.name) h)
theorem mGA_719 : Cond.methodLink RX11 365 yX4_changesOf ∈ wsGA := twGA_719 _ (List.mem_cons_self : Cond.methodLink RX11 365 yX4_changesOf ∈ Cond.methodLink RX11 365 yX4_changesOf :: wtGA_720)
theorem twGA_720 : ∀ w ∈ wtGA_720, w ∈ wsGA := fun w h => twGA_719 w (List.mem_cons_of_mem (Cond.methodLink RX11 365 yX4_changesOf) h)
theorem mGA_720 : Cond.instanceMethod yX4_changesOf ∈ wsGA := twGA_720 _ (List.mem_cons_self : Cond.instanceMethod yX4_changesOf ∈ Cond.instanceMethod yX4_changesOf :: wtGA_721)
theorem twGA_721 : ∀ w ∈ wtGA_721, w ∈ wsGA := fun w h => twGA_720 w (List.mem_cons_of_mem (Cond.instanceMethod yX4_changesOf) h)
theorem mGA_721 : Cond.selects RX4 yX4_changesOf yX4_changesOf ∈ wsGA := twGA_721 _ (List.mem_cons_self : Cond.selects RX4 yX4_changesOf yX4_changesOf ∈ Cond.selects RX4 yX4_changesOf yX4_changesOf :: wtGA_722)
theorem twGA_722 : ∀ w ∈ wtGA_722, w ∈ wsGA := fun w h => twGA_721 w (List.mem_cons_of_mem (Cond.selects RX4 yX4_changesOf yX4_changesOf) h)
theorem mGA_722 : Cond.code yX4_changesOf cX4_changesOf 4 (some .int) ∈ wsGA := twGA_722 _ (List.mem_cons_self : Cond.code yX4_changesOf cX4_changesOf 4 (some .int) ∈ Cond.code yX4_changesOf cX4_changesOf 4 (some .int) :: wtGA_723)
theorem twGA_723 : ∀ w ∈ wtGA_723, w ∈ wsGA := fun w h => twGA_722 w (List.mem_cons_of_mem (Cond.code yX4_changesOf cX4_changesOf 4 (some .int)) h)
theorem mGA_723 : Cond.methodLink RX4 41 yX4_changesAt ∈ wsGA := twGA_723 _ (List.mem_cons_self : Cond.methodLink RX4 41 yX4_changesAt ∈ Cond.methodLink RX4 41 yX4_changesAt :: wtGA_724)
theorem twGA_724 : ∀ w ∈ wtGA_724, w ∈ wsGA := fun w h => twGA_723 w (List.mem_cons_of_mem (Cond.methodLink RX4 41 yX4_changesAt) h)
theorem mGA_724 : Cond.instanceMethod yX4_changesAt ∈ wsGA := twGA_724 _ (List.mem_cons_self : Cond.instanceMethod yX4_changesAt ∈ Cond.instanceMethod yX4_changesAt :: wtGA_725)
theorem twGA_725 : ∀ w ∈ wtGA_725, w ∈ wsGA := fun w h => twGA_724 w (List.mem_cons_of_mem (Cond.instanceMethod yX4_changesAt) h)
theorem mGA_725 : Cond.selects RX4 yX4_changesAt yX4_changesAt ∈ wsGA := twGA_725 _ (List.mem_cons_self : Cond.selects RX4 yX4_changesAt yX4_changesAt ∈ Cond.selects RX4 yX4_changesAt yX4_changesAt :: wtGA_726)
theorem twGA_726 : ∀ w ∈ wtGA_726, w ∈ wsGA := fun w h => twGA_725 w (List.mem_cons_of_mem (Cond.selects RX4 yX4_changesAt yX4_changesAt) h)
theorem mGA_726 : Cond.code yX4_changesAt cX4_changesAt 3 (some .boolean) ∈ wsGA := twGA_726 _ (List.mem_cons_self : Cond.code yX4_changesAt cX4_changesAt 3 (some .boolean) ∈ Cond.code yX4_changesAt cX4_changesAt 3 (some .boolean) :: wtGA_727)
theorem twGA_727 : ∀ w ∈ wtGA_727, w ∈ wsGA := fun w h => twGA_726 w (List.mem_cons_of_mem (Cond.code yX4_changesAt cX4_changesAt 3 (some .boolean)) h)
theorem mGA_727 : Cond.instanceMethod yX11_settled ∈ wsGA := twGA_727 _ (List.mem_cons_self : Cond.instanceMethod yX11_settled ∈ Cond.instanceMethod yX11_settled :: wtGA_728)
theorem twGA_728 : ∀ w ∈ wtGA_728, w ∈ wsGA := fun w h => twGA_727 w (List.mem_cons_of_mem (Cond.instanceMethod yX11_settled) h)
theorem mGA_728 : Cond.selects RX11 yX11_settled yX11_settled ∈ wsGA := twGA_728 _ (List.mem_cons_self : Cond.selects RX11 yX11_settled yX11_settled ∈ Cond.selects RX11 yX11_settled yX11_settled :: wtGA_729)
theorem twGA_729 : ∀ w ∈ wtGA_729, w ∈ wsGA := fun w h => twGA_728 w (List.mem_cons_of_mem (Cond.selects RX11 yX11_settled yX11_settled) h)
theorem mGA_729 : Cond.code yX11_settled cX11_settled 2 (some .int) ∈ wsGA := twGA_729 _ (List.mem_cons_self : Cond.code yX11_settled cX11_settled 2 (some .int) ∈ Cond.code yX11_settled cX11_settled 2 (some .int) :: wtGA_730)
theorem twGA_730 : ∀ w ∈ wtGA_730, w ∈ wsGA := fun w h => twGA_729 w (List.mem_cons_of_mem (Cond.code yX11_settled cX11_settled 2 (some .int)) h)
theorem mGA_730 : Cond.methodLink RX11 368 yX4_lastChangeOf ∈ wsGA := twGA_730 _ (List.mem_cons_self : Cond.methodLink RX11 368 yX4_lastChangeOf ∈ Cond.methodLink RX11 368 yX4_lastChangeOf :: wtGA_731)
theorem twGA_731 : ∀ w ∈ wtGA_731, w ∈ wsGA := fun w h => twGA_730 w (List.mem_cons_of_mem (Cond.methodLink RX11 368 yX4_lastChangeOf) h)
theorem mGA_731 : Cond.instanceMethod yX4_lastChangeOf ∈ wsGA := twGA_731 _ (List.mem_cons_self : Cond.instanceMethod yX4_lastChangeOf ∈ Cond.instanceMethod yX4_lastChangeOf :: wtGA_732)
theorem twGA_732 : ∀ w ∈ wtGA_732, w ∈ wsGA := fun w h => twGA_731 w (List.mem_cons_of_mem (Cond.instanceMethod yX4_lastChangeOf) h)
theorem mGA_732 : Cond.selects RX4 yX4_lastChangeOf yX4_lastChangeOf ∈ wsGA := twGA_732 _ (List.mem_cons_self : Cond.selects RX4 yX4_lastChangeOf yX4_lastChangeOf ∈ Cond.selects RX4 yX4_lastChangeOf yX4_lastChangeOf :: wtGA_733)
theorem twGA_733 : ∀ w ∈ wtGA_733, w ∈ wsGA := fun w h => twGA_732 w (List.mem_cons_of_mem (Cond.selects RX4 yX4_lastChangeOf yX4_lastChangeOf) h)
theorem mGA_733 : Cond.code yX4_lastChangeOf cX4_lastChangeOf 3 (some .int) ∈ wsGA := twGA_733 _ (List.mem_cons_self : Cond.code yX4_lastChangeOf cX4_lastChangeOf 3 (some .int) ∈ Cond.code yX4_lastChangeOf cX4_lastChangeOf 3 (some .int) :: wtGA_734)
theorem twGA_734 : ∀ w ∈ wtGA_734, w ∈ wsGA := fun w h => twGA_733 w (List.mem_cons_of_mem (Cond.code yX4_lastChangeOf cX4_lastChangeOf 3 (some .int)) h)
theorem mGA_734 : Cond.instanceMethod yX11_due ∈ wsGA := twGA_734 _ (List.mem_cons_self : Cond.instanceMethod yX11_due ∈ Cond.instanceMethod yX11_due :: wtGA_735)
theorem twGA_735 : ∀ w ∈ wtGA_735, w ∈ wsGA := fun w h => twGA_734 w (List.mem_cons_of_mem (Cond.instanceMethod yX11_due) h)
theorem mGA_735 : Cond.selects RX11 yX11_due yX11_due ∈ wsGA := twGA_735 _ (List.mem_cons_self : Cond.selects RX11 yX11_due yX11_due ∈ Cond.selects RX11 yX11_due yX11_due :: wtGA_736)
theorem twGA_736 : ∀ w ∈ wtGA_736, w ∈ wsGA := fun w h => twGA_735 w (List.mem_cons_of_mem (Cond.selects RX11 yX11_due yX11_due) h)
theorem mGA_736 : Cond.code yX11_due cX11_due 3 (some .int) ∈ wsGA := twGA_736 _ (List.mem_cons_self : Cond.code yX11_due cX11_due 3 (some .int) ∈ Cond.code yX11_due cX11_due 3 (some .int) :: wtGA_737)
theorem twGA_737 : ∀ w ∈ wtGA_737, w ∈ wsGA := fun w h => twGA_736 w (List.mem_cons_of_mem (Cond.code yX11_due cX11_due 3 (some .int)) h)
theorem mGA_737 : Cond.methodLink RX11 375 yX11_endByOfficial ∈ wsGA := twGA_737 _ (List.mem_cons_self : Cond.methodLink RX11 375 yX11_endByOfficial ∈ Cond.methodLink RX11 375 yX11_endByOfficial :: wtGA_738)
theorem twGA_738 : ∀ w ∈ wtGA_738, w ∈ wsGA := fun w h => twGA_737 w (List.mem_cons_of_mem (Cond.methodLink RX11 375 yX11_endByOfficial) h)
theorem mGA_738 : Cond.instanceMethod yX11_endByOfficial ∈ wsGA := twGA_738 _ (List.mem_cons_self : Cond.instanceMethod yX11_endByOfficial ∈ Cond.instanceMethod yX11_endByOfficial :: wtGA_739)
theorem twGA_739 : ∀ w ∈ wtGA_739, w ∈ wsGA := fun w h => twGA_738 w (List.mem_cons_of_mem (Cond.instanceMethod yX11_endByOfficial) h)
theorem mGA_739 : Cond.selects RX11 yX11_endByOfficial yX11_endByOfficial ∈ wsGA := twGA_739 _ (List.mem_cons_self : Cond.selects RX11 yX11_endByOfficial yX11_endByOfficial ∈ Cond.selects RX11 yX11_endByOfficial yX11_endByOfficial :: wtGA_740)
theorem twGA_740 : ∀ w ∈ wtGA_740, w ∈ wsGA := fun w h => twGA_739 w (List.mem_cons_of_mem (Cond.selects RX11 yX11_endByOfficial yX11_endByOfficial) h)
theorem mGA_740 : Cond.code yX11_endByOfficial cX11_endByOfficial 4 (some .int) ∈ wsGA := twGA_740 _ (List.mem_cons_self : Cond.code yX11_endByOfficial cX11_endByOfficial 4 (some .int) ∈ Cond.code yX11_endByOfficial cX11_endByOfficial 4 (some .int) :: wtGA_741)
theorem twGA_741 : ∀ w ∈ wtGA_741, w ∈ wsGA := fun w h => twGA_740 w (List.mem_cons_of_mem (Cond.code yX11_endByOfficial cX11_endByOfficial 4 (some .int)) h)
theorem mGA_741 : Cond.methodLink RX11 378 yX2_endAnchor ∈ wsGA := twGA_741 _ (List.mem_cons_self : Cond.methodLink RX11 378 yX2_endAnchor ∈ Cond.methodLink RX11 378 yX2_endAnchor :: wtGA_742)
theorem twGA_742 : ∀ w ∈ wtGA_742, w ∈ wsGA := fun w h => twGA_741 w (List.mem_cons_of_mem (Cond.methodLink RX11 378 yX2_endAnchor) h)
theorem mGA_742 : Cond.instanceMethod yX2_endAnchor ∈ wsGA := twGA_742 _ (List.mem_cons_self : Cond.instanceMethod yX2_endAnchor ∈ Cond.instanceMethod yX2_endAnchor :: wtGA_743)
theorem twGA_743 : ∀ w ∈ wtGA_743, w ∈ wsGA := fun w h => twGA_742 w (List.mem_cons_of_mem (Cond.instanceMethod yX2_endAnchor) h)
theorem mGA_743 : Cond.selects RX2 yX2_endAnchor yX2_endAnchor ∈ wsGA := twGA_743 _ (List.mem_cons_self : Cond.selects RX2 yX2_endAnchor yX2_endAnchor ∈ Cond.selects RX2 yX2_endAnchor yX2_endAnchor :: wtGA_744)
theorem twGA_744 : ∀ w ∈ wtGA_744, w ∈ wsGA := fun w h => twGA_743 w (List.mem_cons_of_mem (Cond.selects RX2 yX2_endAnchor yX2_endAnchor) h)
theorem mGA_744 : Cond.code yX2_endAnchor cX2_endAnchor 1 (some .int) ∈ wsGA := twGA_744 _ (List.mem_cons_self : Cond.code yX2_endAnchor cX2_endAnchor 1 (some .int) ∈ Cond.code yX2_endAnchor cX2_endAnchor 1 (some .int) :: wtGA_745)
theorem twGA_745 : ∀ w ∈ wtGA_745, w ∈ wsGA := fun w h => twGA_744 w (List.mem_cons_of_mem (Cond.code yX2_endAnchor cX2_endAnchor 1 (some .int)) h)
theorem mGA_745 : Cond.fieldLink RX2 7 "SightedMonths$Deed" "inDays" "Z" ∈ wsGA := twGA_745 _ (List.mem_cons_self : Cond.fieldLink RX2 7 "SightedMonths$Deed" "inDays" "Z" ∈ Cond.fieldLink RX2 7 "SightedMonths$Deed" "inDays" "Z" :: wtGA_746)
theorem twGA_746 : ∀ w ∈ wtGA_746, w ∈ wsGA := fun w h => twGA_745 w (List.mem_cons_of_mem (Cond.fieldLink RX2 7 "SightedMonths$Deed" "inDays" "Z") h)
theorem mGA_746 : Cond.fieldLink RX2 13 "SightedMonths$Deed" "month" "I" ∈ wsGA := twGA_746 _ (List.mem_cons_self : Cond.fieldLink RX2 13 "SightedMonths$Deed" "month" "I" ∈ Cond.fieldLink RX2 13 "SightedMonths$Deed" "month" "I" :: wtGA_747)
theorem twGA_747 : ∀ w ∈ wtGA_747, w ∈ wsGA := fun w h => twGA_746 w (List.mem_cons_of_mem (Cond.fieldLink RX2 13 "SightedMonths$Deed" "month" "I") h)
theorem mGA_747 : Cond.fieldLink RX2 17 "SightedMonths$Deed" "length" "I" ∈ wsGA := twGA_747 _ (List.mem_cons_self : Cond.fieldLink RX2 17 "SightedMonths$Deed" "length" "I" ∈ Cond.fieldLink RX2 17 "SightedMonths$Deed" "length" "I" :: wtGA_748)
theorem twGA_748 : ∀ w ∈ wtGA_748, w ∈ wsGA := fun w h => twGA_747 w (List.mem_cons_of_mem (Cond.fieldLink RX2 17 "SightedMonths$Deed" "length" "I") h)
theorem mGA_748 : Cond.fieldLink RX2 20 "SightedMonths$Deed" "day" "I" ∈ wsGA := twGA_748 _ (List.mem_cons_self : Cond.fieldLink RX2 20 "SightedMonths$Deed" "day" "I" ∈ Cond.fieldLink RX2 20 "SightedMonths$Deed" "day" "I" :: wtGA_749)
theorem twGA_749 : ∀ w ∈ wtGA_749, w ∈ wsGA := fun w h => twGA_748 w (List.mem_cons_of_mem (Cond.fieldLink RX2 20 "SightedMonths$Deed" "day" "I") h)
theorem mGA_749 : Cond.methodLink RX11 381 yX2_endOffset ∈ wsGA := twGA_749 _ (List.mem_cons_self : Cond.methodLink RX11 381 yX2_endOffset ∈ Cond.methodLink RX11 381 yX2_endOffset :: wtGA_750)
theorem twGA_750 : ∀ w ∈ wtGA_750, w ∈ wsGA := fun w h => twGA_749 w (List.mem_cons_of_mem (Cond.methodLink RX11 381 yX2_endOffset) h)
theorem mGA_750 : Cond.instanceMethod yX2_endOffset ∈ wsGA := twGA_750 _ (List.mem_cons_self : Cond.instanceMethod yX2_endOffset ∈ Cond.instanceMethod yX2_endOffset :: wtGA_751)
theorem twGA_751 : ∀ w ∈ wtGA_751, w ∈ wsGA := fun w h => twGA_750 w (List.mem_cons_of_mem (Cond.instanceMethod yX2_endOffset) h)
theorem mGA_751 : Cond.selects RX2 yX2_endOffset yX2_endOffset ∈ wsGA := twGA_751 _ (List.mem_cons_self : Cond.selects RX2 yX2_endOffset yX2_endOffset ∈ Cond.selects RX2 yX2_endOffset yX2_endOffset :: wtGA_752)
theorem twGA_752 : ∀ w ∈ wtGA_752, w ∈ wsGA := fun w h => twGA_751 w (List.mem_cons_of_mem (Cond.selects RX2 yX2_endOffset yX2_endOffset) h)
theorem mGA_752 : Cond.code yX2_endOffset cX2_endOffset 1 (some .int) ∈ wsGA := twGA_752 _ (List.mem_cons_self : Cond.code yX2_endOffset cX2_endOffset 1 (some .int) ∈ Cond.code yX2_endOffset cX2_endOffset 1 (some .int) :: wtGA_753)
theorem twGA_753 : ∀ w ∈ wtGA_753, w ∈ wsGA := fun w h => twGA_752 w (List.mem_cons_of_mem (Cond.code yX2_endOffset cX2_endOffset 1 (some .int)) h)
theorem mGA_753 : Cond.instanceMethod yX11_dueSpan ∈ wsGA := twGA_753 _ (List.mem_cons_self : Cond.instanceMethod yX11_dueSpan ∈ Cond.instanceMethod yX11_dueSpan :: wtGA_754)
theorem twGA_754 : ∀ w ∈ wtGA_754, w ∈ wsGA := fun w h => twGA_753 w (List.mem_cons_of_mem (Cond.instanceMethod yX11_dueSpan) h)
theorem mGA_754 : Cond.selects RX11 yX11_dueSpan yX11_dueSpan ∈ wsGA := twGA_754 _ (List.mem_cons_self : Cond.selects RX11 yX11_dueSpan yX11_dueSpan ∈ Cond.selects RX11 yX11_dueSpan yX11_dueSpan :: wtGA_755)
theorem twGA_755 : ∀ w ∈ wtGA_755, w ∈ wsGA := fun w h => twGA_754 w (List.mem_cons_of_mem (Cond.selects RX11 yX11_dueSpan yX11_dueSpan) h)
theorem mGA_755 : Cond.code yX11_dueSpan cX11_dueSpan 5 (some .int) ∈ wsGA := twGA_755 _ (List.mem_cons_self : Cond.code yX11_dueSpan cX11_dueSpan 5 (some .int) ∈ Cond.code yX11_dueSpan cX11_dueSpan 5 (some .int) :: wtGA_756)
theorem twGA_756 : ∀ w ∈ wtGA_756, w ∈ wsGA := fun w h => twGA_755 w (List.mem_cons_of_mem (Cond.code yX11_dueSpan cX11_dueSpan 5 (some .int)) h)
theorem mGA_756 : Cond.instanceMethod yX11_dueOn ∈ wsGA := twGA_756 _ (List.mem_cons_self : Cond.instanceMethod yX11_dueOn ∈ Cond.instanceMethod yX11_dueOn :: wtGA_757)
theorem twGA_757 : ∀ w ∈ wtGA_757, w ∈ wsGA := fun w h => twGA_756 w (List.mem_cons_of_mem (Cond.instanceMethod yX11_dueOn) h)
theorem mGA_757 : Cond.selects RX11 yX11_dueOn yX11_dueOn ∈ wsGA := twGA_757 _ (List.mem_cons_self : Cond.selects RX11 yX11_dueOn yX11_dueOn ∈ Cond.selects RX11 yX11_dueOn yX11_dueOn :: wtGA_758)
theorem twGA_758 : ∀ w ∈ wtGA_758, w ∈ wsGA := fun w h => twGA_757 w (List.mem_cons_of_mem (Cond.selects RX11 yX11_dueOn yX11_dueOn) h)
theorem mGA_758 : Cond.code yX11_dueOn cX11_dueOn 5 (some .int) ∈ wsGA := twGA_758 _ (List.mem_cons_self : Cond.code yX11_dueOn cX11_dueOn 5 (some .int) ∈ Cond.code yX11_dueOn cX11_dueOn 5 (some .int) :: wtGA_759)
theorem twGA_759 : ∀ w ∈ wtGA_759, w ∈ wsGA := fun w h => twGA_758 w (List.mem_cons_of_mem (Cond.code yX11_dueOn cX11_dueOn 5 (some .int)) h)
theorem mGA_759 : Cond.instanceMethod yX11_redated ∈ wsGA := twGA_759 _ (List.mem_cons_self : Cond.instanceMethod yX11_redated ∈ Cond.instanceMethod yX11_redated :: wtGA_760)
theorem twGA_760 : ∀ w ∈ wtGA_760, w ∈ wsGA := fun w h => twGA_759 w (List.mem_cons_of_mem (Cond.instanceMethod yX11_redated) h)
theorem mGA_760 : Cond.selects RX11 yX11_redated yX11_redated ∈ wsGA := twGA_760 _ (List.mem_cons_self : Cond.selects RX11 yX11_redated yX11_redated ∈ Cond.selects RX11 yX11_redated yX11_redated :: wtGA_761)
theorem twGA_761 : ∀ w ∈ wtGA_761, w ∈ wsGA := fun w h => twGA_760 w (List.mem_cons_of_mem (Cond.selects RX11 yX11_redated yX11_redated) h)
theorem mGA_761 : Cond.code yX11_redated cX11_redated 2 (some .int) ∈ wsGA := twGA_761 _ (List.mem_cons_self : Cond.code yX11_redated cX11_redated 2 (some .int) ∈ Cond.code yX11_redated cX11_redated 2 (some .int) :: wtGA_762)
theorem twGA_762 : ∀ w ∈ wtGA_762, w ∈ wsGA := fun w h => twGA_761 w (List.mem_cons_of_mem (Cond.code yX11_redated cX11_redated 2 (some .int)) h)
theorem mGA_762 : Cond.instanceMethod yX11_longer ∈ wsGA := twGA_762 _ (List.mem_cons_self : Cond.instanceMethod yX11_longer ∈ Cond.instanceMethod yX11_longer :: wtGA_763)
theorem twGA_763 : ∀ w ∈ wtGA_763, w ∈ wsGA := fun w h => twGA_762 w (List.mem_cons_of_mem (Cond.instanceMethod yX11_longer) h)
theorem mGA_763 : Cond.selects RX11 yX11_longer yX11_longer ∈ wsGA := twGA_763 _ (List.mem_cons_self : Cond.selects RX11 yX11_longer yX11_longer ∈ Cond.selects RX11 yX11_longer yX11_longer :: wtGA_764)
theorem twGA_764 : ∀ w ∈ wtGA_764, w ∈ wsGA := fun w h => twGA_763 w (List.mem_cons_of_mem (Cond.selects RX11 yX11_longer yX11_longer) h)
theorem mGA_764 : Cond.code yX11_longer cX11_longer 4 (some .int) ∈ wsGA := twGA_764 _ (List.mem_cons_self : Cond.code yX11_longer cX11_longer 4 (some .int) ∈ Cond.code yX11_longer cX11_longer 4 (some .int) :: wtGA_765)
theorem twGA_765 : ∀ w ∈ wtGA_765, w ∈ wsGA := fun w h => twGA_764 w (List.mem_cons_of_mem (Cond.code yX11_longer cX11_longer 4 (some .int)) h)
theorem mGA_765 : Cond.methodLink RX11 384 yX11_leastLead ∈ wsGA := twGA_765 _ (List.mem_cons_self : Cond.methodLink RX11 384 yX11_leastLead ∈ Cond.methodLink RX11 384 yX11_leastLead :: wtGA_766)
theorem twGA_766 : ∀ w ∈ wtGA_766, w ∈ wsGA := fun w h => twGA_765 w (List.mem_cons_of_mem (Cond.methodLink RX11 384 yX11_leastLead) h)
theorem mGA_766 : Cond.instanceMethod yX11_leastLead ∈ wsGA := twGA_766 _ (List.mem_cons_self : Cond.instanceMethod yX11_leastLead ∈ Cond.instanceMethod yX11_leastLead :: wtGA_767)
theorem twGA_767 : ∀ w ∈ wtGA_767, w ∈ wsGA := fun w h => twGA_766 w (List.mem_cons_of_mem (Cond.instanceMethod yX11_leastLead) h)
theorem mGA_767 : Cond.selects RX11 yX11_leastLead yX11_leastLead ∈ wsGA := twGA_767 _ (List.mem_cons_self : Cond.selects RX11 yX11_leastLead yX11_leastLead ∈ Cond.selects RX11 yX11_leastLead yX11_leastLead :: wtGA_768)
theorem twGA_768 : ∀ w ∈ wtGA_768, w ∈ wsGA := fun w h => twGA_767 w (List.mem_cons_of_mem (Cond.selects RX11 yX11_leastLead yX11_leastLead) h)
theorem mGA_768 : Cond.code yX11_leastLead cX11_leastLead 7 (some .int) ∈ wsGA := twGA_768 _ (List.mem_cons_self : Cond.code yX11_leastLead cX11_leastLead 7 (some .int) ∈ Cond.code yX11_leastLead cX11_leastLead 7 (some .int) :: wtGA_769)
theorem twGA_769 : ∀ w ∈ wtGA_769, w ∈ wsGA := fun w h => twGA_768 w (List.mem_cons_of_mem (Cond.code yX11_leastLead cX11_leastLead 7 (some .int)) h)
theorem mGA_769 : Cond.methodLink RX11 326 yX8_wipe ∈ wsGA := twGA_769 _ (List.mem_cons_self : Cond.methodLink RX11 326 yX8_wipe ∈ Cond.methodLink RX11 326 yX8_wipe :: wtGA_770)
theorem twGA_770 : ∀ w ∈ wtGA_770, w ∈ wsGA := fun w h => twGA_769 w (List.mem_cons_of_mem (Cond.methodLink RX11 326 yX8_wipe) h)
theorem mGA_770 : Cond.instanceMethod yX8_wipe ∈ wsGA := twGA_770 _ (List.mem_cons_self : Cond.instanceMethod yX8_wipe ∈ Cond.instanceMethod yX8_wipe :: wtGA_771)
theorem twGA_771 : ∀ w ∈ wtGA_771, w ∈ wsGA := fun w h => twGA_770 w (List.mem_cons_of_mem (Cond.instanceMethod yX8_wipe) h)
theorem mGA_771 : Cond.selects RX8 yX8_wipe yX8_wipe ∈ wsGA := twGA_771 _ (List.mem_cons_self : Cond.selects RX8 yX8_wipe yX8_wipe ∈ Cond.selects RX8 yX8_wipe yX8_wipe :: wtGA_772)
theorem twGA_772 : ∀ w ∈ wtGA_772, w ∈ wsGA := fun w h => twGA_771 w (List.mem_cons_of_mem (Cond.selects RX8 yX8_wipe yX8_wipe) h)
theorem mGA_772 : Cond.code yX8_wipe cX8_wipe 1 none ∈ wsGA := twGA_772 _ (List.mem_cons_self : Cond.code yX8_wipe cX8_wipe 1 none ∈ Cond.code yX8_wipe cX8_wipe 1 none :: wtGA_773)
theorem twGA_773 : ∀ w ∈ wtGA_773, w ∈ wsGA := fun w h => twGA_772 w (List.mem_cons_of_mem (Cond.code yX8_wipe cX8_wipe 1 none) h)
theorem mGA_773 : Cond.methodLink RX8 18 yJ7_fill_53178 ∈ wsGA := twGA_773 _ (List.mem_cons_self : Cond.methodLink RX8 18 yJ7_fill_53178 ∈ Cond.methodLink RX8 18 yJ7_fill_53178 :: wtGA_774)
theorem twGA_774 : ∀ w ∈ wtGA_774, w ∈ wsGA := fun w h => twGA_773 w (List.mem_cons_of_mem (Cond.methodLink RX8 18 yJ7_fill_53178) h)
theorem mGA_774 : Cond.methodLink RX11 334 yX8_charge ∈ wsGA := twGA_774 _ (List.mem_cons_self : Cond.methodLink RX11 334 yX8_charge ∈ Cond.methodLink RX11 334 yX8_charge :: wtGA_775)
theorem twGA_775 : ∀ w ∈ wtGA_775, w ∈ wsGA := fun w h => twGA_774 w (List.mem_cons_of_mem (Cond.methodLink RX11 334 yX8_charge) h)
theorem mGA_775 : Cond.instanceMethod yX8_charge ∈ wsGA := twGA_775 _ (List.mem_cons_self : Cond.instanceMethod yX8_charge ∈ Cond.instanceMethod yX8_charge :: wtGA_776)
theorem twGA_776 : ∀ w ∈ wtGA_776, w ∈ wsGA := fun w h => twGA_775 w (List.mem_cons_of_mem (Cond.instanceMethod yX8_charge) h)
theorem mGA_776 : Cond.selects RX8 yX8_charge yX8_charge ∈ wsGA := twGA_776 _ (List.mem_cons_self : Cond.selects RX8 yX8_charge yX8_charge ∈ Cond.selects RX8 yX8_charge yX8_charge :: wtGA_777)
theorem twGA_777 : ∀ w ∈ wtGA_777, w ∈ wsGA := fun w h => twGA_776 w (List.mem_cons_of_mem (Cond.selects RX8 yX8_charge yX8_charge) h)
theorem mGA_777 : Cond.code yX8_charge cX8_charge 4 none ∈ wsGA := twGA_777 _ (List.mem_cons_self : Cond.code yX8_charge cX8_charge 4 none ∈ Cond.code yX8_charge cX8_charge 4 none :: wtGA_778)
theorem twGA_778 : ∀ w ∈ wtGA_778, w ∈ wsGA := fun w h => twGA_777 w (List.mem_cons_of_mem (Cond.code yX8_charge cX8_charge 4 none) h)
theorem mGA_778 : Cond.methodLink RX11 341 yX8_run ∈ wsGA := twGA_778 _ (List.mem_cons_self : Cond.methodLink RX11 341 yX8_run ∈ Cond.methodLink RX11 341 yX8_run :: wtGA_779)
theorem twGA_779 : ∀ w ∈ wtGA_779, w ∈ wsGA := fun w h => twGA_778 w (List.mem_cons_of_mem (Cond.methodLink RX11 341 yX8_run) h)
theorem mGA_779 : Cond.instanceMethod yX8_run ∈ wsGA := twGA_779 _ (List.mem_cons_self : Cond.instanceMethod yX8_run ∈ Cond.instanceMethod yX8_run :: wtGA_780)
theorem twGA_780 : ∀ w ∈ wtGA_780, w ∈ wsGA := fun w h => twGA_779 w (List.mem_cons_of_mem (Cond.instanceMethod yX8_run) h)
theorem mGA_780 : Cond.selects RX8 yX8_run yX8_run ∈ wsGA := twGA_780 _ (List.mem_cons_self : Cond.selects RX8 yX8_run yX8_run ∈ Cond.selects RX8 yX8_run yX8_run :: wtGA_781)
theorem twGA_781 : ∀ w ∈ wtGA_781, w ∈ wsGA := fun w h => twGA_780 w (List.mem_cons_of_mem (Cond.selects RX8 yX8_run yX8_run) h)
theorem mGA_781 : Cond.code yX8_run cX8_run 4 none ∈ wsGA := twGA_781 _ (List.mem_cons_self : Cond.code yX8_run cX8_run 4 none ∈ Cond.code yX8_run cX8_run 4 none :: wtGA_782)
theorem twGA_782 : ∀ w ∈ wtGA_782, w ∈ wsGA := fun w h => twGA_781 w (List.mem_cons_of_mem (Cond.code yX8_run cX8_run 4 none) h)
theorem mGA_782 : Cond.fieldLink RX8 28 "SightedMonths$Frame" "months" "I" ∈ wsGA := twGA_782 _ (List.mem_cons_self : Cond.fieldLink RX8 28 "SightedMonths$Frame" "months" "I" ∈ Cond.fieldLink RX8 28 "SightedMonths$Frame" "months" "I" :: wtGA_783)
theorem twGA_783 : ∀ w ∈ wtGA_783, w ∈ wsGA := fun w h => twGA_782 w (List.mem_cons_of_mem (Cond.fieldLink RX8 28 "SightedMonths$Frame" "months" "I") h)
theorem mGA_783 : Cond.fieldLink RX8 34 "SightedMonths$Search" "months" "I" ∈ wsGA := twGA_783 _ (List.mem_cons_self : Cond.fieldLink RX8 34 "SightedMonths$Search" "months" "I" ∈ Cond.fieldLink RX8 34 "SightedMonths$Search" "months" "I" :: wtGA_784)
theorem twGA_784 : ∀ w ∈ wtGA_784, w ∈ wsGA := fun w h => twGA_783 w (List.mem_cons_of_mem (Cond.fieldLink RX8 34 "SightedMonths$Search" "months" "I") h)
theorem mGA_784 : Cond.fieldLink RX8 35 "SightedMonths$Frame" "full" "I" ∈ wsGA := twGA_784 _ (List.mem_cons_self : Cond.fieldLink RX8 35 "SightedMonths$Frame" "full" "I" ∈ Cond.fieldLink RX8 35 "SightedMonths$Frame" "full" "I" :: wtGA_785)
theorem twGA_785 : ∀ w ∈ wtGA_785, w ∈ wsGA := fun w h => twGA_784 w (List.mem_cons_of_mem (Cond.fieldLink RX8 35 "SightedMonths$Frame" "full" "I") h)
theorem mGA_785 : Cond.fieldLink RX8 38 "SightedMonths$Search" "full" "I" ∈ wsGA := twGA_785 _ (List.mem_cons_self : Cond.fieldLink RX8 38 "SightedMonths$Search" "full" "I" ∈ Cond.fieldLink RX8 38 "SightedMonths$Search" "full" "I" :: wtGA_786)
theorem twGA_786 : ∀ w ∈ wtGA_786, w ∈ wsGA := fun w h => twGA_785 w (List.mem_cons_of_mem (Cond.fieldLink RX8 38 "SightedMonths$Search" "full" "I") h)
theorem mGA_786 : Cond.fieldLink RX8 39 "SightedMonths$Frame" "lean" "I" ∈ wsGA := twGA_786 _ (List.mem_cons_self : Cond.fieldLink RX8 39 "SightedMonths$Frame" "lean" "I" ∈ Cond.fieldLink RX8 39 "SightedMonths$Frame" "lean" "I" :: wtGA_787)
theorem twGA_787 : ∀ w ∈ wtGA_787, w ∈ wsGA := fun w h => twGA_786 w (List.mem_cons_of_mem (Cond.fieldLink RX8 39 "SightedMonths$Frame" "lean" "I") h)
theorem mGA_787 : Cond.fieldLink RX8 42 "SightedMonths$Search" "lean" "I" ∈ wsGA := twGA_787 _ (List.mem_cons_self : Cond.fieldLink RX8 42 "SightedMonths$Search" "lean" "I" ∈ Cond.fieldLink RX8 42 "SightedMonths$Search" "lean" "I" :: wtGA_788)
theorem twGA_788 : ∀ w ∈ wtGA_788, w ∈ wsGA := fun w h => twGA_787 w (List.mem_cons_of_mem (Cond.fieldLink RX8 42 "SightedMonths$Search" "lean" "I") h)
theorem mGA_788 : Cond.constant RX8 43 (1000000) ∈ wsGA := twGA_788 _ (List.mem_cons_self : Cond.constant RX8 43 (1000000) ∈ Cond.constant RX8 43 (1000000) :: wtGA_789)
theorem twGA_789 : ∀ w ∈ wtGA_789, w ∈ wsGA := fun w h => twGA_788 w (List.mem_cons_of_mem (Cond.constant RX8 43 (1000000)) h)
theorem mGA_789 : Cond.methodLink RX8 44 yX3_allows ∈ wsGA := twGA_789 _ (List.mem_cons_self : Cond.methodLink RX8 44 yX3_allows ∈ Cond.methodLink RX8 44 yX3_allows :: wtGA_790)
theorem twGA_790 : ∀ w ∈ wtGA_790, w ∈ wsGA := fun w h => twGA_789 w (List.mem_cons_of_mem (Cond.methodLink RX8 44 yX3_allows) h)
theorem mGA_790 : Cond.methodLink RX8 48 yX8_fillCell ∈ wsGA := twGA_790 _ (List.mem_cons_self : Cond.methodLink RX8 48 yX8_fillCell ∈ Cond.methodLink RX8 48 yX8_fillCell :: wtGA_791)
theorem twGA_791 : ∀ w ∈ wtGA_791, w ∈ wsGA := fun w h => twGA_790 w (List.mem_cons_of_mem (Cond.methodLink RX8 48 yX8_fillCell) h)
theorem mGA_791 : Cond.instanceMethod yX8_fillCell ∈ wsGA := twGA_791 _ (List.mem_cons_self : Cond.instanceMethod yX8_fillCell ∈ Cond.instanceMethod yX8_fillCell :: wtGA_792)
theorem twGA_792 : ∀ w ∈ wtGA_792, w ∈ wsGA := fun w h => twGA_791 w (List.mem_cons_of_mem (Cond.instanceMethod yX8_fillCell) h)
theorem mGA_792 : Cond.selects RX8 yX8_fillCell yX8_fillCell ∈ wsGA := twGA_792 _ (List.mem_cons_self : Cond.selects RX8 yX8_fillCell yX8_fillCell ∈ Cond.selects RX8 yX8_fillCell yX8_fillCell :: wtGA_793)
theorem twGA_793 : ∀ w ∈ wtGA_793, w ∈ wsGA := fun w h => twGA_792 w (List.mem_cons_of_mem (Cond.selects RX8 yX8_fillCell yX8_fillCell) h)
theorem mGA_793 : Cond.code yX8_fillCell cX8_fillCell 5 none ∈ wsGA := twGA_793 _ (List.mem_cons_self : Cond.code yX8_fillCell cX8_fillCell 5 none ∈ Cond.code yX8_fillCell cX8_fillCell 5 none :: wtGA_794)
theorem twGA_794 : ∀ w ∈ wtGA_794, w ∈ wsGA := fun w h => twGA_793 w (List.mem_cons_of_mem (Cond.code yX8_fillCell cX8_fillCell 5 none) h)
theorem mGA_794 : Cond.methodLink RX8 66 Lib.Math.min.name ∈ wsGA := twGA_794 _ (List.mem_cons_self : Cond.methodLink RX8 66 Lib.Math.min.name ∈ Cond.methodLink RX8 66 Lib.Math.min.name :: wtGA_795)
theorem twGA_795 : ∀ w ∈ wtGA_795, w ∈ wsGA := fun w h => twGA_794 w (List.mem_cons_of_mem (Cond.methodLink RX8 66 Lib.Math.min.name) h)
theorem mGA_795 : Cond.methodLink RX8 60 yX8_withFull ∈ wsGA := twGA_795 _ (List.mem_cons_self : Cond.methodLink RX8 60 yX8_withFull ∈ Cond.methodLink RX8 60 yX8_withFull :: wtGA_796)
theorem twGA_796 : ∀ w ∈ wtGA_796, w ∈ wsGA := fun w h => twGA_795 w (List.mem_cons_of_mem (Cond.methodLink RX8 60 yX8_withFull) h)
theorem mGA_796 : Cond.instanceMethod yX8_withFull ∈ wsGA := twGA_796 _ (List.mem_cons_self : Cond.instanceMethod yX8_withFull ∈ Cond.instanceMethod yX8_withFull :: wtGA_797)
theorem twGA_797 : ∀ w ∈ wtGA_797, w ∈ wsGA := fun w h => twGA_796 w (List.mem_cons_of_mem (Cond.instanceMethod yX8_withFull) h)
theorem mGA_797 : Cond.selects RX8 yX8_withFull yX8_withFull ∈ wsGA := twGA_797 _ (List.mem_cons_self : Cond.selects RX8 yX8_withFull yX8_withFull ∈ Cond.selects RX8 yX8_withFull yX8_withFull :: wtGA_798)
theorem twGA_798 : ∀ w ∈ wtGA_798, w ∈ wsGA := fun w h => twGA_797 w (List.mem_cons_of_mem (Cond.selects RX8 yX8_withFull yX8_withFull) h)
theorem mGA_798 : Cond.code yX8_withFull cX8_withFull 4 (some .int) ∈ wsGA := twGA_798 _ (List.mem_cons_self : Cond.code yX8_withFull cX8_withFull 4 (some .int) ∈ Cond.code yX8_withFull cX8_withFull 4 (some .int) :: wtGA_799)
theorem twGA_799 : ∀ w ∈ wtGA_799, w ∈ wsGA := fun w h => twGA_798 w (List.mem_cons_of_mem (Cond.code yX8_withFull cX8_withFull 4 (some .int)) h)
theorem mGA_799 : Cond.methodLink RX8 63 yX8_withLean ∈ wsGA := twGA_799 _ (List.mem_cons_self : Cond.methodLink RX8 63 yX8_withLean ∈ Cond.methodLink RX8 63 yX8_withLean :: wtGA_800)
theorem twGA_800 : ∀ w ∈ wtGA_800, w ∈ wsGA := fun w h => twGA_799 w (List.mem_cons_of_mem (Cond.methodLink RX8 63 yX8_withLean) h)
theorem mGA_800 : Cond.instanceMethod yX8_withLean ∈ wsGA := twGA_800 _ (List.mem_cons_self : Cond.instanceMethod yX8_withLean ∈ Cond.instanceMethod yX8_withLean :: wtGA_801)
theorem twGA_801 : ∀ w ∈ wtGA_801, w ∈ wsGA := fun w h => twGA_800 w (List.mem_cons_of_mem (Cond.instanceMethod yX8_withLean) h)
theorem mGA_801 : Cond.selects RX8 yX8_withLean yX8_withLean ∈ wsGA := twGA_801 _ (List.mem_cons_self : Cond.selects RX8 yX8_withLean yX8_withLean ∈ Cond.selects RX8 yX8_withLean yX8_withLean :: wtGA_802)
theorem twGA_802 : ∀ w ∈ wtGA_802, w ∈ wsGA := fun w h => twGA_801 w (List.mem_cons_of_mem (Cond.selects RX8 yX8_withLean yX8_withLean) h)
theorem mGA_802 : Cond.code yX8_withLean cX8_withLean 4 (some .int) ∈ wsGA := twGA_802 _ (List.mem_cons_self : Cond.code yX8_withLean cX8_withLean 4 (some .int) ∈ Cond.code yX8_withLean cX8_withLean 4 (some .int) :: wtGA_803)
theorem twGA_803 : ∀ w ∈ wtGA_803, w ∈ wsGA := fun w h => twGA_802 w (List.mem_cons_of_mem (Cond.code yX8_withLean cX8_withLean 4 (some .int)) h)
theorem mGA_803 : Cond.methodLink RX11 345 yX8_least ∈ wsGA := twGA_803 _ (List.mem_cons_self : Cond.methodLink RX11 345 yX8_least ∈ Cond.methodLink RX11 345 yX8_least :: wtGA_804)
theorem twGA_804 : ∀ w ∈ wtGA_804, w ∈ wsGA := fun w h => twGA_803 w (List.mem_cons_of_mem (Cond.methodLink RX11 345 yX8_least) h)
theorem mGA_804 : Cond.instanceMethod yX8_least ∈ wsGA := twGA_804 _ (List.mem_cons_self : Cond.instanceMethod yX8_least ∈ Cond.instanceMethod yX8_least :: wtGA_805)
theorem twGA_805 : ∀ w ∈ wtGA_805, w ∈ wsGA := fun w h => twGA_804 w (List.mem_cons_of_mem (Cond.instanceMethod yX8_least) h)
theorem mGA_805 : Cond.selects RX8 yX8_least yX8_least ∈ wsGA := twGA_805 _ (List.mem_cons_self : Cond.selects RX8 yX8_least yX8_least ∈ Cond.selects RX8 yX8_least yX8_least :: wtGA_806)
theorem twGA_806 : ∀ w ∈ wtGA_806, w ∈ wsGA := fun w h => twGA_805 w (List.mem_cons_of_mem (Cond.selects RX8 yX8_least yX8_least) h)
theorem mGA_806 : Cond.code yX8_least cX8_least 1 (some .int) ∈ wsGA := twGA_806 _ (List.mem_cons_self : Cond.code yX8_least cX8_least 1 (some .int) ∈ Cond.code yX8_least cX8_least 1 (some .int) :: wtGA_807)
theorem twGA_807 : ∀ w ∈ wtGA_807, w ∈ wsGA := fun w h => twGA_806 w (List.mem_cons_of_mem (Cond.code yX8_least cX8_least 1 (some .int)) h)
theorem mGA_807 : Cond.instanceMethod yX11_own ∈ wsGA := twGA_807 _ (List.mem_cons_self : Cond.instanceMethod yX11_own ∈ Cond.instanceMethod yX11_own :: wtGA_808)
theorem twGA_808 : ∀ w ∈ wtGA_808, w ∈ wsGA := fun w h => twGA_807 w (List.mem_cons_of_mem (Cond.instanceMethod yX11_own) h)
theorem mGA_808 : Cond.selects RX11 yX11_own yX11_own ∈ wsGA := twGA_808 _ (List.mem_cons_self : Cond.selects RX11 yX11_own yX11_own ∈ Cond.selects RX11 yX11_own yX11_own :: wtGA_809)
theorem twGA_809 : ∀ w ∈ wtGA_809, w ∈ wsGA := fun w h => twGA_808 w (List.mem_cons_of_mem (Cond.selects RX11 yX11_own yX11_own) h)
theorem mGA_809 : Cond.code yX11_own cX11_own 4 (some .int) ∈ wsGA := twGA_809 _ (List.mem_cons_self : Cond.code yX11_own cX11_own 4 (some .int) ∈ Cond.code yX11_own cX11_own 4 (some .int) :: wtGA_810)
theorem twGA_810 : ∀ w ∈ wtGA_810, w ∈ wsGA := fun w h => twGA_809 w (List.mem_cons_of_mem (Cond.code yX11_own cX11_own 4 (some .int)) h)
theorem mGA_810 : Cond.methodLink RX11 265 yX11_judgeAlone ∈ wsGA := twGA_810 _ (List.mem_cons_self : Cond.methodLink RX11 265 yX11_judgeAlone ∈ Cond.methodLink RX11 265 yX11_judgeAlone :: wtGA_811)
theorem twGA_811 : ∀ w ∈ wtGA_811, w ∈ wsGA := fun w h => twGA_810 w (List.mem_cons_of_mem (Cond.methodLink RX11 265 yX11_judgeAlone) h)
theorem mGA_811 : Cond.instanceMethod yX11_judgeAlone ∈ wsGA := twGA_811 _ (List.mem_cons_self : Cond.instanceMethod yX11_judgeAlone ∈ Cond.instanceMethod yX11_judgeAlone :: wtGA_812)
theorem twGA_812 : ∀ w ∈ wtGA_812, w ∈ wsGA := fun w h => twGA_811 w (List.mem_cons_of_mem (Cond.instanceMethod yX11_judgeAlone) h)
theorem mGA_812 : Cond.selects RX11 yX11_judgeAlone yX11_judgeAlone ∈ wsGA := twGA_812 _ (List.mem_cons_self : Cond.selects RX11 yX11_judgeAlone yX11_judgeAlone ∈ Cond.selects RX11 yX11_judgeAlone yX11_judgeAlone :: wtGA_813)
theorem twGA_813 : ∀ w ∈ wtGA_813, w ∈ wsGA := fun w h => twGA_812 w (List.mem_cons_of_mem (Cond.selects RX11 yX11_judgeAlone yX11_judgeAlone) h)
theorem mGA_813 : Cond.code yX11_judgeAlone cX11_judgeAlone 3 none ∈ wsGA := twGA_813 _ (List.mem_cons_self : Cond.code yX11_judgeAlone cX11_judgeAlone 3 none ∈ Cond.code yX11_judgeAlone cX11_judgeAlone 3 none :: wtGA_814)
theorem twGA_814 : ∀ w ∈ wtGA_814, w ∈ wsGA := fun w h => twGA_813 w (List.mem_cons_of_mem (Cond.code yX11_judgeAlone cX11_judgeAlone 3 none) h)
theorem mGA_814 : Cond.methodLink RX11 250 yX0_copyFrom ∈ wsGA := twGA_814 _ (List.mem_cons_self : Cond.methodLink RX11 250 yX0_copyFrom ∈ Cond.methodLink RX11 250 yX0_copyFrom :: wtGA_815)
theorem twGA_815 : ∀ w ∈ wtGA_815, w ∈ wsGA := fun w h => twGA_814 w (List.mem_cons_of_mem (Cond.methodLink RX11 250 yX0_copyFrom) h)
theorem mGA_815 : Cond.instanceMethod yX0_copyFrom ∈ wsGA := twGA_815 _ (List.mem_cons_self : Cond.instanceMethod yX0_copyFrom ∈ Cond.instanceMethod yX0_copyFrom :: wtGA_816)
theorem twGA_816 : ∀ w ∈ wtGA_816, w ∈ wsGA := fun w h => twGA_815 w (List.mem_cons_of_mem (Cond.instanceMethod yX0_copyFrom) h)
theorem mGA_816 : Cond.selects RX0 yX0_copyFrom yX0_copyFrom ∈ wsGA := twGA_816 _ (List.mem_cons_self : Cond.selects RX0 yX0_copyFrom yX0_copyFrom ∈ Cond.selects RX0 yX0_copyFrom yX0_copyFrom :: wtGA_817)
theorem twGA_817 : ∀ w ∈ wtGA_817, w ∈ wsGA := fun w h => twGA_816 w (List.mem_cons_of_mem (Cond.selects RX0 yX0_copyFrom yX0_copyFrom) h)
theorem mGA_817 : Cond.code yX0_copyFrom cX0_copyFrom 4 none ∈ wsGA := twGA_817 _ (List.mem_cons_self : Cond.code yX0_copyFrom cX0_copyFrom 4 none ∈ Cond.code yX0_copyFrom cX0_copyFrom 4 none :: wtGA_818)
theorem twGA_818 : ∀ w ∈ wtGA_818, w ∈ wsGA := fun w h => twGA_817 w (List.mem_cons_of_mem (Cond.code yX0_copyFrom cX0_copyFrom 4 none) h)
theorem mGA_818 : Cond.methodLink RX0 64 yX0_wipe ∈ wsGA := twGA_818 _ (List.mem_cons_self : Cond.methodLink RX0 64 yX0_wipe ∈ Cond.methodLink RX0 64 yX0_wipe :: wtGA_819)
theorem twGA_819 : ∀ w ∈ wtGA_819, w ∈ wsGA := fun w h => twGA_818 w (List.mem_cons_of_mem (Cond.methodLink RX0 64 yX0_wipe) h)
theorem mGA_819 : Cond.methodLink RX0 73 yX0_addPlace ∈ wsGA := twGA_819 _ (List.mem_cons_self : Cond.methodLink RX0 73 yX0_addPlace ∈ Cond.methodLink RX0 73 yX0_addPlace :: wtGA_820)
theorem twGA_820 : ∀ w ∈ wtGA_820, w ∈ wsGA := fun w h => twGA_819 w (List.mem_cons_of_mem (Cond.methodLink RX0 73 yX0_addPlace) h)
theorem mGA_820 : Cond.methodLink RX0 92 yX0_addReport ∈ wsGA := twGA_820 _ (List.mem_cons_self : Cond.methodLink RX0 92 yX0_addReport ∈ Cond.methodLink RX0 92 yX0_addReport :: wtGA_821)
theorem twGA_821 : ∀ w ∈ wtGA_821, w ∈ wsGA := fun w h => twGA_820 w (List.mem_cons_of_mem (Cond.methodLink RX0 92 yX0_addReport) h)
theorem mGA_821 : Cond.methodLink RX11 418 yX0_strikeAllBut ∈ wsGA := twGA_821 _ (List.mem_cons_self : Cond.methodLink RX11 418 yX0_strikeAllBut ∈ Cond.methodLink RX11 418 yX0_strikeAllBut :: wtGA_822)
theorem twGA_822 : ∀ w ∈ wtGA_822, w ∈ wsGA := fun w h => twGA_821 w (List.mem_cons_of_mem (Cond.methodLink RX11 418 yX0_strikeAllBut) h)
theorem mGA_822 : Cond.instanceMethod yX0_strikeAllBut ∈ wsGA := twGA_822 _ (List.mem_cons_self : Cond.instanceMethod yX0_strikeAllBut ∈ Cond.instanceMethod yX0_strikeAllBut :: wtGA_823)
theorem twGA_823 : ∀ w ∈ wtGA_823, w ∈ wsGA := fun w h => twGA_822 w (List.mem_cons_of_mem (Cond.instanceMethod yX0_strikeAllBut) h)
theorem mGA_823 : Cond.selects RX0 yX0_strikeAllBut yX0_strikeAllBut ∈ wsGA := twGA_823 _ (List.mem_cons_self : Cond.selects RX0 yX0_strikeAllBut yX0_strikeAllBut ∈ Cond.selects RX0 yX0_strikeAllBut yX0_strikeAllBut :: wtGA_824)
theorem twGA_824 : ∀ w ∈ wtGA_824, w ∈ wsGA := fun w h => twGA_823 w (List.mem_cons_of_mem (Cond.selects RX0 yX0_strikeAllBut yX0_strikeAllBut) h)
theorem mGA_824 : Cond.code yX0_strikeAllBut cX0_strikeAllBut 3 none ∈ wsGA := twGA_824 _ (List.mem_cons_self : Cond.code yX0_strikeAllBut cX0_strikeAllBut 3 none ∈ Cond.code yX0_strikeAllBut cX0_strikeAllBut 3 none :: wtGA_825)
theorem twGA_825 : ∀ w ∈ wtGA_825, w ∈ wsGA := fun w h => twGA_824 w (List.mem_cons_of_mem (Cond.code yX0_strikeAllBut cX0_strikeAllBut 3 none) h)
theorem mGA_825 : Cond.instanceMethod yX11_apart ∈ wsGA := twGA_825 _ (List.mem_cons_self : Cond.instanceMethod yX11_apart ∈ Cond.instanceMethod yX11_apart :: wtGA_826)
theorem twGA_826 : ∀ w ∈ wtGA_826, w ∈ wsGA := fun w h => twGA_825 w (List.mem_cons_of_mem (Cond.instanceMethod yX11_apart) h)
theorem mGA_826 : Cond.selects RX11 yX11_apart yX11_apart ∈ wsGA := twGA_826 _ (List.mem_cons_self : Cond.selects RX11 yX11_apart yX11_apart ∈ Cond.selects RX11 yX11_apart yX11_apart :: wtGA_827)
theorem twGA_827 : ∀ w ∈ wtGA_827, w ∈ wsGA := fun w h => twGA_826 w (List.mem_cons_of_mem (Cond.selects RX11 yX11_apart yX11_apart) h)
theorem mGA_827 : Cond.code yX11_apart cX11_apart 4 (some .int) ∈ wsGA := twGA_827 _ (List.mem_cons_self : Cond.code yX11_apart cX11_apart 4 (some .int) ∈ Cond.code yX11_apart cX11_apart 4 (some .int) :: wtGA_828)
theorem twGA_828 : ∀ w ∈ wtGA_828, w ∈ wsGA := fun w h => twGA_827 w (List.mem_cons_of_mem (Cond.code yX11_apart cX11_apart 4 (some .int)) h)
theorem mGA_828 : Cond.methodLink RX11 269 arraycopyName ∈ wsGA := twGA_828 _ (List.mem_cons_self : Cond.methodLink RX11 269 arraycopyName ∈ Cond.methodLink RX11 269 arraycopyName :: wtGA_829)
theorem twGA_829 : ∀ w ∈ wtGA_829, w ∈ wsGA := fun w h => twGA_828 w (List.mem_cons_of_mem (Cond.methodLink RX11 269 arraycopyName) h)
theorem mGA_829 : Cond.methodLink RX11 261 yX11_unlikeBegins ∈ wsGA := twGA_829 _ (List.mem_cons_self : Cond.methodLink RX11 261 yX11_unlikeBegins ∈ Cond.methodLink RX11 261 yX11_unlikeBegins :: wtGA_830)
theorem twGA_830 : ∀ w ∈ wtGA_830, w ∈ wsGA := fun w h => twGA_829 w (List.mem_cons_of_mem (Cond.methodLink RX11 261 yX11_unlikeBegins) h)
theorem mGA_830 : Cond.instanceMethod yX11_unlikeBegins ∈ wsGA := twGA_830 _ (List.mem_cons_self : Cond.instanceMethod yX11_unlikeBegins ∈ Cond.instanceMethod yX11_unlikeBegins :: wtGA_831)
theorem twGA_831 : ∀ w ∈ wtGA_831, w ∈ wsGA := fun w h => twGA_830 w (List.mem_cons_of_mem (Cond.instanceMethod yX11_unlikeBegins) h)
theorem mGA_831 : Cond.selects RX11 yX11_unlikeBegins yX11_unlikeBegins ∈ wsGA := twGA_831 _ (List.mem_cons_self : Cond.selects RX11 yX11_unlikeBegins yX11_unlikeBegins ∈ Cond.selects RX11 yX11_unlikeBegins yX11_unlikeBegins :: wtGA_832)
theorem twGA_832 : ∀ w ∈ wtGA_832, w ∈ wsGA := fun w h => twGA_831 w (List.mem_cons_of_mem (Cond.selects RX11 yX11_unlikeBegins yX11_unlikeBegins) h)
theorem mGA_832 : Cond.code yX11_unlikeBegins cX11_unlikeBegins 5 (some .int) ∈ wsGA := twGA_832 _ (List.mem_cons_self : Cond.code yX11_unlikeBegins cX11_unlikeBegins 5 (some .int) ∈ Cond.code yX11_unlikeBegins cX11_unlikeBegins 5 (some .int) :: wtGA_833)
theorem twGA_833 : ∀ w ∈ wtGA_833, w ∈ wsGA := fun w h => twGA_832 w (List.mem_cons_of_mem (Cond.code yX11_unlikeBegins cX11_unlikeBegins 5 (some .int)) h)
theorem mGA_833 : Cond.instanceMethod yX11_hang ∈ wsGA := twGA_833 _ (List.mem_cons_self : Cond.instanceMethod yX11_hang ∈ Cond.instanceMethod yX11_hang :: wtGA_834)
theorem twGA_834 : ∀ w ∈ wtGA_834, w ∈ wsGA := fun w h => twGA_833 w (List.mem_cons_of_mem (Cond.instanceMethod yX11_hang) h)
theorem mGA_834 : Cond.selects RX11 yX11_hang yX11_hang ∈ wsGA := twGA_834 _ (List.mem_cons_self : Cond.selects RX11 yX11_hang yX11_hang ∈ Cond.selects RX11 yX11_hang yX11_hang :: wtGA_835)
theorem twGA_835 : ∀ w ∈ wtGA_835, w ∈ wsGA := fun w h => twGA_834 w (List.mem_cons_of_mem (Cond.selects RX11 yX11_hang yX11_hang) h)
theorem mGA_835 : Cond.code yX11_hang cX11_hang 3 (some .int) ∈ wsGA := twGA_835 _ (List.mem_cons_self : Cond.code yX11_hang cX11_hang 3 (some .int) ∈ Cond.code yX11_hang cX11_hang 3 (some .int) :: wtGA_836)
theorem twGA_836 : ∀ w ∈ wtGA_836, w ∈ wsGA := fun w h => twGA_835 w (List.mem_cons_of_mem (Cond.code yX11_hang cX11_hang 3 (some .int)) h)
theorem mGA_836 : Cond.instanceMethod yX11_telling ∈ wsGA := twGA_836 _ (List.mem_cons_self : Cond.instanceMethod yX11_telling ∈ Cond.instanceMethod yX11_telling :: wtGA_837)
theorem twGA_837 : ∀ w ∈ wtGA_837, w ∈ wsGA := fun w h => twGA_836 w (List.mem_cons_of_mem (Cond.instanceMethod yX11_telling) h)
theorem mGA_837 : Cond.selects RX11 yX11_telling yX11_telling ∈ wsGA := twGA_837 _ (List.mem_cons_self : Cond.selects RX11 yX11_telling yX11_telling ∈ Cond.selects RX11 yX11_telling yX11_telling :: wtGA_838)
theorem twGA_838 : ∀ w ∈ wtGA_838, w ∈ wsGA := fun w h => twGA_837 w (List.mem_cons_of_mem (Cond.selects RX11 yX11_telling yX11_telling) h)
theorem mGA_838 : Cond.code yX11_telling cX11_telling 5 (some .int) ∈ wsGA := twGA_838 _ (List.mem_cons_self : Cond.code yX11_telling cX11_telling 5 (some .int) ∈ Cond.code yX11_telling cX11_telling 5 (some .int) :: wtGA_839)
theorem twGA_839 : ∀ w ∈ wtGA_839, w ∈ wsGA := fun w h => twGA_838 w (List.mem_cons_of_mem (Cond.code yX11_telling cX11_telling 5 (some .int)) h)
theorem mGA_839 : Cond.methodLink RX11 311 yX9_mostLeft ∈ wsGA := twGA_839 _ (List.mem_cons_self : Cond.methodLink RX11 311 yX9_mostLeft ∈ Cond.methodLink RX11 311 yX9_mostLeft :: wtGA_840)
theorem twGA_840 : ∀ w ∈ wtGA_840, w ∈ wsGA := fun w h => twGA_839 w (List.mem_cons_of_mem (Cond.methodLink RX11 311 yX9_mostLeft) h)
theorem mGA_840 : Cond.instanceMethod yX9_mostLeft ∈ wsGA := twGA_840 _ (List.mem_cons_self : Cond.instanceMethod yX9_mostLeft ∈ Cond.instanceMethod yX9_mostLeft :: wtGA_841)
theorem twGA_841 : ∀ w ∈ wtGA_841, w ∈ wsGA := fun w h => twGA_840 w (List.mem_cons_of_mem (Cond.instanceMethod yX9_mostLeft) h)
theorem mGA_841 : Cond.selects RX9 yX9_mostLeft yX9_mostLeft ∈ wsGA := twGA_841 _ (List.mem_cons_self : Cond.selects RX9 yX9_mostLeft yX9_mostLeft ∈ Cond.selects RX9 yX9_mostLeft yX9_mostLeft :: wtGA_842)
theorem twGA_842 : ∀ w ∈ wtGA_842, w ∈ wsGA := fun w h => twGA_841 w (List.mem_cons_of_mem (Cond.selects RX9 yX9_mostLeft yX9_mostLeft) h)
theorem mGA_842 : Cond.code yX9_mostLeft cX9_mostLeft 4 (some .int) ∈ wsGA := twGA_842 _ (List.mem_cons_self : Cond.code yX9_mostLeft cX9_mostLeft 4 (some .int) ∈ Cond.code yX9_mostLeft cX9_mostLeft 4 (some .int) :: wtGA_843)
theorem twGA_843 : ∀ w ∈ wtGA_843, w ∈ wsGA := fun w h => twGA_842 w (List.mem_cons_of_mem (Cond.code yX9_mostLeft cX9_mostLeft 4 (some .int)) h)
theorem mGA_843 : Cond.methodLink RX9 98 Lib.Math.max.name ∈ wsGA := twGA_843 _ (List.mem_cons_self : Cond.methodLink RX9 98 Lib.Math.max.name ∈ Cond.methodLink RX9 98 Lib.Math.max.name :: wtGA_844)
theorem twGA_844 : ∀ w ∈ wtGA_844, w ∈ wsGA := fun w h => twGA_843 w (List.mem_cons_of_mem (Cond.methodLink RX9 98 Lib.Math.max.name) h)
theorem mGA_844 : Cond.instanceMethod yX11_trusted ∈ wsGA := twGA_844 _ (List.mem_cons_self : Cond.instanceMethod yX11_trusted ∈ Cond.instanceMethod yX11_trusted :: wtGA_845)
theorem twGA_845 : ∀ w ∈ wtGA_845, w ∈ wsGA := fun w h => twGA_844 w (List.mem_cons_of_mem (Cond.instanceMethod yX11_trusted) h)
theorem mGA_845 : Cond.selects RX11 yX11_trusted yX11_trusted ∈ wsGA := twGA_845 _ (List.mem_cons_self : Cond.selects RX11 yX11_trusted yX11_trusted ∈ Cond.selects RX11 yX11_trusted yX11_trusted :: wtGA_846)
theorem twGA_846 : ∀ w ∈ wtGA_846, w ∈ wsGA := fun w h => twGA_845 w (List.mem_cons_of_mem (Cond.selects RX11 yX11_trusted yX11_trusted) h)
theorem mGA_846 : Cond.code yX11_trusted cX11_trusted 5 (some .int) ∈ wsGA := twGA_846 _ (List.mem_cons_self : Cond.code yX11_trusted cX11_trusted 5 (some .int) ∈ Cond.code yX11_trusted cX11_trusted 5 (some .int) :: wtGA_847)
theorem twGA_847 : ∀ w ∈ wtGA_847, w ∈ wsGA := fun w h => twGA_846 w (List.mem_cons_of_mem (Cond.code yX11_trusted cX11_trusted 5 (some .int)) h)
theorem mGA_847 : Cond.instanceMethod yX11_days ∈ wsGA := twGA_847 _ (List.mem_cons_self : Cond.instanceMethod yX11_days ∈ Cond.instanceMethod yX11_days :: wtGA_848)
theorem twGA_848 : ∀ w ∈ wtGA_848, w ∈ wsGA := fun w h => twGA_847 w (List.mem_cons_of_mem (Cond.instanceMethod yX11_days) h)
theorem mGA_848 : Cond.selects RX11 yX11_days yX11_days ∈ wsGA := twGA_848 _ (List.mem_cons_self : Cond.selects RX11 yX11_days yX11_days ∈ Cond.selects RX11 yX11_days yX11_days :: wtGA_849)
theorem twGA_849 : ∀ w ∈ wtGA_849, w ∈ wsGA := fun w h => twGA_848 w (List.mem_cons_of_mem (Cond.selects RX11 yX11_days yX11_days) h)
theorem mGA_849 : Cond.code yX11_days cX11_days 5 (some .int) ∈ wsGA := twGA_849 _ (List.mem_cons_self : Cond.code yX11_days cX11_days 5 (some .int) ∈ Cond.code yX11_days cX11_days 5 (some .int) :: wtGA_850)
theorem twGA_850 : ∀ w ∈ wtGA_850, w ∈ wsGA := fun w h => twGA_849 w (List.mem_cons_of_mem (Cond.code yX11_days cX11_days 5 (some .int)) h)
theorem mGA_850 : Cond.instanceMethod yX11_weekday ∈ wsGA := twGA_850 _ (List.mem_cons_self : Cond.instanceMethod yX11_weekday ∈ Cond.instanceMethod yX11_weekday :: wtGA_851)
theorem twGA_851 : ∀ w ∈ wtGA_851, w ∈ wsGA := fun w h => twGA_850 w (List.mem_cons_of_mem (Cond.instanceMethod yX11_weekday) h)
theorem mGA_851 : Cond.selects RX11 yX11_weekday yX11_weekday ∈ wsGA := twGA_851 _ (List.mem_cons_self : Cond.selects RX11 yX11_weekday yX11_weekday ∈ Cond.selects RX11 yX11_weekday yX11_weekday :: wtGA_852)
theorem twGA_852 : ∀ w ∈ wtGA_852, w ∈ wsGA := fun w h => twGA_851 w (List.mem_cons_of_mem (Cond.selects RX11 yX11_weekday yX11_weekday) h)
theorem mGA_852 : Cond.code yX11_weekday cX11_weekday 5 (some .int) ∈ wsGA := twGA_852 _ (List.mem_cons_self : Cond.code yX11_weekday cX11_weekday 5 (some .int) ∈ Cond.code yX11_weekday cX11_weekday 5 (some .int) :: wtGA_853)
theorem twGA_853 : ∀ w ∈ wtGA_853, w ∈ wsGA := fun w h => twGA_852 w (List.mem_cons_of_mem (Cond.code yX11_weekday cX11_weekday 5 (some .int)) h)
theorem mGA_853 : Cond.methodLink RX11 323 yX9_onWeekday ∈ wsGA := twGA_853 _ (List.mem_cons_self : Cond.methodLink RX11 323 yX9_onWeekday ∈ Cond.methodLink RX11 323 yX9_onWeekday :: wtGA_854)
theorem twGA_854 : ∀ w ∈ wtGA_854, w ∈ wsGA := fun w h => twGA_853 w (List.mem_cons_of_mem (Cond.methodLink RX11 323 yX9_onWeekday) h)
theorem mGA_854 : Cond.instanceMethod yX9_onWeekday ∈ wsGA := twGA_854 _ (List.mem_cons_self : Cond.instanceMethod yX9_onWeekday ∈ Cond.instanceMethod yX9_onWeekday :: wtGA_855)
theorem twGA_855 : ∀ w ∈ wtGA_855, w ∈ wsGA := fun w h => twGA_854 w (List.mem_cons_of_mem (Cond.instanceMethod yX9_onWeekday) h)
theorem mGA_855 : Cond.selects RX9 yX9_onWeekday yX9_onWeekday ∈ wsGA := twGA_855 _ (List.mem_cons_self : Cond.selects RX9 yX9_onWeekday yX9_onWeekday ∈ Cond.selects RX9 yX9_onWeekday yX9_onWeekday :: wtGA_856)
theorem twGA_856 : ∀ w ∈ wtGA_856, w ∈ wsGA := fun w h => twGA_855 w (List.mem_cons_of_mem (Cond.selects RX9 yX9_onWeekday yX9_onWeekday) h)
theorem mGA_856 : Cond.code yX9_onWeekday cX9_onWeekday 6 (some .int) ∈ wsGA := twGA_856 _ (List.mem_cons_self : Cond.code yX9_onWeekday cX9_onWeekday 6 (some .int) ∈ Cond.code yX9_onWeekday cX9_onWeekday 6 (some .int) :: wtGA_857)
theorem twGA_857 : ∀ w ∈ wtGA_857, w ∈ wsGA := fun w h => twGA_856 w (List.mem_cons_of_mem (Cond.code yX9_onWeekday cX9_onWeekday 6 (some .int)) h)
theorem mGA_857 : Cond.instanceMethod yX11_later ∈ wsGA := twGA_857 _ (List.mem_cons_self : Cond.instanceMethod yX11_later ∈ Cond.instanceMethod yX11_later :: wtGA_858)
theorem twGA_858 : ∀ w ∈ wtGA_858, w ∈ wsGA := fun w h => twGA_857 w (List.mem_cons_of_mem (Cond.instanceMethod yX11_later) h)
theorem mGA_858 : Cond.selects RX11 yX11_later yX11_later ∈ wsGA := twGA_858 _ (List.mem_cons_self : Cond.selects RX11 yX11_later yX11_later ∈ Cond.selects RX11 yX11_later yX11_later :: wtGA_859)
theorem twGA_859 : ∀ w ∈ wtGA_859, w ∈ wsGA := fun w h => twGA_858 w (List.mem_cons_of_mem (Cond.selects RX11 yX11_later yX11_later) h)
theorem mGA_859 : Cond.code yX11_later cX11_later 2 (some .int) ∈ wsGA := twGA_859 _ (List.mem_cons_self : Cond.code yX11_later cX11_later 2 (some .int) ∈ Cond.code yX11_later cX11_later 2 (some .int) :: wtGA_860)
theorem twGA_860 : ∀ w ∈ wtGA_860, w ∈ wsGA := fun w h => twGA_859 w (List.mem_cons_of_mem (Cond.code yX11_later cX11_later 2 (some .int)) h)
theorem mGA_860 : Cond.methodLink RX11 247 yX0_knownBits ∈ wsGA := twGA_860 _ (List.mem_cons_self : Cond.methodLink RX11 247 yX0_knownBits ∈ Cond.methodLink RX11 247 yX0_knownBits :: wtGA_861)
theorem twGA_861 : ∀ w ∈ wtGA_861, w ∈ wsGA := fun w h => twGA_860 w (List.mem_cons_of_mem (Cond.methodLink RX11 247 yX0_knownBits) h)
theorem mGA_861 : Cond.instanceMethod yX0_knownBits ∈ wsGA := twGA_861 _ (List.mem_cons_self : Cond.instanceMethod yX0_knownBits ∈ Cond.instanceMethod yX0_knownBits :: wtGA_862)
theorem twGA_862 : ∀ w ∈ wtGA_862, w ∈ wsGA := fun w h => twGA_861 w (List.mem_cons_of_mem (Cond.instanceMethod yX0_knownBits) h)
theorem mGA_862 : Cond.selects RX0 yX0_knownBits yX0_knownBits ∈ wsGA := twGA_862 _ (List.mem_cons_self : Cond.selects RX0 yX0_knownBits yX0_knownBits ∈ Cond.selects RX0 yX0_knownBits yX0_knownBits :: wtGA_863)
theorem twGA_863 : ∀ w ∈ wtGA_863, w ∈ wsGA := fun w h => twGA_862 w (List.mem_cons_of_mem (Cond.selects RX0 yX0_knownBits yX0_knownBits) h)
theorem mGA_863 : Cond.code yX0_knownBits cX0_knownBits 4 (some .int) ∈ wsGA := twGA_863 _ (List.mem_cons_self : Cond.code yX0_knownBits cX0_knownBits 4 (some .int) ∈ Cond.code yX0_knownBits cX0_knownBits 4 (some .int) :: wtGA_864)
theorem twGA_864 : ∀ w ∈ wtGA_864, w ∈ wsGA := fun w h => twGA_863 w (List.mem_cons_of_mem (Cond.code yX0_knownBits cX0_knownBits 4 (some .int)) h)
theorem mGA_864 : Cond.instanceMethod yX11_both ∈ wsGA := twGA_864 _ (List.mem_cons_self : Cond.instanceMethod yX11_both ∈ Cond.instanceMethod yX11_both :: wtGA_865)
theorem twGA_865 : ∀ w ∈ wtGA_865, w ∈ wsGA := fun w h => twGA_864 w (List.mem_cons_of_mem (Cond.instanceMethod yX11_both) h)
theorem mGA_865 : Cond.selects RX11 yX11_both yX11_both ∈ wsGA := twGA_865 _ (List.mem_cons_self : Cond.selects RX11 yX11_both yX11_both ∈ Cond.selects RX11 yX11_both yX11_both :: wtGA_866)
theorem twGA_866 : ∀ w ∈ wtGA_866, w ∈ wsGA := fun w h => twGA_865 w (List.mem_cons_of_mem (Cond.selects RX11 yX11_both yX11_both) h)
theorem mGA_866 : Cond.code yX11_both cX11_both 3 (some .int) ∈ wsGA := twGA_866 _ (List.mem_cons_self : Cond.code yX11_both cX11_both 3 (some .int) ∈ Cond.code yX11_both cX11_both 3 (some .int) :: wtGA_867)
theorem twGA_867 : ∀ w ∈ wtGA_867, w ∈ wsGA := fun w h => twGA_866 w (List.mem_cons_of_mem (Cond.code yX11_both cX11_both 3 (some .int)) h)
theorem mGA_867 : Cond.instanceMethod yX11_nearest ∈ wsGA := twGA_867 _ (List.mem_cons_self : Cond.instanceMethod yX11_nearest ∈ Cond.instanceMethod yX11_nearest :: wtGA_868)
theorem twGA_868 : ∀ w ∈ wtGA_868, w ∈ wsGA := fun w h => twGA_867 w (List.mem_cons_of_mem (Cond.instanceMethod yX11_nearest) h)
theorem mGA_868 : Cond.selects RX11 yX11_nearest yX11_nearest ∈ wsGA := twGA_868 _ (List.mem_cons_self : Cond.selects RX11 yX11_nearest yX11_nearest ∈ Cond.selects RX11 yX11_nearest yX11_nearest :: wtGA_869)
theorem twGA_869 : ∀ w ∈ wtGA_869, w ∈ wsGA := fun w h => twGA_868 w (List.mem_cons_of_mem (Cond.selects RX11 yX11_nearest yX11_nearest) h)
theorem mGA_869 : Cond.code yX11_nearest cX11_nearest 6 (some .int) ∈ wsGA := twGA_869 _ (List.mem_cons_self : Cond.code yX11_nearest cX11_nearest 6 (some .int) ∈ Cond.code yX11_nearest cX11_nearest 6 (some .int) :: wtGA_870)
theorem twGA_870 : ∀ w ∈ wtGA_870, w ∈ wsGA := fun w h => twGA_869 w (List.mem_cons_of_mem (Cond.code yX11_nearest cX11_nearest 6 (some .int)) h)
theorem mGA_870 : Cond.methodLink RX11 329 Lib.Math.abs.name ∈ wsGA := twGA_870 _ (List.mem_cons_self : Cond.methodLink RX11 329 Lib.Math.abs.name ∈ Cond.methodLink RX11 329 Lib.Math.abs.name :: wtGA_871)
theorem twGA_871 : ∀ w ∈ wtGA_871, w ∈ wsGA := fun w h => twGA_870 w (List.mem_cons_of_mem (Cond.methodLink RX11 329 Lib.Math.abs.name) h)
theorem mGA_871 : Cond.static Lib.Math.abs.name ∈ wsGA := twGA_871 _ (List.mem_cons_self : Cond.static Lib.Math.abs.name ∈ Cond.static Lib.Math.abs.name :: wtGA_872)
theorem twGA_872 : ∀ w ∈ wtGA_872, w ∈ wsGA := fun w h => twGA_871 w (List.mem_cons_of_mem (Cond.static Lib.Math.abs.name) h)
theorem mGA_872 : Cond.code Lib.Math.abs.name Lib.Math.abs.code 1 (some .int) ∈ wsGA := twGA_872 _ (List.mem_cons_self : Cond.code Lib.Math.abs.name Lib.Math.abs.code 1 (some .int) ∈ Cond.code Lib.Math.abs.name Lib.Math.abs.code 1 (some .int) :: wtGA_873)
theorem twGA_873 : ∀ w ∈ wtGA_873, w ∈ wsGA := fun w h => twGA_872 w (List.mem_cons_of_mem (Cond.code Lib.Math.abs.name Lib.Math.abs.code 1 (some .int)) h)
theorem mGA_873 : Cond.methodLink RX11 348 yX8_fullBits ∈ wsGA := twGA_873 _ (List.mem_cons_self : Cond.methodLink RX11 348 yX8_fullBits ∈ Cond.methodLink RX11 348 yX8_fullBits :: wtGA_874)
theorem twGA_874 : ∀ w ∈ wtGA_874, w ∈ wsGA := fun w h => twGA_873 w (List.mem_cons_of_mem (Cond.methodLink RX11 348 yX8_fullBits) h)
theorem mGA_874 : Cond.instanceMethod yX8_fullBits ∈ wsGA := twGA_874 _ (List.mem_cons_self : Cond.instanceMethod yX8_fullBits ∈ Cond.instanceMethod yX8_fullBits :: wtGA_875)
theorem twGA_875 : ∀ w ∈ wtGA_875, w ∈ wsGA := fun w h => twGA_874 w (List.mem_cons_of_mem (Cond.instanceMethod yX8_fullBits) h)
theorem mGA_875 : Cond.selects RX8 yX8_fullBits yX8_fullBits ∈ wsGA := twGA_875 _ (List.mem_cons_self : Cond.selects RX8 yX8_fullBits yX8_fullBits ∈ Cond.selects RX8 yX8_fullBits yX8_fullBits :: wtGA_876)
theorem twGA_876 : ∀ w ∈ wtGA_876, w ∈ wsGA := fun w h => twGA_875 w (List.mem_cons_of_mem (Cond.selects RX8 yX8_fullBits yX8_fullBits) h)
theorem mGA_876 : Cond.code yX8_fullBits cX8_fullBits 5 (some .int) ∈ wsGA := twGA_876 _ (List.mem_cons_self : Cond.code yX8_fullBits cX8_fullBits 5 (some .int) ∈ Cond.code yX8_fullBits cX8_fullBits 5 (some .int) :: wtGA_877)
theorem twGA_877 : ∀ w ∈ wtGA_877, w ∈ wsGA := fun w h => twGA_876 w (List.mem_cons_of_mem (Cond.code yX8_fullBits cX8_fullBits 5 (some .int)) h)
theorem mGA_877 : Cond.instanceMethod yX11_backed ∈ wsGA := twGA_877 _ (List.mem_cons_self : Cond.instanceMethod yX11_backed ∈ Cond.instanceMethod yX11_backed :: wtGA_878)
theorem twGA_878 : ∀ w ∈ wtGA_878, w ∈ wsGA := fun w h => twGA_877 w (List.mem_cons_of_mem (Cond.instanceMethod yX11_backed) h)
theorem mGA_878 : Cond.selects RX11 yX11_backed yX11_backed ∈ wsGA := twGA_878 _ (List.mem_cons_self : Cond.selects RX11 yX11_backed yX11_backed ∈ Cond.selects RX11 yX11_backed yX11_backed :: wtGA_879)
theorem twGA_879 : ∀ w ∈ wtGA_879, w ∈ wsGA := fun w h => twGA_878 w (List.mem_cons_of_mem (Cond.selects RX11 yX11_backed yX11_backed) h)
theorem mGA_879 : Cond.code yX11_backed cX11_backed 5 (some .int) ∈ wsGA := twGA_879 _ (List.mem_cons_self : Cond.code yX11_backed cX11_backed 5 (some .int) ∈ Cond.code yX11_backed cX11_backed 5 (some .int) :: wtGA_880)
theorem twGA_880 : ∀ w ∈ wtGA_880, w ∈ wsGA := fun w h => twGA_879 w (List.mem_cons_of_mem (Cond.code yX11_backed cX11_backed 5 (some .int)) h)
theorem mGA_880 : Cond.methodLink RX11 351 yX11_backReport ∈ wsGA := twGA_880 _ (List.mem_cons_self : Cond.methodLink RX11 351 yX11_backReport ∈ Cond.methodLink RX11 351 yX11_backReport :: wtGA_881)
theorem twGA_881 : ∀ w ∈ wtGA_881, w ∈ wsGA := fun w h => twGA_880 w (List.mem_cons_of_mem (Cond.methodLink RX11 351 yX11_backReport) h)
theorem mGA_881 : Cond.instanceMethod yX11_backReport ∈ wsGA := twGA_881 _ (List.mem_cons_self : Cond.instanceMethod yX11_backReport ∈ Cond.instanceMethod yX11_backReport :: wtGA_882)
theorem twGA_882 : ∀ w ∈ wtGA_882, w ∈ wsGA := fun w h => twGA_881 w (List.mem_cons_of_mem (Cond.instanceMethod yX11_backReport) h)
theorem mGA_882 : Cond.selects RX11 yX11_backReport yX11_backReport ∈ wsGA := twGA_882 _ (List.mem_cons_self : Cond.selects RX11 yX11_backReport yX11_backReport ∈ Cond.selects RX11 yX11_backReport yX11_backReport :: wtGA_883)
theorem twGA_883 : ∀ w ∈ wtGA_883, w ∈ wsGA := fun w h => twGA_882 w (List.mem_cons_of_mem (Cond.selects RX11 yX11_backReport yX11_backReport) h)
theorem mGA_883 : Cond.code yX11_backReport cX11_backReport 4 none ∈ wsGA := twGA_883 _ (List.mem_cons_self : Cond.code yX11_backReport cX11_backReport 4 none ∈ Cond.code yX11_backReport cX11_backReport 4 none :: wtGA_884)
theorem twGA_884 : ∀ w ∈ wtGA_884, w ∈ wsGA := fun w h => twGA_883 w (List.mem_cons_of_mem (Cond.code yX11_backReport cX11_backReport 4 none) h)
theorem mGA_884 : Cond.methodLink RX11 421 yX3_rightFor ∈ wsGA := twGA_884 _ (List.mem_cons_self : Cond.methodLink RX11 421 yX3_rightFor ∈ Cond.methodLink RX11 421 yX3_rightFor :: wtGA_885)
theorem twGA_885 : ∀ w ∈ wtGA_885, w ∈ wsGA := fun w h => twGA_884 w (List.mem_cons_of_mem (Cond.methodLink RX11 421 yX3_rightFor) h)
theorem mGA_885 : Cond.instanceMethod yX11_tell ∈ wsGA := twGA_885 _ (List.mem_cons_self : Cond.instanceMethod yX11_tell ∈ Cond.instanceMethod yX11_tell :: wtGA_886)
theorem twGA_886 : ∀ w ∈ wtGA_886, w ∈ wsGA := fun w h => twGA_885 w (List.mem_cons_of_mem (Cond.instanceMethod yX11_tell) h)
theorem mGA_886 : Cond.selects RX11 yX11_tell yX11_tell ∈ wsGA := twGA_886 _ (List.mem_cons_self : Cond.selects RX11 yX11_tell yX11_tell ∈ Cond.selects RX11 yX11_tell yX11_tell :: wtGA_887)
theorem twGA_887 : ∀ w ∈ wtGA_887, w ∈ wsGA := fun w h => twGA_886 w (List.mem_cons_of_mem (Cond.selects RX11 yX11_tell yX11_tell) h)
theorem mGA_887 : Cond.code yX11_tell cX11_tell 5 (some .int) ∈ wsGA := twGA_887 _ (List.mem_cons_self : Cond.code yX11_tell cX11_tell 5 (some .int) ∈ Cond.code yX11_tell cX11_tell 5 (some .int) :: wtGA_888)
theorem twGA_888 : ∀ w ∈ wtGA_888, w ∈ wsGA := fun w h => twGA_887 w (List.mem_cons_of_mem (Cond.code yX11_tell cX11_tell 5 (some .int)) h)
theorem mGA_888 : Cond.methodLink RX11 371 yX11_putOut ∈ wsGA := twGA_888 _ (List.mem_cons_self : Cond.methodLink RX11 371 yX11_putOut ∈ Cond.methodLink RX11 371 yX11_putOut :: wtGA_889)
theorem twGA_889 : ∀ w ∈ wtGA_889, w ∈ wsGA := fun w h => twGA_888 w (List.mem_cons_of_mem (Cond.methodLink RX11 371 yX11_putOut) h)
theorem mGA_889 : Cond.instanceMethod yX11_putOut ∈ wsGA := twGA_889 _ (List.mem_cons_self : Cond.instanceMethod yX11_putOut ∈ Cond.instanceMethod yX11_putOut :: wtGA_890)
theorem twGA_890 : ∀ w ∈ wtGA_890, w ∈ wsGA := fun w h => twGA_889 w (List.mem_cons_of_mem (Cond.instanceMethod yX11_putOut) h)
theorem mGA_890 : Cond.selects RX11 yX11_putOut yX11_putOut ∈ wsGA := twGA_890 _ (List.mem_cons_self : Cond.selects RX11 yX11_putOut yX11_putOut ∈ Cond.selects RX11 yX11_putOut yX11_putOut :: wtGA_891)
theorem twGA_891 : ∀ w ∈ wtGA_891, w ∈ wsGA := fun w h => twGA_890 w (List.mem_cons_of_mem (Cond.selects RX11 yX11_putOut yX11_putOut) h)
theorem mGA_891 : Cond.code yX11_putOut cX11_putOut 2 none ∈ wsGA := twGA_891 _ (List.mem_cons_self : Cond.code yX11_putOut cX11_putOut 2 none ∈ Cond.code yX11_putOut cX11_putOut 2 none :: wtGA_892)
theorem twGA_892 : ∀ w ∈ wtGA_892, w ∈ wsGA := fun w h => twGA_891 w (List.mem_cons_of_mem (Cond.code yX11_putOut cX11_putOut 2 none) h)
theorem mGA_892 : Cond.instanceMethod yX11_octet ∈ wsGA := twGA_892 _ (List.mem_cons_self : Cond.instanceMethod yX11_octet ∈ Cond.instanceMethod yX11_octet :: wtGA_893)
theorem twGA_893 : ∀ w ∈ wtGA_893, w ∈ wsGA := fun w h => twGA_892 w (List.mem_cons_of_mem (Cond.instanceMethod yX11_octet) h)
theorem mGA_893 : Cond.selects RX11 yX11_octet yX11_octet ∈ wsGA := twGA_893 _ (List.mem_cons_self : Cond.selects RX11 yX11_octet yX11_octet ∈ Cond.selects RX11 yX11_octet yX11_octet :: wtGA_894)
theorem twGA_894 : ∀ w ∈ wtGA_894, w ∈ wsGA := fun w h => twGA_893 w (List.mem_cons_of_mem (Cond.selects RX11 yX11_octet yX11_octet) h)
theorem mGA_894 : Cond.code yX11_octet cX11_octet 2 (some .int) ∈ wsGA := twGA_894 _ (List.mem_cons_self : Cond.code yX11_octet cX11_octet 2 (some .int) ∈ Cond.code yX11_octet cX11_octet 2 (some .int) :: wtGA_895)
theorem twGA_895 : ∀ w ∈ wtGA_895, w ∈ wsGA := fun w h => twGA_894 w (List.mem_cons_of_mem (Cond.code yX11_octet cX11_octet 2 (some .int)) h)
theorem mGA_895 : Cond.instanceMethod yX11_reports ∈ wsGA := twGA_895 _ (List.mem_cons_self : Cond.instanceMethod yX11_reports ∈ Cond.instanceMethod yX11_reports :: wtGA_896)
theorem twGA_896 : ∀ w ∈ wtGA_896, w ∈ wsGA := fun w h => twGA_895 w (List.mem_cons_of_mem (Cond.instanceMethod yX11_reports) h)
theorem mGA_896 : Cond.selects RX11 yX11_reports yX11_reports ∈ wsGA := twGA_896 _ (List.mem_cons_self : Cond.selects RX11 yX11_reports yX11_reports ∈ Cond.selects RX11 yX11_reports yX11_reports :: wtGA_897)
theorem twGA_897 : ∀ w ∈ wtGA_897, w ∈ wsGA := fun w h => twGA_896 w (List.mem_cons_of_mem (Cond.selects RX11 yX11_reports yX11_reports) h)
theorem mGA_897 : Cond.code yX11_reports cX11_reports 7 (some .int) ∈ wsGA := twGA_897 _ (List.mem_cons_self : Cond.code yX11_reports cX11_reports 7 (some .int) ∈ Cond.code yX11_reports cX11_reports 7 (some .int) :: wtGA_898)
theorem twGA_898 : ∀ w ∈ wtGA_898, w ∈ wsGA := fun w h => twGA_897 w (List.mem_cons_of_mem (Cond.code yX11_reports cX11_reports 7 (some .int)) h)
theorem mGA_898 : Cond.methodLink RX11 388 yX0_addReport ∈ wsGA := twGA_898 _ (List.mem_cons_self : Cond.methodLink RX11 388 yX0_addReport ∈ Cond.methodLink RX11 388 yX0_addReport :: wtGA_899)
theorem twGA_899 : ∀ w ∈ wtGA_899, w ∈ wsGA := fun w h => twGA_898 w (List.mem_cons_of_mem (Cond.methodLink RX11 388 yX0_addReport) h)
theorem mGA_899 : Cond.instanceMethod yX11_strikes ∈ wsGA := twGA_899 _ (List.mem_cons_self : Cond.instanceMethod yX11_strikes ∈ Cond.instanceMethod yX11_strikes :: wtGA_900)
theorem twGA_900 : ∀ w ∈ wtGA_900, w ∈ wsGA := fun w h => twGA_899 w (List.mem_cons_of_mem (Cond.instanceMethod yX11_strikes) h)
theorem mGA_900 : Cond.selects RX11 yX11_strikes yX11_strikes ∈ wsGA := twGA_900 _ (List.mem_cons_self : Cond.selects RX11 yX11_strikes yX11_strikes ∈ Cond.selects RX11 yX11_strikes yX11_strikes :: wtGA_901)
theorem twGA_901 : ∀ w ∈ wtGA_901, w ∈ wsGA := fun w h => twGA_900 w (List.mem_cons_of_mem (Cond.selects RX11 yX11_strikes yX11_strikes) h)
theorem mGA_901 : Cond.code yX11_strikes cX11_strikes 2 (some .int) ∈ wsGA := twGA_901 _ (List.mem_cons_self : Cond.code yX11_strikes cX11_strikes 2 (some .int) ∈ Cond.code yX11_strikes cX11_strikes 2 (some .int) :: wtGA_902)
theorem twGA_902 : ∀ w ∈ wtGA_902, w ∈ wsGA := fun w h => twGA_901 w (List.mem_cons_of_mem (Cond.code yX11_strikes cX11_strikes 2 (some .int)) h)
theorem mGA_902 : Cond.methodLink RX11 392 yX0_standing ∈ wsGA := twGA_902 _ (List.mem_cons_self : Cond.methodLink RX11 392 yX0_standing ∈ Cond.methodLink RX11 392 yX0_standing :: wtGA_903)
theorem twGA_903 : ∀ w ∈ wtGA_903, w ∈ wsGA := fun w h => twGA_902 w (List.mem_cons_of_mem (Cond.methodLink RX11 392 yX0_standing) h)
theorem mGA_903 : Cond.instanceMethod yX0_standing ∈ wsGA := twGA_903 _ (List.mem_cons_self : Cond.instanceMethod yX0_standing ∈ Cond.instanceMethod yX0_standing :: wtGA_904)
theorem twGA_904 : ∀ w ∈ wtGA_904, w ∈ wsGA := fun w h => twGA_903 w (List.mem_cons_of_mem (Cond.instanceMethod yX0_standing) h)
theorem mGA_904 : Cond.selects RX0 yX0_standing yX0_standing ∈ wsGA := twGA_904 _ (List.mem_cons_self : Cond.selects RX0 yX0_standing yX0_standing ∈ Cond.selects RX0 yX0_standing yX0_standing :: wtGA_905)
theorem twGA_905 : ∀ w ∈ wtGA_905, w ∈ wsGA := fun w h => twGA_904 w (List.mem_cons_of_mem (Cond.selects RX0 yX0_standing yX0_standing) h)
theorem mGA_905 : Cond.code yX0_standing cX0_standing 3 (some .int) ∈ wsGA := twGA_905 _ (List.mem_cons_self : Cond.code yX0_standing cX0_standing 3 (some .int) ∈ Cond.code yX0_standing cX0_standing 3 (some .int) :: wtGA_906)
theorem twGA_906 : ∀ w ∈ wtGA_906, w ∈ wsGA := fun w h => twGA_905 w (List.mem_cons_of_mem (Cond.code yX0_standing cX0_standing 3 (some .int)) h)
theorem mGA_906 : Cond.methodLink RX0 107 yX0_standingOf ∈ wsGA := twGA_906 _ (List.mem_cons_self : Cond.methodLink RX0 107 yX0_standingOf ∈ Cond.methodLink RX0 107 yX0_standingOf :: wtGA_907)
theorem twGA_907 : ∀ w ∈ wtGA_907, w ∈ wsGA := fun w h => twGA_906 w (List.mem_cons_of_mem (Cond.methodLink RX0 107 yX0_standingOf) h)
theorem mGA_907 : Cond.instanceMethod yX11_trusts ∈ wsGA := twGA_907 _ (List.mem_cons_self : Cond.instanceMethod yX11_trusts ∈ Cond.instanceMethod yX11_trusts :: wtGA_908)
theorem twGA_908 : ∀ w ∈ wtGA_908, w ∈ wsGA := fun w h => twGA_907 w (List.mem_cons_of_mem (Cond.instanceMethod yX11_trusts) h)
theorem mGA_908 : Cond.selects RX11 yX11_trusts yX11_trusts ∈ wsGA := twGA_908 _ (List.mem_cons_self : Cond.selects RX11 yX11_trusts yX11_trusts ∈ Cond.selects RX11 yX11_trusts yX11_trusts :: wtGA_909)
theorem twGA_909 : ∀ w ∈ wtGA_909, w ∈ wsGA := fun w h => twGA_908 w (List.mem_cons_of_mem (Cond.selects RX11 yX11_trusts yX11_trusts) h)
theorem mGA_909 : Cond.code yX11_trusts cX11_trusts 4 (some .int) ∈ wsGA := twGA_909 _ (List.mem_cons_self : Cond.code yX11_trusts cX11_trusts 4 (some .int) ∈ Cond.code yX11_trusts cX11_trusts 4 (some .int) :: wtGA_910)
theorem twGA_910 : ∀ w ∈ wtGA_910, w ∈ wsGA := fun w h => twGA_909 w (List.mem_cons_of_mem (Cond.code yX11_trusts cX11_trusts 4 (some .int)) h)
theorem mGA_910 : Cond.instanceMethod yX11_moon ∈ wsGA := twGA_910 _ (List.mem_cons_self : Cond.instanceMethod yX11_moon ∈ Cond.instanceMethod yX11_moon :: wtGA_911)
theorem twGA_911 : ∀ w ∈ wtGA_911, w ∈ wsGA := fun w h => twGA_910 w (List.mem_cons_of_mem (Cond.instanceMethod yX11_moon) h)
theorem mGA_911 : Cond.selects RX11 yX11_moon yX11_moon ∈ wsGA := twGA_911 _ (List.mem_cons_self : Cond.selects RX11 yX11_moon yX11_moon ∈ Cond.selects RX11 yX11_moon yX11_moon :: wtGA_912)
theorem twGA_912 : ∀ w ∈ wtGA_912, w ∈ wsGA := fun w h => twGA_911 w (List.mem_cons_of_mem (Cond.selects RX11 yX11_moon yX11_moon) h)
theorem mGA_912 : Cond.code yX11_moon cX11_moon 3 (some .int) ∈ wsGA := twGA_912 _ (List.mem_cons_self : Cond.code yX11_moon cX11_moon 3 (some .int) ∈ Cond.code yX11_moon cX11_moon 3 (some .int) :: wtGA_913)
theorem twGA_913 : ∀ w ∈ wtGA_913, w ∈ wsGA := fun w h => twGA_912 w (List.mem_cons_of_mem (Cond.code yX11_moon cX11_moon 3 (some .int)) h)
theorem mGA_913 : Cond.constant RX11 399 (99999) ∈ wsGA := twGA_913 _ (List.mem_cons_self : Cond.constant RX11 399 (99999) ∈ Cond.constant RX11 399 (99999) :: wtGA_914)
theorem twGA_914 : ∀ w ∈ wtGA_914, w ∈ wsGA := fun w h => twGA_913 w (List.mem_cons_of_mem (Cond.constant RX11 399 (99999)) h)
theorem mGA_914 : Cond.methodLink RX11 400 yX0_setMoon ∈ wsGA := twGA_914 _ (List.mem_cons_self : Cond.methodLink RX11 400 yX0_setMoon ∈ Cond.methodLink RX11 400 yX0_setMoon :: wtGA_915)
theorem twGA_915 : ∀ w ∈ wtGA_915, w ∈ wsGA := fun w h => twGA_914 w (List.mem_cons_of_mem (Cond.methodLink RX11 400 yX0_setMoon) h)
theorem mGA_915 : Cond.instanceMethod yX11_runs ∈ wsGA := twGA_915 _ (List.mem_cons_self : Cond.instanceMethod yX11_runs ∈ Cond.instanceMethod yX11_runs :: wtGA_916)
theorem twGA_916 : ∀ w ∈ wtGA_916, w ∈ wsGA := fun w h => twGA_915 w (List.mem_cons_of_mem (Cond.instanceMethod yX11_runs) h)
theorem mGA_916 : Cond.selects RX11 yX11_runs yX11_runs ∈ wsGA := twGA_916 _ (List.mem_cons_self : Cond.selects RX11 yX11_runs yX11_runs ∈ Cond.selects RX11 yX11_runs yX11_runs :: wtGA_917)
theorem twGA_917 : ∀ w ∈ wtGA_917, w ∈ wsGA := fun w h => twGA_916 w (List.mem_cons_of_mem (Cond.selects RX11 yX11_runs yX11_runs) h)
theorem mGA_917 : Cond.code yX11_runs cX11_runs 3 (some .int) ∈ wsGA := twGA_917 _ (List.mem_cons_self : Cond.code yX11_runs cX11_runs 3 (some .int) ∈ Cond.code yX11_runs cX11_runs 3 (some .int) :: wtGA_918)
theorem twGA_918 : ∀ w ∈ wtGA_918, w ∈ wsGA := fun w h => twGA_917 w (List.mem_cons_of_mem (Cond.code yX11_runs cX11_runs 3 (some .int)) h)
theorem jnGA_X0 : ∀ w ∈ wsX00, w ∈ wsGA := fun w h => twGA_918 w (List.mem_append_left _ (List.mem_append_left _ (List.mem_append_left _ (List.mem_append_left _ (List.mem_append_left _ (List.mem_append_left _ (List.mem_append_left _ (List.mem_append_left _ (List.mem_append_left _ (List.mem_append_left _ (List.mem_append_left _ (h))))))))))))
theorem jnGA_X1 : ∀ w ∈ wsX10, w ∈ wsGA := fun w h => twGA_918 w (List.mem_append_left _ (List.mem_append_left _ (List.mem_append_left _ (List.mem_append_left _ (List.mem_append_left _ (List.mem_append_left _ (List.mem_append_left _ (List.mem_append_left _ (List.mem_append_left _ (List.mem_append_left _ (List.mem_append_right _ h)))))))))))
theorem jnGA_X2 : ∀ w ∈ wsX20, w ∈ wsGA := fun w h => twGA_918 w (List.mem_append_left _ (List.mem_append_left _ (List.mem_append_left _ (List.mem_append_left _ (List.mem_append_left _ (List.mem_append_left _ (List.mem_append_left _ (List.mem_append_left _ (List.mem_append_left _ (List.mem_append_right _ h))))))))))
theorem jnGA_X3 : ∀ w ∈ wsX30, w ∈ wsGA := fun w h => twGA_918 w (List.mem_append_left _ (List.mem_append_left _ (List.mem_append_left _ (List.mem_append_left _ (List.mem_append_left _ (List.mem_append_left _ (List.mem_append_left _ (List.mem_append_left _ (List.mem_append_right _ h)))))))))
theorem jnGA_X4 : ∀ w ∈ wsX40, w ∈ wsGA := fun w h => twGA_918 w (List.mem_append_left _ (List.mem_append_left _ (List.mem_append_left _ (List.mem_append_left _ (List.mem_append_left _ (List.mem_append_left _ (List.mem_append_left _ (List.mem_append_right _ h))))))))
theorem jnGA_X5 : ∀ w ∈ wsX50, w ∈ wsGA := fun w h => twGA_918 w (List.mem_append_left _ (List.mem_append_left _ (List.mem_append_left _ (List.mem_append_left _ (List.mem_append_left _ (List.mem_append_left _ (List.mem_append_right _ h)))))))
theorem jnGA_X6 : ∀ w ∈ wsX60, w ∈ wsGA := fun w h => twGA_918 w (List.mem_append_left _ (List.mem_append_left _ (List.mem_append_left _ (List.mem_append_left _ (List.mem_append_left _ (List.mem_append_right _ h))))))
theorem jnGA_X7 : ∀ w ∈ wsX70, w ∈ wsGA := fun w h => twGA_918 w (List.mem_append_left _ (List.mem_append_left _ (List.mem_append_left _ (List.mem_append_left _ (List.mem_append_right _ h)))))
theorem jnGA_X8 : ∀ w ∈ wsX80, w ∈ wsGA := fun w h => twGA_918 w (List.mem_append_left _ (List.mem_append_left _ (List.mem_append_left _ (List.mem_append_right _ h))))
theorem jnGA_X9 : ∀ w ∈ wsX90, w ∈ wsGA := fun w h => twGA_918 w (List.mem_append_left _ (List.mem_append_left _ (List.mem_append_right _ h)))
theorem jnGA_X10 : ∀ w ∈ wsX100, w ∈ wsGA := fun w h => twGA_918 w (List.mem_append_left _ (List.mem_append_right _ h))
theorem jnGA_X11 : ∀ w ∈ wsX110, w ∈ wsGA := fun w h => twGA_918 w (List.mem_append_right _ h)
theorem gwGA_918 : wtGA_918.all goodWord = true := by decide +kernel
theorem gwGA_917 : wtGA_917.all goodWord = true := gz_all (w := Cond.code yX11_runs cX11_runs 3 (some .int)) rfl gwGA_918
theorem gwGA_916 : wtGA_916.all goodWord = true := gz_all (w := Cond.selects RX11 yX11_runs yX11_runs) rfl gwGA_917
theorem gwGA_915 : wtGA_915.all goodWord = true := gz_all (w := Cond.instanceMethod yX11_runs) rfl gwGA_916
theorem gwGA_914 : wtGA_914.all goodWord = true := gz_all (w := Cond.methodLink RX11 400 yX0_setMoon) rfl gwGA_915
theorem gwGA_913 : wtGA_913.all goodWord = true := gz_all (w := Cond.constant RX11 399 (99999)) rfl gwGA_914
theorem gwGA_912 : wtGA_912.all goodWord = true := gz_all (w := Cond.code yX11_moon cX11_moon 3 (some .int)) rfl gwGA_913
theorem gwGA_911 : wtGA_911.all goodWord = true := gz_all (w := Cond.selects RX11 yX11_moon yX11_moon) rfl gwGA_912
theorem gwGA_910 : wtGA_910.all goodWord = true := gz_all (w := Cond.instanceMethod yX11_moon) rfl gwGA_911
theorem gwGA_909 : wtGA_909.all goodWord = true := gz_all (w := Cond.code yX11_trusts cX11_trusts 4 (some .int)) rfl gwGA_910
theorem gwGA_908 : wtGA_908.all goodWord = true := gz_all (w := Cond.selects RX11 yX11_trusts yX11_trusts) rfl gwGA_909
theorem gwGA_907 : wtGA_907.all goodWord = true := gz_all (w := Cond.instanceMethod yX11_trusts) rfl gwGA_908
theorem gwGA_906 : wtGA_906.all goodWord = true := gz_all (w := Cond.methodLink RX0 107 yX0_standingOf) rfl gwGA_907
theorem gwGA_905 : wtGA_905.all goodWord = true := gz_all (w := Cond.code yX0_standing cX0_standing 3 (some .int)) rfl gwGA_906
theorem gwGA_904 : wtGA_904.all goodWord = true := gz_all (w := Cond.selects RX0 yX0_standing yX0_standing) rfl gwGA_905
theorem gwGA_903 : wtGA_903.all goodWord = true := gz_all (w := Cond.instanceMethod yX0_standing) rfl gwGA_904
theorem gwGA_902 : wtGA_902.all goodWord = true := gz_all (w := Cond.methodLink RX11 392 yX0_standing) rfl gwGA_903
theorem gwGA_901 : wtGA_901.all goodWord = true := gz_all (w := Cond.code yX11_strikes cX11_strikes 2 (some .int)) rfl gwGA_902
theorem gwGA_900 : wtGA_900.all goodWord = true := gz_all (w := Cond.selects RX11 yX11_strikes yX11_strikes) rfl gwGA_901
theorem gwGA_899 : wtGA_899.all goodWord = true := gz_all (w := Cond.instanceMethod yX11_strikes) rfl gwGA_900
theorem gwGA_898 : wtGA_898.all goodWord = true := gz_all (w := Cond.methodLink RX11 388 yX0_addReport) rfl gwGA_899
theorem gwGA_897 : wtGA_897.all goodWord = true := gz_all (w := Cond.code yX11_reports cX11_reports 7 (some .int)) rfl gwGA_898
theorem gwGA_896 : wtGA_896.all goodWord = true := gz_all (w := Cond.selects RX11 yX11_reports yX11_reports) rfl gwGA_897
theorem gwGA_895 : wtGA_895.all goodWord = true := gz_all (w := Cond.instanceMethod yX11_reports) rfl gwGA_896
theorem gwGA_894 : wtGA_894.all goodWord = true := gz_all (w := Cond.code yX11_octet cX11_octet 2 (some .int)) rfl gwGA_895
theorem gwGA_893 : wtGA_893.all goodWord = true := gz_all (w := Cond.selects RX11 yX11_octet yX11_octet) rfl gwGA_894
theorem gwGA_892 : wtGA_892.all goodWord = true := gz_all (w := Cond.instanceMethod yX11_octet) rfl gwGA_893
theorem gwGA_891 : wtGA_891.all goodWord = true := gz_all (w := Cond.code yX11_putOut cX11_putOut 2 none) rfl gwGA_892
theorem gwGA_890 : wtGA_890.all goodWord = true := gz_all (w := Cond.selects RX11 yX11_putOut yX11_putOut) rfl gwGA_891
theorem gwGA_889 : wtGA_889.all goodWord = true := gz_all (w := Cond.instanceMethod yX11_putOut) rfl gwGA_890
theorem gwGA_888 : wtGA_888.all goodWord = true := gz_all (w := Cond.methodLink RX11 371 yX11_putOut) rfl gwGA_889
theorem gwGA_887 : wtGA_887.all goodWord = true := gz_all (w := Cond.code yX11_tell cX11_tell 5 (some .int)) rfl gwGA_888
theorem gwGA_886 : wtGA_886.all goodWord = true := gz_all (w := Cond.selects RX11 yX11_tell yX11_tell) rfl gwGA_887
theorem gwGA_885 : wtGA_885.all goodWord = true := gz_all (w := Cond.instanceMethod yX11_tell) rfl gwGA_886
theorem gwGA_884 : wtGA_884.all goodWord = true := gz_all (w := Cond.methodLink RX11 421 yX3_rightFor) rfl gwGA_885
theorem gwGA_883 : wtGA_883.all goodWord = true := gz_all (w := Cond.code yX11_backReport cX11_backReport 4 none) rfl gwGA_884
theorem gwGA_882 : wtGA_882.all goodWord = true := gz_all (w := Cond.selects RX11 yX11_backReport yX11_backReport) rfl gwGA_883
theorem gwGA_881 : wtGA_881.all goodWord = true := gz_all (w := Cond.instanceMethod yX11_backReport) rfl gwGA_882
theorem gwGA_880 : wtGA_880.all goodWord = true := gz_all (w := Cond.methodLink RX11 351 yX11_backReport) rfl gwGA_881
theorem gwGA_879 : wtGA_879.all goodWord = true := gz_all (w := Cond.code yX11_backed cX11_backed 5 (some .int)) rfl gwGA_880
theorem gwGA_878 : wtGA_878.all goodWord = true := gz_all (w := Cond.selects RX11 yX11_backed yX11_backed) rfl gwGA_879
theorem gwGA_877 : wtGA_877.all goodWord = true := gz_all (w := Cond.instanceMethod yX11_backed) rfl gwGA_878
theorem gwGA_876 : wtGA_876.all goodWord = true := gz_all (w := Cond.code yX8_fullBits cX8_fullBits 5 (some .int)) rfl gwGA_877
theorem gwGA_875 : wtGA_875.all goodWord = true := gz_all (w := Cond.selects RX8 yX8_fullBits yX8_fullBits) rfl gwGA_876
theorem gwGA_874 : wtGA_874.all goodWord = true := gz_all (w := Cond.instanceMethod yX8_fullBits) rfl gwGA_875
theorem gwGA_873 : wtGA_873.all goodWord = true := gz_all (w := Cond.methodLink RX11 348 yX8_fullBits) rfl gwGA_874
theorem gwGA_872 : wtGA_872.all goodWord = true := gz_all (w := Cond.code Lib.Math.abs.name Lib.Math.abs.code 1 (some .int)) rfl gwGA_873
theorem gwGA_871 : wtGA_871.all goodWord = true := gz_all (w := Cond.static Lib.Math.abs.name) rfl gwGA_872
theorem gwGA_870 : wtGA_870.all goodWord = true := gz_all (w := Cond.methodLink RX11 329 Lib.Math.abs.name) rfl gwGA_871
theorem gwGA_869 : wtGA_869.all goodWord = true := gz_all (w := Cond.code yX11_nearest cX11_nearest 6 (some .int)) rfl gwGA_870
theorem gwGA_868 : wtGA_868.all goodWord = true := gz_all (w := Cond.selects RX11 yX11_nearest yX11_nearest) rfl gwGA_869
theorem gwGA_867 : wtGA_867.all goodWord = true := gz_all (w := Cond.instanceMethod yX11_nearest) rfl gwGA_868
theorem gwGA_866 : wtGA_866.all goodWord = true := gz_all (w := Cond.code yX11_both cX11_both 3 (some .int)) rfl gwGA_867
theorem gwGA_865 : wtGA_865.all goodWord = true := gz_all (w := Cond.selects RX11 yX11_both yX11_both) rfl gwGA_866
theorem gwGA_864 : wtGA_864.all goodWord = true := gz_all (w := Cond.instanceMethod yX11_both) rfl gwGA_865
theorem gwGA_863 : wtGA_863.all goodWord = true := gz_all (w := Cond.code yX0_knownBits cX0_knownBits 4 (some .int)) rfl gwGA_864
theorem gwGA_862 : wtGA_862.all goodWord = true := gz_all (w := Cond.selects RX0 yX0_knownBits yX0_knownBits) rfl gwGA_863
theorem gwGA_861 : wtGA_861.all goodWord = true := gz_all (w := Cond.instanceMethod yX0_knownBits) rfl gwGA_862
theorem gwGA_860 : wtGA_860.all goodWord = true := gz_all (w := Cond.methodLink RX11 247 yX0_knownBits) rfl gwGA_861
theorem gwGA_859 : wtGA_859.all goodWord = true := gz_all (w := Cond.code yX11_later cX11_later 2 (some .int)) rfl gwGA_860
theorem gwGA_858 : wtGA_858.all goodWord = true := gz_all (w := Cond.selects RX11 yX11_later yX11_later) rfl gwGA_859
theorem gwGA_857 : wtGA_857.all goodWord = true := gz_all (w := Cond.instanceMethod yX11_later) rfl gwGA_858
theorem gwGA_856 : wtGA_856.all goodWord = true := gz_all (w := Cond.code yX9_onWeekday cX9_onWeekday 6 (some .int)) rfl gwGA_857
theorem gwGA_855 : wtGA_855.all goodWord = true := gz_all (w := Cond.selects RX9 yX9_onWeekday yX9_onWeekday) rfl gwGA_856
theorem gwGA_854 : wtGA_854.all goodWord = true := gz_all (w := Cond.instanceMethod yX9_onWeekday) rfl gwGA_855
theorem gwGA_853 : wtGA_853.all goodWord = true := gz_all (w := Cond.methodLink RX11 323 yX9_onWeekday) rfl gwGA_854
theorem gwGA_852 : wtGA_852.all goodWord = true := gz_all (w := Cond.code yX11_weekday cX11_weekday 5 (some .int)) rfl gwGA_853
theorem gwGA_851 : wtGA_851.all goodWord = true := gz_all (w := Cond.selects RX11 yX11_weekday yX11_weekday) rfl gwGA_852
theorem gwGA_850 : wtGA_850.all goodWord = true := gz_all (w := Cond.instanceMethod yX11_weekday) rfl gwGA_851
theorem gwGA_849 : wtGA_849.all goodWord = true := gz_all (w := Cond.code yX11_days cX11_days 5 (some .int)) rfl gwGA_850
theorem gwGA_848 : wtGA_848.all goodWord = true := gz_all (w := Cond.selects RX11 yX11_days yX11_days) rfl gwGA_849
theorem gwGA_847 : wtGA_847.all goodWord = true := gz_all (w := Cond.instanceMethod yX11_days) rfl gwGA_848
theorem gwGA_846 : wtGA_846.all goodWord = true := gz_all (w := Cond.code yX11_trusted cX11_trusted 5 (some .int)) rfl gwGA_847
theorem gwGA_845 : wtGA_845.all goodWord = true := gz_all (w := Cond.selects RX11 yX11_trusted yX11_trusted) rfl gwGA_846
theorem gwGA_844 : wtGA_844.all goodWord = true := gz_all (w := Cond.instanceMethod yX11_trusted) rfl gwGA_845
theorem gwGA_843 : wtGA_843.all goodWord = true := gz_all (w := Cond.methodLink RX9 98 Lib.Math.max.name) rfl gwGA_844
theorem gwGA_842 : wtGA_842.all goodWord = true := gz_all (w := Cond.code yX9_mostLeft cX9_mostLeft 4 (some .int)) rfl gwGA_843
theorem gwGA_841 : wtGA_841.all goodWord = true := gz_all (w := Cond.selects RX9 yX9_mostLeft yX9_mostLeft) rfl gwGA_842
theorem gwGA_840 : wtGA_840.all goodWord = true := gz_all (w := Cond.instanceMethod yX9_mostLeft) rfl gwGA_841
theorem gwGA_839 : wtGA_839.all goodWord = true := gz_all (w := Cond.methodLink RX11 311 yX9_mostLeft) rfl gwGA_840
theorem gwGA_838 : wtGA_838.all goodWord = true := gz_all (w := Cond.code yX11_telling cX11_telling 5 (some .int)) rfl gwGA_839
theorem gwGA_837 : wtGA_837.all goodWord = true := gz_all (w := Cond.selects RX11 yX11_telling yX11_telling) rfl gwGA_838
theorem gwGA_836 : wtGA_836.all goodWord = true := gz_all (w := Cond.instanceMethod yX11_telling) rfl gwGA_837
theorem gwGA_835 : wtGA_835.all goodWord = true := gz_all (w := Cond.code yX11_hang cX11_hang 3 (some .int)) rfl gwGA_836
theorem gwGA_834 : wtGA_834.all goodWord = true := gz_all (w := Cond.selects RX11 yX11_hang yX11_hang) rfl gwGA_835
theorem gwGA_833 : wtGA_833.all goodWord = true := gz_all (w := Cond.instanceMethod yX11_hang) rfl gwGA_834
theorem gwGA_832 : wtGA_832.all goodWord = true := gz_all (w := Cond.code yX11_unlikeBegins cX11_unlikeBegins 5 (some .int)) rfl gwGA_833
theorem gwGA_831 : wtGA_831.all goodWord = true := gz_all (w := Cond.selects RX11 yX11_unlikeBegins yX11_unlikeBegins) rfl gwGA_832
theorem gwGA_830 : wtGA_830.all goodWord = true := gz_all (w := Cond.instanceMethod yX11_unlikeBegins) rfl gwGA_831
theorem gwGA_829 : wtGA_829.all goodWord = true := gz_all (w := Cond.methodLink RX11 261 yX11_unlikeBegins) rfl gwGA_830
theorem gwGA_828 : wtGA_828.all goodWord = true := gz_all (w := Cond.methodLink RX11 269 arraycopyName) rfl gwGA_829
theorem gwGA_827 : wtGA_827.all goodWord = true := gz_all (w := Cond.code yX11_apart cX11_apart 4 (some .int)) rfl gwGA_828
theorem gwGA_826 : wtGA_826.all goodWord = true := gz_all (w := Cond.selects RX11 yX11_apart yX11_apart) rfl gwGA_827
theorem gwGA_825 : wtGA_825.all goodWord = true := gz_all (w := Cond.instanceMethod yX11_apart) rfl gwGA_826
theorem gwGA_824 : wtGA_824.all goodWord = true := gz_all (w := Cond.code yX0_strikeAllBut cX0_strikeAllBut 3 none) rfl gwGA_825
theorem gwGA_823 : wtGA_823.all goodWord = true := gz_all (w := Cond.selects RX0 yX0_strikeAllBut yX0_strikeAllBut) rfl gwGA_824
theorem gwGA_822 : wtGA_822.all goodWord = true := gz_all (w := Cond.instanceMethod yX0_strikeAllBut) rfl gwGA_823
theorem gwGA_821 : wtGA_821.all goodWord = true := gz_all (w := Cond.methodLink RX11 418 yX0_strikeAllBut) rfl gwGA_822
theorem gwGA_820 : wtGA_820.all goodWord = true := gz_all (w := Cond.methodLink RX0 92 yX0_addReport) rfl gwGA_821
theorem gwGA_819 : wtGA_819.all goodWord = true := gz_all (w := Cond.methodLink RX0 73 yX0_addPlace) rfl gwGA_820
theorem gwGA_818 : wtGA_818.all goodWord = true := gz_all (w := Cond.methodLink RX0 64 yX0_wipe) rfl gwGA_819
theorem gwGA_817 : wtGA_817.all goodWord = true := gz_all (w := Cond.code yX0_copyFrom cX0_copyFrom 4 none) rfl gwGA_818
theorem gwGA_816 : wtGA_816.all goodWord = true := gz_all (w := Cond.selects RX0 yX0_copyFrom yX0_copyFrom) rfl gwGA_817
theorem gwGA_815 : wtGA_815.all goodWord = true := gz_all (w := Cond.instanceMethod yX0_copyFrom) rfl gwGA_816
theorem gwGA_814 : wtGA_814.all goodWord = true := gz_all (w := Cond.methodLink RX11 250 yX0_copyFrom) rfl gwGA_815
theorem gwGA_813 : wtGA_813.all goodWord = true := gz_all (w := Cond.code yX11_judgeAlone cX11_judgeAlone 3 none) rfl gwGA_814
theorem gwGA_812 : wtGA_812.all goodWord = true := gz_all (w := Cond.selects RX11 yX11_judgeAlone yX11_judgeAlone) rfl gwGA_813
theorem gwGA_811 : wtGA_811.all goodWord = true := gz_all (w := Cond.instanceMethod yX11_judgeAlone) rfl gwGA_812
theorem gwGA_810 : wtGA_810.all goodWord = true := gz_all (w := Cond.methodLink RX11 265 yX11_judgeAlone) rfl gwGA_811
theorem gwGA_809 : wtGA_809.all goodWord = true := gz_all (w := Cond.code yX11_own cX11_own 4 (some .int)) rfl gwGA_810
theorem gwGA_808 : wtGA_808.all goodWord = true := gz_all (w := Cond.selects RX11 yX11_own yX11_own) rfl gwGA_809
theorem gwGA_807 : wtGA_807.all goodWord = true := gz_all (w := Cond.instanceMethod yX11_own) rfl gwGA_808
theorem gwGA_806 : wtGA_806.all goodWord = true := gz_all (w := Cond.code yX8_least cX8_least 1 (some .int)) rfl gwGA_807
theorem gwGA_805 : wtGA_805.all goodWord = true := gz_all (w := Cond.selects RX8 yX8_least yX8_least) rfl gwGA_806
theorem gwGA_804 : wtGA_804.all goodWord = true := gz_all (w := Cond.instanceMethod yX8_least) rfl gwGA_805
theorem gwGA_803 : wtGA_803.all goodWord = true := gz_all (w := Cond.methodLink RX11 345 yX8_least) rfl gwGA_804
theorem gwGA_802 : wtGA_802.all goodWord = true := gz_all (w := Cond.code yX8_withLean cX8_withLean 4 (some .int)) rfl gwGA_803
theorem gwGA_801 : wtGA_801.all goodWord = true := gz_all (w := Cond.selects RX8 yX8_withLean yX8_withLean) rfl gwGA_802
theorem gwGA_800 : wtGA_800.all goodWord = true := gz_all (w := Cond.instanceMethod yX8_withLean) rfl gwGA_801
theorem gwGA_799 : wtGA_799.all goodWord = true := gz_all (w := Cond.methodLink RX8 63 yX8_withLean) rfl gwGA_800
theorem gwGA_798 : wtGA_798.all goodWord = true := gz_all (w := Cond.code yX8_withFull cX8_withFull 4 (some .int)) rfl gwGA_799
theorem gwGA_797 : wtGA_797.all goodWord = true := gz_all (w := Cond.selects RX8 yX8_withFull yX8_withFull) rfl gwGA_798
theorem gwGA_796 : wtGA_796.all goodWord = true := gz_all (w := Cond.instanceMethod yX8_withFull) rfl gwGA_797
theorem gwGA_795 : wtGA_795.all goodWord = true := gz_all (w := Cond.methodLink RX8 60 yX8_withFull) rfl gwGA_796
theorem gwGA_794 : wtGA_794.all goodWord = true := gz_all (w := Cond.methodLink RX8 66 Lib.Math.min.name) rfl gwGA_795
theorem gwGA_793 : wtGA_793.all goodWord = true := gz_all (w := Cond.code yX8_fillCell cX8_fillCell 5 none) rfl gwGA_794
theorem gwGA_792 : wtGA_792.all goodWord = true := gz_all (w := Cond.selects RX8 yX8_fillCell yX8_fillCell) rfl gwGA_793
theorem gwGA_791 : wtGA_791.all goodWord = true := gz_all (w := Cond.instanceMethod yX8_fillCell) rfl gwGA_792
theorem gwGA_790 : wtGA_790.all goodWord = true := gz_all (w := Cond.methodLink RX8 48 yX8_fillCell) rfl gwGA_791
theorem gwGA_789 : wtGA_789.all goodWord = true := gz_all (w := Cond.methodLink RX8 44 yX3_allows) rfl gwGA_790
theorem gwGA_788 : wtGA_788.all goodWord = true := gz_all (w := Cond.constant RX8 43 (1000000)) rfl gwGA_789
theorem gwGA_787 : wtGA_787.all goodWord = true := gz_all (w := Cond.fieldLink RX8 42 "SightedMonths$Search" "lean" "I") rfl gwGA_788
theorem gwGA_786 : wtGA_786.all goodWord = true := gz_all (w := Cond.fieldLink RX8 39 "SightedMonths$Frame" "lean" "I") rfl gwGA_787
theorem gwGA_785 : wtGA_785.all goodWord = true := gz_all (w := Cond.fieldLink RX8 38 "SightedMonths$Search" "full" "I") rfl gwGA_786
theorem gwGA_784 : wtGA_784.all goodWord = true := gz_all (w := Cond.fieldLink RX8 35 "SightedMonths$Frame" "full" "I") rfl gwGA_785
theorem gwGA_783 : wtGA_783.all goodWord = true := gz_all (w := Cond.fieldLink RX8 34 "SightedMonths$Search" "months" "I") rfl gwGA_784
theorem gwGA_782 : wtGA_782.all goodWord = true := gz_all (w := Cond.fieldLink RX8 28 "SightedMonths$Frame" "months" "I") rfl gwGA_783
theorem gwGA_781 : wtGA_781.all goodWord = true := gz_all (w := Cond.code yX8_run cX8_run 4 none) rfl gwGA_782
theorem gwGA_780 : wtGA_780.all goodWord = true := gz_all (w := Cond.selects RX8 yX8_run yX8_run) rfl gwGA_781
theorem gwGA_779 : wtGA_779.all goodWord = true := gz_all (w := Cond.instanceMethod yX8_run) rfl gwGA_780
theorem gwGA_778 : wtGA_778.all goodWord = true := gz_all (w := Cond.methodLink RX11 341 yX8_run) rfl gwGA_779
theorem gwGA_777 : wtGA_777.all goodWord = true := gz_all (w := Cond.code yX8_charge cX8_charge 4 none) rfl gwGA_778
theorem gwGA_776 : wtGA_776.all goodWord = true := gz_all (w := Cond.selects RX8 yX8_charge yX8_charge) rfl gwGA_777
theorem gwGA_775 : wtGA_775.all goodWord = true := gz_all (w := Cond.instanceMethod yX8_charge) rfl gwGA_776
theorem gwGA_774 : wtGA_774.all goodWord = true := gz_all (w := Cond.methodLink RX11 334 yX8_charge) rfl gwGA_775
theorem gwGA_773 : wtGA_773.all goodWord = true := gz_all (w := Cond.methodLink RX8 18 yJ7_fill_53178) rfl gwGA_774
theorem gwGA_772 : wtGA_772.all goodWord = true := gz_all (w := Cond.code yX8_wipe cX8_wipe 1 none) rfl gwGA_773
theorem gwGA_771 : wtGA_771.all goodWord = true := gz_all (w := Cond.selects RX8 yX8_wipe yX8_wipe) rfl gwGA_772
theorem gwGA_770 : wtGA_770.all goodWord = true := gz_all (w := Cond.instanceMethod yX8_wipe) rfl gwGA_771
theorem gwGA_769 : wtGA_769.all goodWord = true := gz_all (w := Cond.methodLink RX11 326 yX8_wipe) rfl gwGA_770
theorem gwGA_768 : wtGA_768.all goodWord = true := gz_all (w := Cond.code yX11_leastLead cX11_leastLead 7 (some .int)) rfl gwGA_769
theorem gwGA_767 : wtGA_767.all goodWord = true := gz_all (w := Cond.selects RX11 yX11_leastLead yX11_leastLead) rfl gwGA_768
theorem gwGA_766 : wtGA_766.all goodWord = true := gz_all (w := Cond.instanceMethod yX11_leastLead) rfl gwGA_767
theorem gwGA_765 : wtGA_765.all goodWord = true := gz_all (w := Cond.methodLink RX11 384 yX11_leastLead) rfl gwGA_766
theorem gwGA_764 : wtGA_764.all goodWord = true := gz_all (w := Cond.code yX11_longer cX11_longer 4 (some .int)) rfl gwGA_765
theorem gwGA_763 : wtGA_763.all goodWord = true := gz_all (w := Cond.selects RX11 yX11_longer yX11_longer) rfl gwGA_764
theorem gwGA_762 : wtGA_762.all goodWord = true := gz_all (w := Cond.instanceMethod yX11_longer) rfl gwGA_763
theorem gwGA_761 : wtGA_761.all goodWord = true := gz_all (w := Cond.code yX11_redated cX11_redated 2 (some .int)) rfl gwGA_762
theorem gwGA_760 : wtGA_760.all goodWord = true := gz_all (w := Cond.selects RX11 yX11_redated yX11_redated) rfl gwGA_761
theorem gwGA_759 : wtGA_759.all goodWord = true := gz_all (w := Cond.instanceMethod yX11_redated) rfl gwGA_760
theorem gwGA_758 : wtGA_758.all goodWord = true := gz_all (w := Cond.code yX11_dueOn cX11_dueOn 5 (some .int)) rfl gwGA_759
theorem gwGA_757 : wtGA_757.all goodWord = true := gz_all (w := Cond.selects RX11 yX11_dueOn yX11_dueOn) rfl gwGA_758
theorem gwGA_756 : wtGA_756.all goodWord = true := gz_all (w := Cond.instanceMethod yX11_dueOn) rfl gwGA_757
theorem gwGA_755 : wtGA_755.all goodWord = true := gz_all (w := Cond.code yX11_dueSpan cX11_dueSpan 5 (some .int)) rfl gwGA_756
theorem gwGA_754 : wtGA_754.all goodWord = true := gz_all (w := Cond.selects RX11 yX11_dueSpan yX11_dueSpan) rfl gwGA_755
theorem gwGA_753 : wtGA_753.all goodWord = true := gz_all (w := Cond.instanceMethod yX11_dueSpan) rfl gwGA_754
theorem gwGA_752 : wtGA_752.all goodWord = true := gz_all (w := Cond.code yX2_endOffset cX2_endOffset 1 (some .int)) rfl gwGA_753
theorem gwGA_751 : wtGA_751.all goodWord = true := gz_all (w := Cond.selects RX2 yX2_endOffset yX2_endOffset) rfl gwGA_752
theorem gwGA_750 : wtGA_750.all goodWord = true := gz_all (w := Cond.instanceMethod yX2_endOffset) rfl gwGA_751
theorem gwGA_749 : wtGA_749.all goodWord = true := gz_all (w := Cond.methodLink RX11 381 yX2_endOffset) rfl gwGA_750
theorem gwGA_748 : wtGA_748.all goodWord = true := gz_all (w := Cond.fieldLink RX2 20 "SightedMonths$Deed" "day" "I") rfl gwGA_749
theorem gwGA_747 : wtGA_747.all goodWord = true := gz_all (w := Cond.fieldLink RX2 17 "SightedMonths$Deed" "length" "I") rfl gwGA_748
theorem gwGA_746 : wtGA_746.all goodWord = true := gz_all (w := Cond.fieldLink RX2 13 "SightedMonths$Deed" "month" "I") rfl gwGA_747
theorem gwGA_745 : wtGA_745.all goodWord = true := gz_all (w := Cond.fieldLink RX2 7 "SightedMonths$Deed" "inDays" "Z") rfl gwGA_746
theorem gwGA_744 : wtGA_744.all goodWord = true := gz_all (w := Cond.code yX2_endAnchor cX2_endAnchor 1 (some .int)) rfl gwGA_745
theorem gwGA_743 : wtGA_743.all goodWord = true := gz_all (w := Cond.selects RX2 yX2_endAnchor yX2_endAnchor) rfl gwGA_744
theorem gwGA_742 : wtGA_742.all goodWord = true := gz_all (w := Cond.instanceMethod yX2_endAnchor) rfl gwGA_743
theorem gwGA_741 : wtGA_741.all goodWord = true := gz_all (w := Cond.methodLink RX11 378 yX2_endAnchor) rfl gwGA_742
theorem gwGA_740 : wtGA_740.all goodWord = true := gz_all (w := Cond.code yX11_endByOfficial cX11_endByOfficial 4 (some .int)) rfl gwGA_741
theorem gwGA_739 : wtGA_739.all goodWord = true := gz_all (w := Cond.selects RX11 yX11_endByOfficial yX11_endByOfficial) rfl gwGA_740
theorem gwGA_738 : wtGA_738.all goodWord = true := gz_all (w := Cond.instanceMethod yX11_endByOfficial) rfl gwGA_739
theorem gwGA_737 : wtGA_737.all goodWord = true := gz_all (w := Cond.methodLink RX11 375 yX11_endByOfficial) rfl gwGA_738
theorem gwGA_736 : wtGA_736.all goodWord = true := gz_all (w := Cond.code yX11_due cX11_due 3 (some .int)) rfl gwGA_737
theorem gwGA_735 : wtGA_735.all goodWord = true := gz_all (w := Cond.selects RX11 yX11_due yX11_due) rfl gwGA_736
theorem gwGA_734 : wtGA_734.all goodWord = true := gz_all (w := Cond.instanceMethod yX11_due) rfl gwGA_735
theorem gwGA_733 : wtGA_733.all goodWord = true := gz_all (w := Cond.code yX4_lastChangeOf cX4_lastChangeOf 3 (some .int)) rfl gwGA_734
theorem gwGA_732 : wtGA_732.all goodWord = true := gz_all (w := Cond.selects RX4 yX4_lastChangeOf yX4_lastChangeOf) rfl gwGA_733
theorem gwGA_731 : wtGA_731.all goodWord = true := gz_all (w := Cond.instanceMethod yX4_lastChangeOf) rfl gwGA_732
theorem gwGA_730 : wtGA_730.all goodWord = true := gz_all (w := Cond.methodLink RX11 368 yX4_lastChangeOf) rfl gwGA_731
theorem gwGA_729 : wtGA_729.all goodWord = true := gz_all (w := Cond.code yX11_settled cX11_settled 2 (some .int)) rfl gwGA_730
theorem gwGA_728 : wtGA_728.all goodWord = true := gz_all (w := Cond.selects RX11 yX11_settled yX11_settled) rfl gwGA_729
theorem gwGA_727 : wtGA_727.all goodWord = true := gz_all (w := Cond.instanceMethod yX11_settled) rfl gwGA_728
theorem gwGA_726 : wtGA_726.all goodWord = true := gz_all (w := Cond.code yX4_changesAt cX4_changesAt 3 (some .boolean)) rfl gwGA_727
theorem gwGA_725 : wtGA_725.all goodWord = true := gz_all (w := Cond.selects RX4 yX4_changesAt yX4_changesAt) rfl gwGA_726
theorem gwGA_724 : wtGA_724.all goodWord = true := gz_all (w := Cond.instanceMethod yX4_changesAt) rfl gwGA_725
theorem gwGA_723 : wtGA_723.all goodWord = true := gz_all (w := Cond.methodLink RX4 41 yX4_changesAt) rfl gwGA_724
theorem gwGA_722 : wtGA_722.all goodWord = true := gz_all (w := Cond.code yX4_changesOf cX4_changesOf 4 (some .int)) rfl gwGA_723
theorem gwGA_721 : wtGA_721.all goodWord = true := gz_all (w := Cond.selects RX4 yX4_changesOf yX4_changesOf) rfl gwGA_722
theorem gwGA_720 : wtGA_720.all goodWord = true := gz_all (w := Cond.instanceMethod yX4_changesOf) rfl gwGA_721
theorem gwGA_719 : wtGA_719.all goodWord = true := gz_all (w := Cond.methodLink RX11 365 yX4_changesOf) rfl gwGA_720
theorem gwGA_718 : wtGA_718.all goodWord = true := gz_all (w := Cond.methodLink RX0 121 Lib.Math.min.name) rfl gwGA_719
theorem gwGA_717 : wtGA_717.all goodWord = true := gz_all (w := Cond.code yX0_newsBehind cX0_newsBehind 4 (some .int)) rfl gwGA_718
theorem gwGA_716 : wtGA_716.all goodWord = true := gz_all (w := Cond.selects RX0 yX0_newsBehind yX0_newsBehind) rfl gwGA_717
theorem gwGA_715 : wtGA_715.all goodWord = true := gz_all (w := Cond.instanceMethod yX0_newsBehind) rfl gwGA_716
theorem gwGA_714 : wtGA_714.all goodWord = true := gz_all (w := Cond.methodLink RX4 35 yX0_newsBehind) rfl gwGA_715
theorem gwGA_713 : wtGA_713.all goodWord = true := gz_all (w := Cond.methodLink RX4 22 yX1_judge) rfl gwGA_714
theorem gwGA_712 : wtGA_712.all goodWord = true := gz_all (w := Cond.initialized "java/lang/System") rfl gwGA_713
theorem gwGA_711 : wtGA_711.all goodWord = true := gz_all (w := Cond.static arraycopyName) rfl gwGA_712
theorem gwGA_710 : wtGA_710.all goodWord = true := gz_all (w := Cond.native arraycopyName) rfl gwGA_711
theorem gwGA_709 : wtGA_709.all goodWord = true := gz_all (w := Cond.methodLink RX4 29 arraycopyName) rfl gwGA_710
theorem gwGA_708 : wtGA_708.all goodWord = true := gz_all (w := Cond.fieldLink RX4 28 "SightedMonths$Court" "begins" "[I") rfl gwGA_709
theorem gwGA_707 : wtGA_707.all goodWord = true := gz_all (w := Cond.code yX4_fill cX4_fill 4 none) rfl gwGA_708
theorem gwGA_706 : wtGA_706.all goodWord = true := gz_all (w := Cond.selects RX4 yX4_fill yX4_fill) rfl gwGA_707
theorem gwGA_705 : wtGA_705.all goodWord = true := gz_all (w := Cond.instanceMethod yX4_fill) rfl gwGA_706
theorem gwGA_704 : wtGA_704.all goodWord = true := gz_all (w := Cond.methodLink RX11 409 yX4_fill) rfl gwGA_705
theorem gwGA_703 : wtGA_703.all goodWord = true := gz_all (w := Cond.code yX11_historyNow cX11_historyNow 1 (some (.object "SightedMonths$History"))) rfl gwGA_704
theorem gwGA_702 : wtGA_702.all goodWord = true := gz_all (w := Cond.selects RX11 yX11_historyNow yX11_historyNow) rfl gwGA_703
theorem gwGA_701 : wtGA_701.all goodWord = true := gz_all (w := Cond.instanceMethod yX11_historyNow) rfl gwGA_702
theorem gwGA_700 : wtGA_700.all goodWord = true := gz_all (w := Cond.methodLink RX11 361 yX11_historyNow) rfl gwGA_701
theorem gwGA_699 : wtGA_699.all goodWord = true := gz_all (w := Cond.code yX11_shifts cX11_shifts 2 (some .int)) rfl gwGA_700
theorem gwGA_698 : wtGA_698.all goodWord = true := gz_all (w := Cond.selects RX11 yX11_shifts yX11_shifts) rfl gwGA_699
theorem gwGA_697 : wtGA_697.all goodWord = true := gz_all (w := Cond.instanceMethod yX11_shifts) rfl gwGA_698
theorem gwGA_696 : wtGA_696.all goodWord = true := gz_all (w := Cond.code yX11_moved cX11_moved 5 (some .int)) rfl gwGA_697
theorem gwGA_695 : wtGA_695.all goodWord = true := gz_all (w := Cond.selects RX11 yX11_moved yX11_moved) rfl gwGA_696
theorem gwGA_694 : wtGA_694.all goodWord = true := gz_all (w := Cond.instanceMethod yX11_moved) rfl gwGA_695
theorem gwGA_693 : wtGA_693.all goodWord = true := gz_all (w := Cond.methodLink RX11 308 yX11_dayOf) rfl gwGA_694
theorem gwGA_692 : wtGA_692.all goodWord = true := gz_all (w := Cond.code yX11_likely cX11_likely 9 (some .int)) rfl gwGA_693
theorem gwGA_691 : wtGA_691.all goodWord = true := gz_all (w := Cond.selects RX11 yX11_likely yX11_likely) rfl gwGA_692
theorem gwGA_690 : wtGA_690.all goodWord = true := gz_all (w := Cond.instanceMethod yX11_likely) rfl gwGA_691
theorem gwGA_689 : wtGA_689.all goodWord = true := gz_all (w := Cond.code yX9_dated cX9_dated 7 (some .int)) rfl gwGA_690
theorem gwGA_688 : wtGA_688.all goodWord = true := gz_all (w := Cond.selects RX9 yX9_dated yX9_dated) rfl gwGA_689
theorem gwGA_687 : wtGA_687.all goodWord = true := gz_all (w := Cond.instanceMethod yX9_dated) rfl gwGA_688
theorem gwGA_686 : wtGA_686.all goodWord = true := gz_all (w := Cond.methodLink RX11 304 yX9_dated) rfl gwGA_687
theorem gwGA_685 : wtGA_685.all goodWord = true := gz_all (w := Cond.code yX11_dates cX11_dates 7 (some .int)) rfl gwGA_686
theorem gwGA_684 : wtGA_684.all goodWord = true := gz_all (w := Cond.selects RX11 yX11_dates yX11_dates) rfl gwGA_685
theorem gwGA_683 : wtGA_683.all goodWord = true := gz_all (w := Cond.instanceMethod yX11_dates) rfl gwGA_684
theorem gwGA_682 : wtGA_682.all goodWord = true := gz_all (w := Cond.code yX11_date cX11_date 5 (some .int)) rfl gwGA_683
theorem gwGA_681 : wtGA_681.all goodWord = true := gz_all (w := Cond.selects RX11 yX11_date yX11_date) rfl gwGA_682
theorem gwGA_680 : wtGA_680.all goodWord = true := gz_all (w := Cond.instanceMethod yX11_date) rfl gwGA_681
theorem gwGA_679 : wtGA_679.all goodWord = true := gz_all (w := Cond.code yX11_offsetOf cX11_offsetOf 1 (some .int)) rfl gwGA_680
theorem gwGA_678 : wtGA_678.all goodWord = true := gz_all (w := Cond.static yX11_offsetOf) rfl gwGA_679
theorem gwGA_677 : wtGA_677.all goodWord = true := gz_all (w := Cond.methodLink RX11 320 yX11_offsetOf) rfl gwGA_678
theorem gwGA_676 : wtGA_676.all goodWord = true := gz_all (w := Cond.code yX11_anchorOf cX11_anchorOf 2 (some .int)) rfl gwGA_677
theorem gwGA_675 : wtGA_675.all goodWord = true := gz_all (w := Cond.static yX11_anchorOf) rfl gwGA_676
theorem gwGA_674 : wtGA_674.all goodWord = true := gz_all (w := Cond.methodLink RX11 317 yX11_anchorOf) rfl gwGA_675
theorem gwGA_673 : wtGA_673.all goodWord = true := gz_all (w := Cond.code yX11_hasDate cX11_hasDate 3 (some .boolean)) rfl gwGA_674
theorem gwGA_672 : wtGA_672.all goodWord = true := gz_all (w := Cond.selects RX11 yX11_hasDate yX11_hasDate) rfl gwGA_673
theorem gwGA_671 : wtGA_671.all goodWord = true := gz_all (w := Cond.instanceMethod yX11_hasDate) rfl gwGA_672
theorem gwGA_670 : wtGA_670.all goodWord = true := gz_all (w := Cond.methodLink RX11 314 yX11_hasDate) rfl gwGA_671
theorem gwGA_669 : wtGA_669.all goodWord = true := gz_all (w := Cond.code yX11_day cX11_day 4 (some .int)) rfl gwGA_670
theorem gwGA_668 : wtGA_668.all goodWord = true := gz_all (w := Cond.selects RX11 yX11_day yX11_day) rfl gwGA_669
theorem gwGA_667 : wtGA_667.all goodWord = true := gz_all (w := Cond.instanceMethod yX11_day) rfl gwGA_668
theorem gwGA_666 : wtGA_666.all goodWord = true := gz_all (w := Cond.constant RX11 303 (1103515245)) rfl gwGA_667
theorem gwGA_665 : wtGA_665.all goodWord = true := gz_all (w := Cond.code yX11_drawn cX11_drawn 5 (some .int)) rfl gwGA_666
theorem gwGA_664 : wtGA_664.all goodWord = true := gz_all (w := Cond.selects RX11 yX11_drawn yX11_drawn) rfl gwGA_665
theorem gwGA_663 : wtGA_663.all goodWord = true := gz_all (w := Cond.instanceMethod yX11_drawn) rfl gwGA_664
theorem gwGA_662 : wtGA_662.all goodWord = true := gz_all (w := Cond.code yX9_indexOf cX9_indexOf 6 (some .int)) rfl gwGA_663
theorem gwGA_661 : wtGA_661.all goodWord = true := gz_all (w := Cond.selects RX9 yX9_indexOf yX9_indexOf) rfl gwGA_662
theorem gwGA_660 : wtGA_660.all goodWord = true := gz_all (w := Cond.instanceMethod yX9_indexOf) rfl gwGA_661
theorem gwGA_659 : wtGA_659.all goodWord = true := gz_all (w := Cond.methodLink RX11 300 yX9_indexOf) rfl gwGA_660
theorem gwGA_658 : wtGA_658.all goodWord = true := gz_all (w := Cond.code yX11_rank cX11_rank 3 (some .int)) rfl gwGA_659
theorem gwGA_657 : wtGA_657.all goodWord = true := gz_all (w := Cond.selects RX11 yX11_rank yX11_rank) rfl gwGA_658
theorem gwGA_656 : wtGA_656.all goodWord = true := gz_all (w := Cond.instanceMethod yX11_rank) rfl gwGA_657
theorem gwGA_655 : wtGA_655.all goodWord = true := gz_all (w := Cond.code yX9_beginOf cX9_beginOf 8 (some .int)) rfl gwGA_656
theorem gwGA_654 : wtGA_654.all goodWord = true := gz_all (w := Cond.selects RX9 yX9_beginOf yX9_beginOf) rfl gwGA_655
theorem gwGA_653 : wtGA_653.all goodWord = true := gz_all (w := Cond.instanceMethod yX9_beginOf) rfl gwGA_654
theorem gwGA_652 : wtGA_652.all goodWord = true := gz_all (w := Cond.methodLink RX11 297 yX9_beginOf) rfl gwGA_653
theorem gwGA_651 : wtGA_651.all goodWord = true := gz_all (w := Cond.code yX11_ranked cX11_ranked 5 (some .int)) rfl gwGA_652
theorem gwGA_650 : wtGA_650.all goodWord = true := gz_all (w := Cond.selects RX11 yX11_ranked yX11_ranked) rfl gwGA_651
theorem gwGA_649 : wtGA_649.all goodWord = true := gz_all (w := Cond.instanceMethod yX11_ranked) rfl gwGA_650
theorem gwGA_648 : wtGA_648.all goodWord = true := gz_all (w := Cond.code yX9_leanIn cX9_leanIn 5 (some .int)) rfl gwGA_649
theorem gwGA_647 : wtGA_647.all goodWord = true := gz_all (w := Cond.selects RX9 yX9_leanIn yX9_leanIn) rfl gwGA_648
theorem gwGA_646 : wtGA_646.all goodWord = true := gz_all (w := Cond.instanceMethod yX9_leanIn) rfl gwGA_647
theorem gwGA_645 : wtGA_645.all goodWord = true := gz_all (w := Cond.methodLink RX11 294 yX9_leanIn) rfl gwGA_646
theorem gwGA_644 : wtGA_644.all goodWord = true := gz_all (w := Cond.code yX11_lean cX11_lean 3 (some .int)) rfl gwGA_645
theorem gwGA_643 : wtGA_643.all goodWord = true := gz_all (w := Cond.selects RX11 yX11_lean yX11_lean) rfl gwGA_644
theorem gwGA_642 : wtGA_642.all goodWord = true := gz_all (w := Cond.instanceMethod yX11_lean) rfl gwGA_643
theorem gwGA_641 : wtGA_641.all goodWord = true := gz_all (w := Cond.code yX9_onDay cX9_onDay 4 (some .int)) rfl gwGA_642
theorem gwGA_640 : wtGA_640.all goodWord = true := gz_all (w := Cond.selects RX9 yX9_onDay yX9_onDay) rfl gwGA_641
theorem gwGA_639 : wtGA_639.all goodWord = true := gz_all (w := Cond.instanceMethod yX9_onDay) rfl gwGA_640
theorem gwGA_638 : wtGA_638.all goodWord = true := gz_all (w := Cond.methodLink RX11 290 yX9_onDay) rfl gwGA_639
theorem gwGA_637 : wtGA_637.all goodWord = true := gz_all (w := Cond.code yX11_could cX11_could 4 (some .int)) rfl gwGA_638
theorem gwGA_636 : wtGA_636.all goodWord = true := gz_all (w := Cond.selects RX11 yX11_could yX11_could) rfl gwGA_637
theorem gwGA_635 : wtGA_635.all goodWord = true := gz_all (w := Cond.instanceMethod yX11_could) rfl gwGA_636
theorem gwGA_634 : wtGA_634.all goodWord = true := gz_all (w := Cond.code yX1_lengthOf cX1_lengthOf 2 (some .int)) rfl gwGA_635
theorem gwGA_633 : wtGA_633.all goodWord = true := gz_all (w := Cond.selects RX1 yX1_lengthOf yX1_lengthOf) rfl gwGA_634
theorem gwGA_632 : wtGA_632.all goodWord = true := gz_all (w := Cond.instanceMethod yX1_lengthOf) rfl gwGA_633
theorem gwGA_631 : wtGA_631.all goodWord = true := gz_all (w := Cond.methodLink RX11 358 yX1_lengthOf) rfl gwGA_632
theorem gwGA_630 : wtGA_630.all goodWord = true := gz_all (w := Cond.code yX11_lasts cX11_lasts 3 (some .int)) rfl gwGA_631
theorem gwGA_629 : wtGA_629.all goodWord = true := gz_all (w := Cond.selects RX11 yX11_lasts yX11_lasts) rfl gwGA_630
theorem gwGA_628 : wtGA_628.all goodWord = true := gz_all (w := Cond.instanceMethod yX11_lasts) rfl gwGA_629
theorem gwGA_627 : wtGA_627.all goodWord = true := gz_all (w := Cond.code yX11_sure cX11_sure 5 (some .int)) rfl gwGA_628
theorem gwGA_626 : wtGA_626.all goodWord = true := gz_all (w := Cond.selects RX11 yX11_sure yX11_sure) rfl gwGA_627
theorem gwGA_625 : wtGA_625.all goodWord = true := gz_all (w := Cond.instanceMethod yX11_sure) rfl gwGA_626
theorem gwGA_624 : wtGA_624.all goodWord = true := gz_all (w := Cond.code yX9_bound cX9_bound 5 (some .int)) rfl gwGA_625
theorem gwGA_623 : wtGA_623.all goodWord = true := gz_all (w := Cond.selects RX9 yX9_bound yX9_bound) rfl gwGA_624
theorem gwGA_622 : wtGA_622.all goodWord = true := gz_all (w := Cond.instanceMethod yX9_bound) rfl gwGA_623
theorem gwGA_621 : wtGA_621.all goodWord = true := gz_all (w := Cond.methodLink RX11 286 yX9_bound) rfl gwGA_622
theorem gwGA_620 : wtGA_620.all goodWord = true := gz_all (w := Cond.code yX11_isEither cX11_isEither 1 (some .boolean)) rfl gwGA_621
theorem gwGA_619 : wtGA_619.all goodWord = true := gz_all (w := Cond.static yX11_isEither) rfl gwGA_620
theorem gwGA_618 : wtGA_618.all goodWord = true := gz_all (w := Cond.methodLink RX11 283 yX11_isEither) rfl gwGA_619
theorem gwGA_617 : wtGA_617.all goodWord = true := gz_all (w := Cond.code yX11_span cX11_span 4 (some .int)) rfl gwGA_618
theorem gwGA_616 : wtGA_616.all goodWord = true := gz_all (w := Cond.selects RX11 yX11_span yX11_span) rfl gwGA_617
theorem gwGA_615 : wtGA_615.all goodWord = true := gz_all (w := Cond.instanceMethod yX11_span) rfl gwGA_616
theorem gwGA_614 : wtGA_614.all goodWord = true := gz_all (w := Cond.fieldLink RX11 258 "SightedMonths$Court" "begins" "[I") rfl gwGA_615
theorem gwGA_613 : wtGA_613.all goodWord = true := gz_all (w := Cond.code yX11_begin cX11_begin 3 (some .int)) rfl gwGA_614
theorem gwGA_612 : wtGA_612.all goodWord = true := gz_all (w := Cond.selects RX11 yX11_begin yX11_begin) rfl gwGA_613
theorem gwGA_611 : wtGA_611.all goodWord = true := gz_all (w := Cond.instanceMethod yX11_begin) rfl gwGA_612
theorem gwGA_610 : wtGA_610.all goodWord = true := gz_all (w := Cond.code yX9_total cX9_total 1 (some .int)) rfl gwGA_611
theorem gwGA_609 : wtGA_609.all goodWord = true := gz_all (w := Cond.selects RX9 yX9_total yX9_total) rfl gwGA_610
theorem gwGA_608 : wtGA_608.all goodWord = true := gz_all (w := Cond.instanceMethod yX9_total) rfl gwGA_609
theorem gwGA_607 : wtGA_607.all goodWord = true := gz_all (w := Cond.methodLink RX11 279 yX9_total) rfl gwGA_608
theorem gwGA_606 : wtGA_606.all goodWord = true := gz_all (w := Cond.code yX9_countStarts cX9_countStarts 6 none) rfl gwGA_607
theorem gwGA_605 : wtGA_605.all goodWord = true := gz_all (w := Cond.selects RX9 yX9_countStarts yX9_countStarts) rfl gwGA_606
theorem gwGA_604 : wtGA_604.all goodWord = true := gz_all (w := Cond.instanceMethod yX9_countStarts) rfl gwGA_605
theorem gwGA_603 : wtGA_603.all goodWord = true := gz_all (w := Cond.methodLink RX9 49 yX9_countStarts) rfl gwGA_604
theorem gwGA_602 : wtGA_602.all goodWord = true := gz_all (w := Cond.code yX9_withLean cX9_withLean 4 (some .int)) rfl gwGA_603
theorem gwGA_601 : wtGA_601.all goodWord = true := gz_all (w := Cond.selects RX9 yX9_withLean yX9_withLean) rfl gwGA_602
theorem gwGA_600 : wtGA_600.all goodWord = true := gz_all (w := Cond.instanceMethod yX9_withLean) rfl gwGA_601
theorem gwGA_599 : wtGA_599.all goodWord = true := gz_all (w := Cond.methodLink RX9 89 yX9_withLean) rfl gwGA_600
theorem gwGA_598 : wtGA_598.all goodWord = true := gz_all (w := Cond.code yX9_withFull cX9_withFull 4 (some .int)) rfl gwGA_599
theorem gwGA_597 : wtGA_597.all goodWord = true := gz_all (w := Cond.selects RX9 yX9_withFull yX9_withFull) rfl gwGA_598
theorem gwGA_596 : wtGA_596.all goodWord = true := gz_all (w := Cond.instanceMethod yX9_withFull) rfl gwGA_597
theorem gwGA_595 : wtGA_595.all goodWord = true := gz_all (w := Cond.methodLink RX9 86 yX9_withFull) rfl gwGA_596
theorem gwGA_594 : wtGA_594.all goodWord = true := gz_all (w := Cond.methodLink RX9 81 Lib.Math.min.name) rfl gwGA_595
theorem gwGA_593 : wtGA_593.all goodWord = true := gz_all (w := Cond.code yX9_countBehind cX9_countBehind 6 none) rfl gwGA_594
theorem gwGA_592 : wtGA_592.all goodWord = true := gz_all (w := Cond.selects RX9 yX9_countBehind yX9_countBehind) rfl gwGA_593
theorem gwGA_591 : wtGA_591.all goodWord = true := gz_all (w := Cond.instanceMethod yX9_countBehind) rfl gwGA_592
theorem gwGA_590 : wtGA_590.all goodWord = true := gz_all (w := Cond.methodLink RX9 46 yX9_countBehind) rfl gwGA_591
theorem gwGA_589 : wtGA_589.all goodWord = true := gz_all (w := Cond.code yX9_takeOnWithLean cX9_takeOnWithLean 7 none) rfl gwGA_590
theorem gwGA_588 : wtGA_588.all goodWord = true := gz_all (w := Cond.selects RX9 yX9_takeOnWithLean yX9_takeOnWithLean) rfl gwGA_589
theorem gwGA_587 : wtGA_587.all goodWord = true := gz_all (w := Cond.instanceMethod yX9_takeOnWithLean) rfl gwGA_588
theorem gwGA_586 : wtGA_586.all goodWord = true := gz_all (w := Cond.methodLink RX9 60 yX9_takeOnWithLean) rfl gwGA_587
theorem gwGA_585 : wtGA_585.all goodWord = true := gz_all (w := Cond.code yX11_cell cX11_cell 2 (some .int)) rfl gwGA_586
theorem gwGA_584 : wtGA_584.all goodWord = true := gz_all (w := Cond.static yX11_cell) rfl gwGA_585
theorem gwGA_583 : wtGA_583.all goodWord = true := gz_all (w := Cond.methodLink RX11 425 yX11_cell) rfl gwGA_584
theorem gwGA_582 : wtGA_582.all goodWord = true := gz_all (w := Cond.code yX11_spot cX11_spot 3 (some .int)) rfl gwGA_583
theorem gwGA_581 : wtGA_581.all goodWord = true := gz_all (w := Cond.static yX11_spot) rfl gwGA_582
theorem gwGA_580 : wtGA_580.all goodWord = true := gz_all (w := Cond.code yX9_takeOnWithFull cX9_takeOnWithFull 7 none) rfl gwGA_581
theorem gwGA_579 : wtGA_579.all goodWord = true := gz_all (w := Cond.selects RX9 yX9_takeOnWithFull yX9_takeOnWithFull) rfl gwGA_580
theorem gwGA_578 : wtGA_578.all goodWord = true := gz_all (w := Cond.instanceMethod yX9_takeOnWithFull) rfl gwGA_579
theorem gwGA_577 : wtGA_577.all goodWord = true := gz_all (w := Cond.methodLink RX9 56 yX9_takeOnWithFull) rfl gwGA_578
theorem gwGA_576 : wtGA_576.all goodWord = true := gz_all (w := Cond.code yX3_allows cX3_allows 3 (some .boolean)) rfl gwGA_577
theorem gwGA_575 : wtGA_575.all goodWord = true := gz_all (w := Cond.selects RX3 yX3_allows yX3_allows) rfl gwGA_576
theorem gwGA_574 : wtGA_574.all goodWord = true := gz_all (w := Cond.instanceMethod yX3_allows) rfl gwGA_575
theorem gwGA_573 : wtGA_573.all goodWord = true := gz_all (w := Cond.methodLink RX9 52 yX3_allows) rfl gwGA_574
theorem gwGA_572 : wtGA_572.all goodWord = true := gz_all (w := Cond.code yX9_countBefore cX9_countBefore 4 none) rfl gwGA_573
theorem gwGA_571 : wtGA_571.all goodWord = true := gz_all (w := Cond.selects RX9 yX9_countBefore yX9_countBefore) rfl gwGA_572
theorem gwGA_570 : wtGA_570.all goodWord = true := gz_all (w := Cond.instanceMethod yX9_countBefore) rfl gwGA_571
theorem gwGA_569 : wtGA_569.all goodWord = true := gz_all (w := Cond.methodLink RX9 42 yX9_countBefore) rfl gwGA_570
theorem gwGA_568 : wtGA_568.all goodWord = true := gz_all (w := Cond.code yJ7_fill_53178 cJ7_fill_53178 4 none) rfl gwGA_569
theorem gwGA_567 : wtGA_567.all goodWord = true := gz_all (w := Cond.initialized RJ7) rfl gwGA_568
theorem gwGA_566 : wtGA_566.all goodWord = true := gz_all (w := Cond.static yJ7_fill_53178) rfl gwGA_567
theorem gwGA_565 : wtGA_565.all goodWord = true := gz_all (w := Cond.methodLink RX9 36 yJ7_fill_53178) rfl gwGA_566
theorem gwGA_564 : wtGA_564.all goodWord = true := gz_all (w := Cond.fieldLink RX9 35 "SightedMonths$Tally" "lean" "I") rfl gwGA_565
theorem gwGA_563 : wtGA_563.all goodWord = true := gz_all (w := Cond.fieldLink RX9 32 "SightedMonths$Frame" "lean" "I") rfl gwGA_564
theorem gwGA_562 : wtGA_562.all goodWord = true := gz_all (w := Cond.fieldLink RX9 31 "SightedMonths$Tally" "full" "I") rfl gwGA_563
theorem gwGA_561 : wtGA_561.all goodWord = true := gz_all (w := Cond.fieldLink RX9 28 "SightedMonths$Frame" "full" "I") rfl gwGA_562
theorem gwGA_560 : wtGA_560.all goodWord = true := gz_all (w := Cond.fieldLink RX9 27 "SightedMonths$Tally" "months" "I") rfl gwGA_561
theorem gwGA_559 : wtGA_559.all goodWord = true := gz_all (w := Cond.fieldLink RX9 21 "SightedMonths$Frame" "months" "I") rfl gwGA_560
theorem gwGA_558 : wtGA_558.all goodWord = true := gz_all (w := Cond.code yX9_fill cX9_fill 2 none) rfl gwGA_559
theorem gwGA_557 : wtGA_557.all goodWord = true := gz_all (w := Cond.selects RX9 yX9_fill yX9_fill) rfl gwGA_558
theorem gwGA_556 : wtGA_556.all goodWord = true := gz_all (w := Cond.instanceMethod yX9_fill) rfl gwGA_557
theorem gwGA_555 : wtGA_555.all goodWord = true := gz_all (w := Cond.methodLink RX11 406 yX9_fill) rfl gwGA_556
theorem gwGA_554 : wtGA_554.all goodWord = true := gz_all (w := Cond.fieldLink RX11 338 "SightedMonths$Court" "frame" "LSightedMonths$Frame;") rfl gwGA_555
theorem gwGA_553 : wtGA_553.all goodWord = true := gz_all (w := Cond.code yX11_tallyBy cX11_tallyBy 3 (some (.object "SightedMonths$Tally"))) rfl gwGA_554
theorem gwGA_552 : wtGA_552.all goodWord = true := gz_all (w := Cond.selects RX11 yX11_tallyBy yX11_tallyBy) rfl gwGA_553
theorem gwGA_551 : wtGA_551.all goodWord = true := gz_all (w := Cond.instanceMethod yX11_tallyBy) rfl gwGA_552
theorem gwGA_550 : wtGA_550.all goodWord = true := gz_all (w := Cond.methodLink RX11 275 yX11_tallyBy) rfl gwGA_551
theorem gwGA_549 : wtGA_549.all goodWord = true := gz_all (w := Cond.code yX11_ways cX11_ways 2 (some .int)) rfl gwGA_550
theorem gwGA_548 : wtGA_548.all goodWord = true := gz_all (w := Cond.selects RX11 yX11_ways yX11_ways) rfl gwGA_549
theorem gwGA_547 : wtGA_547.all goodWord = true := gz_all (w := Cond.instanceMethod yX11_ways) rfl gwGA_548
theorem gwGA_546 : wtGA_546.all goodWord = true := gz_all (w := Cond.methodLink RX11 244 yX7_isKnownBy) rfl gwGA_547
theorem gwGA_545 : wtGA_545.all goodWord = true := gz_all (w := Cond.code yX11_blind cX11_blind 6 (some .int)) rfl gwGA_546
theorem gwGA_544 : wtGA_544.all goodWord = true := gz_all (w := Cond.selects RX11 yX11_blind yX11_blind) rfl gwGA_545
theorem gwGA_543 : wtGA_543.all goodWord = true := gz_all (w := Cond.instanceMethod yX11_blind) rfl gwGA_544
theorem gwGA_542 : wtGA_542.all goodWord = true := gz_all (w := Cond.methodLink RX11 415 yX3_fits) rfl gwGA_543
theorem gwGA_541 : wtGA_541.all goodWord = true := gz_all (w := Cond.methodLink RX11 412 yX3_narrow) rfl gwGA_542
theorem gwGA_540 : wtGA_540.all goodWord = true := gz_all (w := Cond.methodLink RX11 355 yX3_open) rfl gwGA_541
theorem gwGA_539 : wtGA_539.all goodWord = true := gz_all (w := Cond.code yX11_canBothBe cX11_canBothBe 3 (some .boolean)) rfl gwGA_540
theorem gwGA_538 : wtGA_538.all goodWord = true := gz_all (w := Cond.selects RX11 yX11_canBothBe yX11_canBothBe) rfl gwGA_539
theorem gwGA_537 : wtGA_537.all goodWord = true := gz_all (w := Cond.instanceMethod yX11_canBothBe) rfl gwGA_538
theorem gwGA_536 : wtGA_536.all goodWord = true := gz_all (w := Cond.methodLink RX11 240 yX11_canBothBe) rfl gwGA_537
theorem gwGA_535 : wtGA_535.all goodWord = true := gz_all (w := Cond.code yX11_against cX11_against 6 (some .int)) rfl gwGA_536
theorem gwGA_534 : wtGA_534.all goodWord = true := gz_all (w := Cond.selects RX11 yX11_against yX11_against) rfl gwGA_535
theorem gwGA_533 : wtGA_533.all goodWord = true := gz_all (w := Cond.instanceMethod yX11_against) rfl gwGA_534
theorem gwGA_532 : wtGA_532.all goodWord = true := gz_all (w := Cond.fieldLink RX11 237 "SightedMonths$Court" "queue" "[I") rfl gwGA_533
theorem gwGA_531 : wtGA_531.all goodWord = true := gz_all (w := Cond.fieldLink RX11 234 "SightedMonths$Court" "queueLength" "I") rfl gwGA_532
theorem gwGA_530 : wtGA_530.all goodWord = true := gz_all (w := Cond.code yX11_order cX11_order 4 (some .int)) rfl gwGA_531
theorem gwGA_529 : wtGA_529.all goodWord = true := gz_all (w := Cond.selects RX11 yX11_order yX11_order) rfl gwGA_530
theorem gwGA_528 : wtGA_528.all goodWord = true := gz_all (w := Cond.instanceMethod yX11_order) rfl gwGA_529
theorem gwGA_527 : wtGA_527.all goodWord = true := gz_all (w := Cond.constant RJ6 267 (252645135)) rfl gwGA_528
theorem gwGA_526 : wtGA_526.all goodWord = true := gz_all (w := Cond.constant RJ6 266 (858993459)) rfl gwGA_527
theorem gwGA_525 : wtGA_525.all goodWord = true := gz_all (w := Cond.constant RJ6 265 (1431655765)) rfl gwGA_526
theorem gwGA_524 : wtGA_524.all goodWord = true := gz_all (w := Cond.code yJ6_bitCount_0f7a4 cJ6_bitCount_0f7a4 1 (some .int)) rfl gwGA_525
theorem gwGA_523 : wtGA_523.all goodWord = true := gz_all (w := Cond.initialized RJ6) rfl gwGA_524
theorem gwGA_522 : wtGA_522.all goodWord = true := gz_all (w := Cond.static yJ6_bitCount_0f7a4) rfl gwGA_523
theorem gwGA_521 : wtGA_521.all goodWord = true := gz_all (w := Cond.methodLink RX11 229 yJ6_bitCount_0f7a4) rfl gwGA_522
theorem gwGA_520 : wtGA_520.all goodWord = true := gz_all (w := Cond.fieldLink RX11 226 "SightedMonths$Court" "takenBits" "I") rfl gwGA_521
theorem gwGA_519 : wtGA_519.all goodWord = true := gz_all (w := Cond.code yX11_taken cX11_taken 2 (some .int)) rfl gwGA_520
theorem gwGA_518 : wtGA_518.all goodWord = true := gz_all (w := Cond.selects RX11 yX11_taken yX11_taken) rfl gwGA_519
theorem gwGA_517 : wtGA_517.all goodWord = true := gz_all (w := Cond.instanceMethod yX11_taken) rfl gwGA_518
theorem gwGA_516 : wtGA_516.all goodWord = true := gz_all (w := Cond.code yX11_dayOf cX11_dayOf 2 (some .int)) rfl gwGA_517
theorem gwGA_515 : wtGA_515.all goodWord = true := gz_all (w := Cond.static yX11_dayOf) rfl gwGA_516
theorem gwGA_514 : wtGA_514.all goodWord = true := gz_all (w := Cond.code yX3_beginsInto cX3_beginsInto 6 none) rfl gwGA_515
theorem gwGA_513 : wtGA_513.all goodWord = true := gz_all (w := Cond.selects RX3 yX3_beginsInto yX3_beginsInto) rfl gwGA_514
theorem gwGA_512 : wtGA_512.all goodWord = true := gz_all (w := Cond.instanceMethod yX3_beginsInto) rfl gwGA_513
theorem gwGA_511 : wtGA_511.all goodWord = true := gz_all (w := Cond.methodLink RX1 61 yX3_beginsInto) rfl gwGA_512
theorem gwGA_510 : wtGA_510.all goodWord = true := gz_all (w := Cond.code yX11_runWithLean cX11_runWithLean 3 (some .int)) rfl gwGA_511
theorem gwGA_509 : wtGA_509.all goodWord = true := gz_all (w := Cond.static yX11_runWithLean) rfl gwGA_510
theorem gwGA_508 : wtGA_508.all goodWord = true := gz_all (w := Cond.code yX11_runWithFull cX11_runWithFull 2 (some .int)) rfl gwGA_509
theorem gwGA_507 : wtGA_507.all goodWord = true := gz_all (w := Cond.static yX11_runWithFull) rfl gwGA_508
theorem gwGA_506 : wtGA_506.all goodWord = true := gz_all (w := Cond.code yX11_lastRun cX11_lastRun 3 (some .int)) rfl gwGA_507
theorem gwGA_505 : wtGA_505.all goodWord = true := gz_all (w := Cond.static yX11_lastRun) rfl gwGA_506
theorem gwGA_504 : wtGA_504.all goodWord = true := gz_all (w := Cond.code yX11_firstRun cX11_firstRun 1 (some .int)) rfl gwGA_505
theorem gwGA_503 : wtGA_503.all goodWord = true := gz_all (w := Cond.static yX11_firstRun) rfl gwGA_504
theorem gwGA_502 : wtGA_502.all goodWord = true := gz_all (w := Cond.code yX3_fits cX3_fits 6 (some .boolean)) rfl gwGA_503
theorem gwGA_501 : wtGA_501.all goodWord = true := gz_all (w := Cond.selects RX3 yX3_fits yX3_fits) rfl gwGA_502
theorem gwGA_500 : wtGA_500.all goodWord = true := gz_all (w := Cond.instanceMethod yX3_fits) rfl gwGA_501
theorem gwGA_499 : wtGA_499.all goodWord = true := gz_all (w := Cond.methodLink RX1 57 yX3_fits) rfl gwGA_500
theorem gwGA_498 : wtGA_498.all goodWord = true := gz_all (w := Cond.fieldLink RX3 41 "SightedMonths$Report" "kind" "I") rfl gwGA_499
theorem gwGA_497 : wtGA_497.all goodWord = true := gz_all (w := Cond.fieldLink RX3 38 "SightedMonths$Report" "day" "I") rfl gwGA_498
theorem gwGA_496 : wtGA_496.all goodWord = true := gz_all (w := Cond.code yX3_rightFor cX3_rightFor 3 (some .int)) rfl gwGA_497
theorem gwGA_495 : wtGA_495.all goodWord = true := gz_all (w := Cond.static yX3_rightFor) rfl gwGA_496
theorem gwGA_494 : wtGA_494.all goodWord = true := gz_all (w := Cond.methodLink RX3 44 yX3_rightFor) rfl gwGA_495
theorem gwGA_493 : wtGA_493.all goodWord = true := gz_all (w := Cond.fieldLink RX3 33 "SightedMonths$Report" "month" "I") rfl gwGA_494
theorem gwGA_492 : wtGA_492.all goodWord = true := gz_all (w := Cond.code yX3_narrow cX3_narrow 2 none) rfl gwGA_493
theorem gwGA_491 : wtGA_491.all goodWord = true := gz_all (w := Cond.selects RX3 yX3_narrow yX3_narrow) rfl gwGA_492
theorem gwGA_490 : wtGA_490.all goodWord = true := gz_all (w := Cond.instanceMethod yX3_narrow) rfl gwGA_491
theorem gwGA_489 : wtGA_489.all goodWord = true := gz_all (w := Cond.methodLink RX1 125 yX3_narrow) rfl gwGA_490
theorem gwGA_488 : wtGA_488.all goodWord = true := gz_all (w := Cond.methodLink RX1 118 yX0_earlyOf) rfl gwGA_489
theorem gwGA_487 : wtGA_487.all goodWord = true := gz_all (w := Cond.fieldLink RX1 122 "SightedMonths$Frame" "allowed" "[I") rfl gwGA_488
theorem gwGA_486 : wtGA_486.all goodWord = true := gz_all (w := Cond.fieldLink RX1 114 "SightedMonths$Almanac" "hasMoon" "Z") rfl gwGA_487
theorem gwGA_485 : wtGA_485.all goodWord = true := gz_all (w := Cond.code yX1_verdictOn cX1_verdictOn 5 (some .int)) rfl gwGA_486
theorem gwGA_484 : wtGA_484.all goodWord = true := gz_all (w := Cond.selects RX1 yX1_verdictOn yX1_verdictOn) rfl gwGA_485
theorem gwGA_483 : wtGA_483.all goodWord = true := gz_all (w := Cond.instanceMethod yX1_verdictOn) rfl gwGA_484
theorem gwGA_482 : wtGA_482.all goodWord = true := gz_all (w := Cond.methodLink RX1 53 yX1_verdictOn) rfl gwGA_483
theorem gwGA_481 : wtGA_481.all goodWord = true := gz_all (w := Cond.fieldLink RX3 32 "SightedMonths$Frame" "lean" "I") rfl gwGA_482
theorem gwGA_480 : wtGA_480.all goodWord = true := gz_all (w := Cond.fieldLink RX3 29 "SightedMonths$Almanac" "lean" "I") rfl gwGA_481
theorem gwGA_479 : wtGA_479.all goodWord = true := gz_all (w := Cond.fieldLink RX3 28 "SightedMonths$Frame" "full" "I") rfl gwGA_480
theorem gwGA_478 : wtGA_478.all goodWord = true := gz_all (w := Cond.fieldLink RX3 25 "SightedMonths$Almanac" "full" "I") rfl gwGA_479
theorem gwGA_477 : wtGA_477.all goodWord = true := gz_all (w := Cond.fieldLink RX3 24 "SightedMonths$Frame" "months" "I") rfl gwGA_478
theorem gwGA_476 : wtGA_476.all goodWord = true := gz_all (w := Cond.fieldLink RX3 18 "SightedMonths$Almanac" "months" "I") rfl gwGA_477
theorem gwGA_475 : wtGA_475.all goodWord = true := gz_all (w := Cond.code yX3_open cX3_open 3 none) rfl gwGA_476
theorem gwGA_474 : wtGA_474.all goodWord = true := gz_all (w := Cond.selects RX3 yX3_open yX3_open) rfl gwGA_475
theorem gwGA_473 : wtGA_473.all goodWord = true := gz_all (w := Cond.instanceMethod yX3_open) rfl gwGA_474
theorem gwGA_472 : wtGA_472.all goodWord = true := gz_all (w := Cond.methodLink RX1 43 yX3_open) rfl gwGA_473
theorem gwGA_471 : wtGA_471.all goodWord = true := gz_all (w := Cond.code yX1_insert cX1_insert 5 none) rfl gwGA_472
theorem gwGA_470 : wtGA_470.all goodWord = true := gz_all (w := Cond.selects RX1 yX1_insert yX1_insert) rfl gwGA_471
theorem gwGA_469 : wtGA_469.all goodWord = true := gz_all (w := Cond.instanceMethod yX1_insert) rfl gwGA_470
theorem gwGA_468 : wtGA_468.all goodWord = true := gz_all (w := Cond.methodLink RX1 78 yX1_insert) rfl gwGA_469
theorem gwGA_467 : wtGA_467.all goodWord = true := gz_all (w := Cond.fieldLink RX1 111 "SightedMonths$Report" "kind" "I") rfl gwGA_468
theorem gwGA_466 : wtGA_466.all goodWord = true := gz_all (w := Cond.constantLong RX1 109 (3)) rfl gwGA_467
theorem gwGA_465 : wtGA_465.all goodWord = true := gz_all (w := Cond.fieldLink RX1 106 "SightedMonths$Report" "day" "I") rfl gwGA_466
theorem gwGA_464 : wtGA_464.all goodWord = true := gz_all (w := Cond.constantLong RX1 104 (1000)) rfl gwGA_465
theorem gwGA_463 : wtGA_463.all goodWord = true := gz_all (w := Cond.fieldLink RX1 101 "SightedMonths$Report" "month" "I") rfl gwGA_464
theorem gwGA_462 : wtGA_462.all goodWord = true := gz_all (w := Cond.constantLong RX1 99 (24)) rfl gwGA_463
theorem gwGA_461 : wtGA_461.all goodWord = true := gz_all (w := Cond.fieldLink RX1 96 "SightedMonths$Place" "name" "I") rfl gwGA_462
theorem gwGA_460 : wtGA_460.all goodWord = true := gz_all (w := Cond.constantLong RX1 94 (387420489)) rfl gwGA_461
theorem gwGA_459 : wtGA_459.all goodWord = true := gz_all (w := Cond.fieldLink RX1 89 "SightedMonths$Place" "trust" "I") rfl gwGA_460
theorem gwGA_458 : wtGA_458.all goodWord = true := gz_all (w := Cond.fieldLink RX1 86 "SightedMonths$Report" "place" "I") rfl gwGA_459
theorem gwGA_457 : wtGA_457.all goodWord = true := gz_all (w := Cond.fieldLink RX1 82 "SightedMonths$Almanac" "places" "[LSightedMonths$Place;") rfl gwGA_458
theorem gwGA_456 : wtGA_456.all goodWord = true := gz_all (w := Cond.code yX1_turnOf cX1_turnOf 6 (some .long)) rfl gwGA_457
theorem gwGA_455 : wtGA_455.all goodWord = true := gz_all (w := Cond.static yX1_turnOf) rfl gwGA_456
theorem gwGA_454 : wtGA_454.all goodWord = true := gz_all (w := Cond.methodLink RX1 74 yX1_turnOf) rfl gwGA_455
theorem gwGA_453 : wtGA_453.all goodWord = true := gz_all (w := Cond.methodLink RX1 68 yX7_isKnownBy) rfl gwGA_454
theorem gwGA_452 : wtGA_452.all goodWord = true := gz_all (w := Cond.fieldLink RX1 65 "SightedMonths$Almanac" "reportCount" "I") rfl gwGA_453
theorem gwGA_451 : wtGA_451.all goodWord = true := gz_all (w := Cond.code yX1_lineUp cX1_lineUp 4 none) rfl gwGA_452
theorem gwGA_450 : wtGA_450.all goodWord = true := gz_all (w := Cond.selects RX1 yX1_lineUp yX1_lineUp) rfl gwGA_451
theorem gwGA_449 : wtGA_449.all goodWord = true := gz_all (w := Cond.instanceMethod yX1_lineUp) rfl gwGA_450
theorem gwGA_448 : wtGA_448.all goodWord = true := gz_all (w := Cond.methodLink RX1 39 yX1_lineUp) rfl gwGA_449
theorem gwGA_447 : wtGA_447.all goodWord = true := gz_all (w := Cond.fieldLink RX1 47 "SightedMonths$Almanac" "reports" "[LSightedMonths$Report;") rfl gwGA_448
theorem gwGA_446 : wtGA_446.all goodWord = true := gz_all (w := Cond.code yX1_judge cX1_judge 5 none) rfl gwGA_447
theorem gwGA_445 : wtGA_445.all goodWord = true := gz_all (w := Cond.selects RX1 yX1_judge yX1_judge) rfl gwGA_446
theorem gwGA_444 : wtGA_444.all goodWord = true := gz_all (w := Cond.instanceMethod yX1_judge) rfl gwGA_445
theorem gwGA_443 : wtGA_443.all goodWord = true := gz_all (w := Cond.methodLink RX11 254 yX1_judge) rfl gwGA_444
theorem gwGA_442 : wtGA_442.all goodWord = true := gz_all (w := Cond.fieldLink RX7 13 "SightedMonths$Report" "known" "I") rfl gwGA_443
theorem gwGA_441 : wtGA_441.all goodWord = true := gz_all (w := Cond.fieldLink RX7 7 "SightedMonths$Report" "struck" "Z") rfl gwGA_442
theorem gwGA_440 : wtGA_440.all goodWord = true := gz_all (w := Cond.code yX7_isKnownBy cX7_isKnownBy 2 (some .boolean)) rfl gwGA_441
theorem gwGA_439 : wtGA_439.all goodWord = true := gz_all (w := Cond.selects RX7 yX7_isKnownBy yX7_isKnownBy) rfl gwGA_440
theorem gwGA_438 : wtGA_438.all goodWord = true := gz_all (w := Cond.instanceMethod yX7_isKnownBy) rfl gwGA_439
theorem gwGA_437 : wtGA_437.all goodWord = true := gz_all (w := Cond.methodLink RX0 111 yX7_isKnownBy) rfl gwGA_438
theorem gwGA_436 : wtGA_436.all goodWord = true := gz_all (w := Cond.methodLink RX0 115 Lib.Math.max.name) rfl gwGA_437
theorem gwGA_435 : wtGA_435.all goodWord = true := gz_all (w := Cond.code yX0_latestNews cX0_latestNews 4 (some .int)) rfl gwGA_436
theorem gwGA_434 : wtGA_434.all goodWord = true := gz_all (w := Cond.selects RX0 yX0_latestNews yX0_latestNews) rfl gwGA_435
theorem gwGA_433 : wtGA_433.all goodWord = true := gz_all (w := Cond.instanceMethod yX0_latestNews) rfl gwGA_434
theorem gwGA_432 : wtGA_432.all goodWord = true := gz_all (w := Cond.methodLink RX11 403 yX0_latestNews) rfl gwGA_433
theorem gwGA_431 : wtGA_431.all goodWord = true := gz_all (w := Cond.code yX11_courtBy cX11_courtBy 3 (some (.object "SightedMonths$Court"))) rfl gwGA_432
theorem gwGA_430 : wtGA_430.all goodWord = true := gz_all (w := Cond.selects RX11 yX11_courtBy yX11_courtBy) rfl gwGA_431
theorem gwGA_429 : wtGA_429.all goodWord = true := gz_all (w := Cond.instanceMethod yX11_courtBy) rfl gwGA_430
theorem gwGA_428 : wtGA_428.all goodWord = true := gz_all (w := Cond.methodLink RX11 219 yX11_courtBy) rfl gwGA_429
theorem gwGA_427 : wtGA_427.all goodWord = true := gz_all (w := Cond.code yX11_hasTime cX11_hasTime 2 (some .boolean)) rfl gwGA_428
theorem gwGA_426 : wtGA_426.all goodWord = true := gz_all (w := Cond.selects RX11 yX11_hasTime yX11_hasTime) rfl gwGA_427
theorem gwGA_425 : wtGA_425.all goodWord = true := gz_all (w := Cond.instanceMethod yX11_hasTime) rfl gwGA_426
theorem gwGA_424 : wtGA_424.all goodWord = true := gz_all (w := Cond.methodLink RX11 216 yX11_hasTime) rfl gwGA_425
theorem gwGA_423 : wtGA_423.all goodWord = true := gz_all (w := Cond.fieldLink RX11 223 "SightedMonths$Court" "verdicts" "[I") rfl gwGA_424
theorem gwGA_422 : wtGA_422.all goodWord = true := gz_all (w := Cond.code yX11_judged cX11_judged 3 (some .int)) rfl gwGA_423
theorem gwGA_421 : wtGA_421.all goodWord = true := gz_all (w := Cond.selects RX11 yX11_judged yX11_judged) rfl gwGA_422
theorem gwGA_420 : wtGA_420.all goodWord = true := gz_all (w := Cond.instanceMethod yX11_judged) rfl gwGA_421
theorem gwGA_419 : wtGA_419.all goodWord = true := gz_all (w := Cond.code yX0_earlyOf cX0_earlyOf 2 (some .int)) rfl gwGA_420
theorem gwGA_418 : wtGA_418.all goodWord = true := gz_all (w := Cond.selects RX0 yX0_earlyOf yX0_earlyOf) rfl gwGA_419
theorem gwGA_417 : wtGA_417.all goodWord = true := gz_all (w := Cond.instanceMethod yX0_earlyOf) rfl gwGA_418
theorem gwGA_416 : wtGA_416.all goodWord = true := gz_all (w := Cond.methodLink RX11 213 yX0_earlyOf) rfl gwGA_417
theorem gwGA_415 : wtGA_415.all goodWord = true := gz_all (w := Cond.code yX11_isTold cX11_isTold 1 (some .boolean)) rfl gwGA_416
theorem gwGA_414 : wtGA_414.all goodWord = true := gz_all (w := Cond.selects RX11 yX11_isTold yX11_isTold) rfl gwGA_415
theorem gwGA_413 : wtGA_413.all goodWord = true := gz_all (w := Cond.instanceMethod yX11_isTold) rfl gwGA_414
theorem gwGA_412 : wtGA_412.all goodWord = true := gz_all (w := Cond.methodLink RX11 395 yX11_isTold) rfl gwGA_413
theorem gwGA_411 : wtGA_411.all goodWord = true := gz_all (w := Cond.code yX11_hasMonth cX11_hasMonth 4 (some .boolean)) rfl gwGA_412
theorem gwGA_410 : wtGA_410.all goodWord = true := gz_all (w := Cond.selects RX11 yX11_hasMonth yX11_hasMonth) rfl gwGA_411
theorem gwGA_409 : wtGA_409.all goodWord = true := gz_all (w := Cond.instanceMethod yX11_hasMonth) rfl gwGA_410
theorem gwGA_408 : wtGA_408.all goodWord = true := gz_all (w := Cond.methodLink RX11 209 yX11_hasMonth) rfl gwGA_409
theorem gwGA_407 : wtGA_407.all goodWord = true := gz_all (w := Cond.fieldLink RX11 206 "SightedMonths$Almanac" "hasMoon" "Z") rfl gwGA_408
theorem gwGA_406 : wtGA_406.all goodWord = true := gz_all (w := Cond.code yX11_early cX11_early 2 (some .int)) rfl gwGA_407
theorem gwGA_405 : wtGA_405.all goodWord = true := gz_all (w := Cond.selects RX11 yX11_early yX11_early) rfl gwGA_406
theorem gwGA_404 : wtGA_404.all goodWord = true := gz_all (w := Cond.instanceMethod yX11_early) rfl gwGA_405
theorem gwGA_403 : wtGA_403.all goodWord = true := gz_all (w := Cond.code yX11_hasDeed cX11_hasDeed 2 (some .boolean)) rfl gwGA_404
theorem gwGA_402 : wtGA_402.all goodWord = true := gz_all (w := Cond.selects RX11 yX11_hasDeed yX11_hasDeed) rfl gwGA_403
theorem gwGA_401 : wtGA_401.all goodWord = true := gz_all (w := Cond.instanceMethod yX11_hasDeed) rfl gwGA_402
theorem gwGA_400 : wtGA_400.all goodWord = true := gz_all (w := Cond.methodLink RX11 191 yX11_hasDeed) rfl gwGA_401
theorem gwGA_399 : wtGA_399.all goodWord = true := gz_all (w := Cond.fieldLink RX11 203 "SightedMonths$Deed" "inDays" "Z") rfl gwGA_400
theorem gwGA_398 : wtGA_398.all goodWord = true := gz_all (w := Cond.fieldLink RX11 202 "SightedMonths$Deed" "length" "I") rfl gwGA_399
theorem gwGA_397 : wtGA_397.all goodWord = true := gz_all (w := Cond.fieldLink RX11 201 "SightedMonths$Deed" "day" "I") rfl gwGA_398
theorem gwGA_396 : wtGA_396.all goodWord = true := gz_all (w := Cond.fieldLink RX11 198 "SightedMonths$Deed" "month" "I") rfl gwGA_397
theorem gwGA_395 : wtGA_395.all goodWord = true := gz_all (w := Cond.fieldLink RX11 194 "SightedMonths$Almanac" "deeds" "[LSightedMonths$Deed;") rfl gwGA_396
theorem gwGA_394 : wtGA_394.all goodWord = true := gz_all (w := Cond.code yX11_deed cX11_deed 4 (some .int)) rfl gwGA_395
theorem gwGA_393 : wtGA_393.all goodWord = true := gz_all (w := Cond.selects RX11 yX11_deed yX11_deed) rfl gwGA_394
theorem gwGA_392 : wtGA_392.all goodWord = true := gz_all (w := Cond.instanceMethod yX11_deed) rfl gwGA_393
theorem gwGA_391 : wtGA_391.all goodWord = true := gz_all (w := Cond.code yX11_hasReport cX11_hasReport 2 (some .boolean)) rfl gwGA_392
theorem gwGA_390 : wtGA_390.all goodWord = true := gz_all (w := Cond.selects RX11 yX11_hasReport yX11_hasReport) rfl gwGA_391
theorem gwGA_389 : wtGA_389.all goodWord = true := gz_all (w := Cond.instanceMethod yX11_hasReport) rfl gwGA_390
theorem gwGA_388 : wtGA_388.all goodWord = true := gz_all (w := Cond.methodLink RX11 164 yX11_hasReport) rfl gwGA_389
theorem gwGA_387 : wtGA_387.all goodWord = true := gz_all (w := Cond.fieldLink RX11 188 "SightedMonths$Report" "known" "I") rfl gwGA_388
theorem gwGA_386 : wtGA_386.all goodWord = true := gz_all (w := Cond.fieldLink RX11 185 "SightedMonths$Report" "day" "I") rfl gwGA_387
theorem gwGA_385 : wtGA_385.all goodWord = true := gz_all (w := Cond.fieldLink RX11 182 "SightedMonths$Report" "month" "I") rfl gwGA_386
theorem gwGA_384 : wtGA_384.all goodWord = true := gz_all (w := Cond.fieldLink RX11 179 "SightedMonths$Report" "kind" "I") rfl gwGA_385
theorem gwGA_383 : wtGA_383.all goodWord = true := gz_all (w := Cond.fieldLink RX11 176 "SightedMonths$Report" "struck" "Z") rfl gwGA_384
theorem gwGA_382 : wtGA_382.all goodWord = true := gz_all (w := Cond.fieldLink RX11 171 "SightedMonths$Report" "place" "I") rfl gwGA_383
theorem gwGA_381 : wtGA_381.all goodWord = true := gz_all (w := Cond.fieldLink RX11 167 "SightedMonths$Almanac" "reports" "[LSightedMonths$Report;") rfl gwGA_382
theorem gwGA_380 : wtGA_380.all goodWord = true := gz_all (w := Cond.code yX11_report cX11_report 4 (some .int)) rfl gwGA_381
theorem gwGA_379 : wtGA_379.all goodWord = true := gz_all (w := Cond.selects RX11 yX11_report yX11_report) rfl gwGA_380
theorem gwGA_378 : wtGA_378.all goodWord = true := gz_all (w := Cond.instanceMethod yX11_report) rfl gwGA_379
theorem gwGA_377 : wtGA_377.all goodWord = true := gz_all (w := Cond.code yX0_standingOf cX0_standingOf 4 (some .int)) rfl gwGA_378
theorem gwGA_376 : wtGA_376.all goodWord = true := gz_all (w := Cond.selects RX0 yX0_standingOf yX0_standingOf) rfl gwGA_377
theorem gwGA_375 : wtGA_375.all goodWord = true := gz_all (w := Cond.instanceMethod yX0_standingOf) rfl gwGA_376
theorem gwGA_374 : wtGA_374.all goodWord = true := gz_all (w := Cond.methodLink RX11 161 yX0_standingOf) rfl gwGA_375
theorem gwGA_373 : wtGA_373.all goodWord = true := gz_all (w := Cond.code yX0_namesAhead cX0_namesAhead 4 (some .int)) rfl gwGA_374
theorem gwGA_372 : wtGA_372.all goodWord = true := gz_all (w := Cond.selects RX0 yX0_namesAhead yX0_namesAhead) rfl gwGA_373
theorem gwGA_371 : wtGA_371.all goodWord = true := gz_all (w := Cond.instanceMethod yX0_namesAhead) rfl gwGA_372
theorem gwGA_370 : wtGA_370.all goodWord = true := gz_all (w := Cond.methodLink RX11 157 yX0_namesAhead) rfl gwGA_371
theorem gwGA_369 : wtGA_369.all goodWord = true := gz_all (w := Cond.code yX11_hasPlace cX11_hasPlace 2 (some .boolean)) rfl gwGA_370
theorem gwGA_368 : wtGA_368.all goodWord = true := gz_all (w := Cond.selects RX11 yX11_hasPlace yX11_hasPlace) rfl gwGA_369
theorem gwGA_367 : wtGA_367.all goodWord = true := gz_all (w := Cond.instanceMethod yX11_hasPlace) rfl gwGA_368
theorem gwGA_366 : wtGA_366.all goodWord = true := gz_all (w := Cond.methodLink RX11 144 yX11_hasPlace) rfl gwGA_367
theorem gwGA_365 : wtGA_365.all goodWord = true := gz_all (w := Cond.fieldLink RX11 152 "SightedMonths$Place" "trust" "I") rfl gwGA_366
theorem gwGA_364 : wtGA_364.all goodWord = true := gz_all (w := Cond.fieldLink RX11 148 "SightedMonths$Almanac" "places" "[LSightedMonths$Place;") rfl gwGA_365
theorem gwGA_363 : wtGA_363.all goodWord = true := gz_all (w := Cond.code yX11_place cX11_place 3 (some .int)) rfl gwGA_364
theorem gwGA_362 : wtGA_362.all goodWord = true := gz_all (w := Cond.selects RX11 yX11_place yX11_place) rfl gwGA_363
theorem gwGA_361 : wtGA_361.all goodWord = true := gz_all (w := Cond.instanceMethod yX11_place) rfl gwGA_362
theorem gwGA_360 : wtGA_360.all goodWord = true := gz_all (w := Cond.fieldLink RX11 141 "SightedMonths$Almanac" "moonStep" "I") rfl gwGA_361
theorem gwGA_359 : wtGA_359.all goodWord = true := gz_all (w := Cond.fieldLink RX11 138 "SightedMonths$Almanac" "moonStart" "I") rfl gwGA_360
theorem gwGA_358 : wtGA_358.all goodWord = true := gz_all (w := Cond.fieldLink RX11 135 "SightedMonths$Almanac" "deedCount" "I") rfl gwGA_359
theorem gwGA_357 : wtGA_357.all goodWord = true := gz_all (w := Cond.fieldLink RX11 132 "SightedMonths$Almanac" "reportCount" "I") rfl gwGA_358
theorem gwGA_356 : wtGA_356.all goodWord = true := gz_all (w := Cond.fieldLink RX11 129 "SightedMonths$Almanac" "placeCount" "I") rfl gwGA_357
theorem gwGA_355 : wtGA_355.all goodWord = true := gz_all (w := Cond.fieldLink RX11 126 "SightedMonths$Almanac" "lean" "I") rfl gwGA_356
theorem gwGA_354 : wtGA_354.all goodWord = true := gz_all (w := Cond.fieldLink RX11 123 "SightedMonths$Almanac" "full" "I") rfl gwGA_355
theorem gwGA_353 : wtGA_353.all goodWord = true := gz_all (w := Cond.fieldLink RX11 120 "SightedMonths$Almanac" "months" "I") rfl gwGA_354
theorem gwGA_352 : wtGA_352.all goodWord = true := gz_all (w := Cond.code yX11_count cX11_count 2 (some .int)) rfl gwGA_353
theorem gwGA_351 : wtGA_351.all goodWord = true := gz_all (w := Cond.selects RX11 yX11_count yX11_count) rfl gwGA_352
theorem gwGA_350 : wtGA_350.all goodWord = true := gz_all (w := Cond.instanceMethod yX11_count) rfl gwGA_351
theorem gwGA_349 : wtGA_349.all goodWord = true := gz_all (w := Cond.fieldLink RX11 117 "SightedMonths$Reader" "faultPlace" "I") rfl gwGA_350
theorem gwGA_348 : wtGA_348.all goodWord = true := gz_all (w := Cond.code yX11_fault cX11_fault 2 (some .int)) rfl gwGA_349
theorem gwGA_347 : wtGA_347.all goodWord = true := gz_all (w := Cond.selects RX11 yX11_fault yX11_fault) rfl gwGA_348
theorem gwGA_346 : wtGA_346.all goodWord = true := gz_all (w := Cond.instanceMethod yX11_fault) rfl gwGA_347
theorem gwGA_345 : wtGA_345.all goodWord = true := gz_all (w := Cond.code Lib.Math.max.name Lib.Math.max.code 2 (some .int)) rfl gwGA_346
theorem gwGA_344 : wtGA_344.all goodWord = true := gz_all (w := Cond.static Lib.Math.max.name) rfl gwGA_345
theorem gwGA_343 : wtGA_343.all goodWord = true := gz_all (w := Cond.code yX11_forget cX11_forget 1 none) rfl gwGA_344
theorem gwGA_342 : wtGA_342.all goodWord = true := gz_all (w := Cond.selects RX11 yX11_forget yX11_forget) rfl gwGA_343
theorem gwGA_341 : wtGA_341.all goodWord = true := gz_all (w := Cond.instanceMethod yX11_forget) rfl gwGA_342
theorem gwGA_340 : wtGA_340.all goodWord = true := gz_all (w := Cond.methodLink RX11 111 yX11_forget) rfl gwGA_341
theorem gwGA_339 : wtGA_339.all goodWord = true := gz_all (w := Cond.code yX6_passSign cX6_passSign 1 none) rfl gwGA_340
theorem gwGA_338 : wtGA_338.all goodWord = true := gz_all (w := Cond.selects RX6 yX6_passSign yX6_passSign) rfl gwGA_339
theorem gwGA_337 : wtGA_337.all goodWord = true := gz_all (w := Cond.instanceMethod yX6_passSign) rfl gwGA_338
theorem gwGA_336 : wtGA_336.all goodWord = true := gz_all (w := Cond.methodLink RX6 89 yX6_passSign) rfl gwGA_337
theorem gwGA_335 : wtGA_335.all goodWord = true := gz_all (w := Cond.fieldLink RX0 104 "SightedMonths$Deed" "inDays" "Z") rfl gwGA_336
theorem gwGA_334 : wtGA_334.all goodWord = true := gz_all (w := Cond.fieldLink RX0 101 "SightedMonths$Deed" "length" "I") rfl gwGA_335
theorem gwGA_333 : wtGA_333.all goodWord = true := gz_all (w := Cond.fieldLink RX0 100 "SightedMonths$Deed" "day" "I") rfl gwGA_334
theorem gwGA_332 : wtGA_332.all goodWord = true := gz_all (w := Cond.fieldLink RX0 99 "SightedMonths$Deed" "month" "I") rfl gwGA_333
theorem gwGA_331 : wtGA_331.all goodWord = true := gz_all (w := Cond.code yX0_addDeed cX0_addDeed 6 none) rfl gwGA_332
theorem gwGA_330 : wtGA_330.all goodWord = true := gz_all (w := Cond.selects RX0 yX0_addDeed yX0_addDeed) rfl gwGA_331
theorem gwGA_329 : wtGA_329.all goodWord = true := gz_all (w := Cond.instanceMethod yX0_addDeed) rfl gwGA_330
theorem gwGA_328 : wtGA_328.all goodWord = true := gz_all (w := Cond.methodLink RX6 170 yX0_addDeed) rfl gwGA_329
theorem gwGA_327 : wtGA_327.all goodWord = true := gz_all (w := Cond.fieldLink RX6 156 "SightedMonths$Almanac" "deedCount" "I") rfl gwGA_328
theorem gwGA_326 : wtGA_326.all goodWord = true := gz_all (w := Cond.code yX6_readDeed cX6_readDeed 7 none) rfl gwGA_327
theorem gwGA_325 : wtGA_325.all goodWord = true := gz_all (w := Cond.selects RX6 yX6_readDeed yX6_readDeed) rfl gwGA_326
theorem gwGA_324 : wtGA_324.all goodWord = true := gz_all (w := Cond.instanceMethod yX6_readDeed) rfl gwGA_325
theorem gwGA_323 : wtGA_323.all goodWord = true := gz_all (w := Cond.methodLink RX6 82 yX6_readDeed) rfl gwGA_324
theorem gwGA_322 : wtGA_322.all goodWord = true := gz_all (w := Cond.fieldLink RX0 96 "SightedMonths$Report" "struck" "Z") rfl gwGA_323
theorem gwGA_321 : wtGA_321.all goodWord = true := gz_all (w := Cond.fieldLink RX0 89 "SightedMonths$Report" "known" "I") rfl gwGA_322
theorem gwGA_320 : wtGA_320.all goodWord = true := gz_all (w := Cond.fieldLink RX0 86 "SightedMonths$Report" "day" "I") rfl gwGA_321
theorem gwGA_319 : wtGA_319.all goodWord = true := gz_all (w := Cond.fieldLink RX0 83 "SightedMonths$Report" "month" "I") rfl gwGA_320
theorem gwGA_318 : wtGA_318.all goodWord = true := gz_all (w := Cond.fieldLink RX0 80 "SightedMonths$Report" "kind" "I") rfl gwGA_319
theorem gwGA_317 : wtGA_317.all goodWord = true := gz_all (w := Cond.fieldLink RX0 77 "SightedMonths$Report" "place" "I") rfl gwGA_318
theorem gwGA_316 : wtGA_316.all goodWord = true := gz_all (w := Cond.code yX0_addReport cX0_addReport 7 none) rfl gwGA_317
theorem gwGA_315 : wtGA_315.all goodWord = true := gz_all (w := Cond.selects RX0 yX0_addReport yX0_addReport) rfl gwGA_316
theorem gwGA_314 : wtGA_314.all goodWord = true := gz_all (w := Cond.instanceMethod yX0_addReport) rfl gwGA_315
theorem gwGA_313 : wtGA_313.all goodWord = true := gz_all (w := Cond.methodLink RX6 152 yX0_addReport) rfl gwGA_314
theorem gwGA_312 : wtGA_312.all goodWord = true := gz_all (w := Cond.fieldLink RX6 139 "SightedMonths$Almanac" "reportCount" "I") rfl gwGA_313
theorem gwGA_311 : wtGA_311.all goodWord = true := gz_all (w := Cond.code yX6_readReport cX6_readReport 6 none) rfl gwGA_312
theorem gwGA_310 : wtGA_310.all goodWord = true := gz_all (w := Cond.selects RX6 yX6_readReport yX6_readReport) rfl gwGA_311
theorem gwGA_309 : wtGA_309.all goodWord = true := gz_all (w := Cond.instanceMethod yX6_readReport) rfl gwGA_310
theorem gwGA_308 : wtGA_308.all goodWord = true := gz_all (w := Cond.methodLink RX6 72 yX6_readReport) rfl gwGA_309
theorem gwGA_307 : wtGA_307.all goodWord = true := gz_all (w := Cond.fieldLink RX0 70 "SightedMonths$Place" "trust" "I") rfl gwGA_308
theorem gwGA_306 : wtGA_306.all goodWord = true := gz_all (w := Cond.code yX0_addPlace cX0_addPlace 3 none) rfl gwGA_307
theorem gwGA_305 : wtGA_305.all goodWord = true := gz_all (w := Cond.selects RX0 yX0_addPlace yX0_addPlace) rfl gwGA_306
theorem gwGA_304 : wtGA_304.all goodWord = true := gz_all (w := Cond.instanceMethod yX0_addPlace) rfl gwGA_305
theorem gwGA_303 : wtGA_303.all goodWord = true := gz_all (w := Cond.methodLink RX6 136 yX0_addPlace) rfl gwGA_304
theorem gwGA_302 : wtGA_302.all goodWord = true := gz_all (w := Cond.fieldLink RX0 67 "SightedMonths$Place" "name" "I") rfl gwGA_303
theorem gwGA_301 : wtGA_301.all goodWord = true := gz_all (w := Cond.code yX0_placeNamed cX0_placeNamed 3 (some .int)) rfl gwGA_302
theorem gwGA_300 : wtGA_300.all goodWord = true := gz_all (w := Cond.selects RX0 yX0_placeNamed yX0_placeNamed) rfl gwGA_301
theorem gwGA_299 : wtGA_299.all goodWord = true := gz_all (w := Cond.instanceMethod yX0_placeNamed) rfl gwGA_300
theorem gwGA_298 : wtGA_298.all goodWord = true := gz_all (w := Cond.methodLink RX6 148 yX0_placeNamed) rfl gwGA_299
theorem gwGA_297 : wtGA_297.all goodWord = true := gz_all (w := Cond.code yX6_nameHere cX6_nameHere 4 (some .int)) rfl gwGA_298
theorem gwGA_296 : wtGA_296.all goodWord = true := gz_all (w := Cond.selects RX6 yX6_nameHere yX6_nameHere) rfl gwGA_297
theorem gwGA_295 : wtGA_295.all goodWord = true := gz_all (w := Cond.instanceMethod yX6_nameHere) rfl gwGA_296
theorem gwGA_294 : wtGA_294.all goodWord = true := gz_all (w := Cond.methodLink RX6 178 yX6_nameHere) rfl gwGA_295
theorem gwGA_293 : wtGA_293.all goodWord = true := gz_all (w := Cond.code yX6_passName cX6_passName 3 (some .int)) rfl gwGA_294
theorem gwGA_292 : wtGA_292.all goodWord = true := gz_all (w := Cond.selects RX6 yX6_passName yX6_passName) rfl gwGA_293
theorem gwGA_291 : wtGA_291.all goodWord = true := gz_all (w := Cond.instanceMethod yX6_passName) rfl gwGA_292
theorem gwGA_290 : wtGA_290.all goodWord = true := gz_all (w := Cond.methodLink RX6 130 yX6_passName) rfl gwGA_291
theorem gwGA_289 : wtGA_289.all goodWord = true := gz_all (w := Cond.fieldLink RX6 127 "SightedMonths$Almanac" "placeCount" "I") rfl gwGA_290
theorem gwGA_288 : wtGA_288.all goodWord = true := gz_all (w := Cond.code yX6_readPlace cX6_readPlace 3 none) rfl gwGA_289
theorem gwGA_287 : wtGA_287.all goodWord = true := gz_all (w := Cond.selects RX6 yX6_readPlace yX6_readPlace) rfl gwGA_288
theorem gwGA_286 : wtGA_286.all goodWord = true := gz_all (w := Cond.instanceMethod yX6_readPlace) rfl gwGA_287
theorem gwGA_285 : wtGA_285.all goodWord = true := gz_all (w := Cond.methodLink RX6 67 yX6_readPlace) rfl gwGA_286
theorem gwGA_284 : wtGA_284.all goodWord = true := gz_all (w := Cond.code yX0_setMoon cX0_setMoon 3 none) rfl gwGA_285
theorem gwGA_283 : wtGA_283.all goodWord = true := gz_all (w := Cond.selects RX0 yX0_setMoon yX0_setMoon) rfl gwGA_284
theorem gwGA_282 : wtGA_282.all goodWord = true := gz_all (w := Cond.instanceMethod yX0_setMoon) rfl gwGA_283
theorem gwGA_281 : wtGA_281.all goodWord = true := gz_all (w := Cond.methodLink RX6 124 yX0_setMoon) rfl gwGA_282
theorem gwGA_280 : wtGA_280.all goodWord = true := gz_all (w := Cond.code yX6_passHead cX6_passHead 2 none) rfl gwGA_281
theorem gwGA_279 : wtGA_279.all goodWord = true := gz_all (w := Cond.selects RX6 yX6_passHead yX6_passHead) rfl gwGA_280
theorem gwGA_278 : wtGA_278.all goodWord = true := gz_all (w := Cond.instanceMethod yX6_passHead) rfl gwGA_279
theorem gwGA_277 : wtGA_277.all goodWord = true := gz_all (w := Cond.methodLink RX6 118 yX6_passHead) rfl gwGA_278
theorem gwGA_276 : wtGA_276.all goodWord = true := gz_all (w := Cond.constant RX6 122 (99999)) rfl gwGA_277
theorem gwGA_275 : wtGA_275.all goodWord = true := gz_all (w := Cond.fieldLink RX6 114 "SightedMonths$Almanac" "hasMoon" "Z") rfl gwGA_276
theorem gwGA_274 : wtGA_274.all goodWord = true := gz_all (w := Cond.code yX6_readMoon cX6_readMoon 3 none) rfl gwGA_275
theorem gwGA_273 : wtGA_273.all goodWord = true := gz_all (w := Cond.selects RX6 yX6_readMoon yX6_readMoon) rfl gwGA_274
theorem gwGA_272 : wtGA_272.all goodWord = true := gz_all (w := Cond.instanceMethod yX6_readMoon) rfl gwGA_273
theorem gwGA_271 : wtGA_271.all goodWord = true := gz_all (w := Cond.methodLink RX6 62 yX6_readMoon) rfl gwGA_272
theorem gwGA_270 : wtGA_270.all goodWord = true := gz_all (w := Cond.code Lib.Math.min.name Lib.Math.min.code 2 (some .int)) rfl gwGA_271
theorem gwGA_269 : wtGA_269.all goodWord = true := gz_all (w := Cond.initialized "java/lang/Math") rfl gwGA_270
theorem gwGA_268 : wtGA_268.all goodWord = true := gz_all (w := Cond.static Lib.Math.min.name) rfl gwGA_269
theorem gwGA_267 : wtGA_267.all goodWord = true := gz_all (w := Cond.methodLink RX6 191 Lib.Math.min.name) rfl gwGA_268
theorem gwGA_266 : wtGA_266.all goodWord = true := gz_all (w := Cond.constant RX6 163 (1000000)) rfl gwGA_267
theorem gwGA_265 : wtGA_265.all goodWord = true := gz_all (w := Cond.code yX6_valueHere cX6_valueHere 4 (some .int)) rfl gwGA_266
theorem gwGA_264 : wtGA_264.all goodWord = true := gz_all (w := Cond.selects RX6 yX6_valueHere yX6_valueHere) rfl gwGA_265
theorem gwGA_263 : wtGA_263.all goodWord = true := gz_all (w := Cond.instanceMethod yX6_valueHere) rfl gwGA_264
theorem gwGA_262 : wtGA_262.all goodWord = true := gz_all (w := Cond.methodLink RX6 174 yX6_valueHere) rfl gwGA_263
theorem gwGA_261 : wtGA_261.all goodWord = true := gz_all (w := Cond.code yX6_passNumber cX6_passNumber 4 (some .int)) rfl gwGA_262
theorem gwGA_260 : wtGA_260.all goodWord = true := gz_all (w := Cond.selects RX6 yX6_passNumber yX6_passNumber) rfl gwGA_261
theorem gwGA_259 : wtGA_259.all goodWord = true := gz_all (w := Cond.instanceMethod yX6_passNumber) rfl gwGA_260
theorem gwGA_258 : wtGA_258.all goodWord = true := gz_all (w := Cond.methodLink RX6 100 yX6_passNumber) rfl gwGA_259
theorem gwGA_257 : wtGA_257.all goodWord = true := gz_all (w := Cond.code yX6_blame cX6_blame 3 none) rfl gwGA_258
theorem gwGA_256 : wtGA_256.all goodWord = true := gz_all (w := Cond.selects RX6 yX6_blame yX6_blame) rfl gwGA_257
theorem gwGA_255 : wtGA_255.all goodWord = true := gz_all (w := Cond.instanceMethod yX6_blame) rfl gwGA_256
theorem gwGA_254 : wtGA_254.all goodWord = true := gz_all (w := Cond.methodLink RX6 85 yX6_blame) rfl gwGA_255
theorem gwGA_253 : wtGA_253.all goodWord = true := gz_all (w := Cond.code yX6_expect cX6_expect 3 none) rfl gwGA_254
theorem gwGA_252 : wtGA_252.all goodWord = true := gz_all (w := Cond.selects RX6 yX6_expect yX6_expect) rfl gwGA_253
theorem gwGA_251 : wtGA_251.all goodWord = true := gz_all (w := Cond.instanceMethod yX6_expect) rfl gwGA_252
theorem gwGA_250 : wtGA_250.all goodWord = true := gz_all (w := Cond.methodLink RX6 166 yX6_expect) rfl gwGA_251
theorem gwGA_249 : wtGA_249.all goodWord = true := gz_all (w := Cond.fieldLink RJ2 63 "java/lang/StringUTF16" "LO_BYTE_SHIFT" "I") rfl gwGA_250
theorem gwGA_248 : wtGA_248.all goodWord = true := gz_all (w := Cond.fieldLink RJ2 59 "java/lang/StringUTF16" "HI_BYTE_SHIFT" "I") rfl gwGA_249
theorem gwGA_247 : wtGA_247.all goodWord = true := gz_all (w := Cond.fieldLink RJ2 44 "java/lang/StringUTF16" "$assertionsDisabled" "Z") rfl gwGA_248
theorem gwGA_246 : wtGA_246.all goodWord = true := gz_all (w := Cond.code yJ2_getChar_3b067 cJ2_getChar_3b067 2 (some .char)) rfl gwGA_247
theorem gwGA_245 : wtGA_245.all goodWord = true := gz_all (w := Cond.static yJ2_getChar_3b067) rfl gwGA_246
theorem gwGA_244 : wtGA_244.all goodWord = true := gz_all (w := Cond.methodLink RJ2 71 yJ2_getChar_3b067) rfl gwGA_245
theorem gwGA_243 : wtGA_243.all goodWord = true := gz_all (w := Cond.methodLink RJ2 414 yJ0_checkIndex_df160) rfl gwGA_244
theorem gwGA_242 : wtGA_242.all goodWord = true := gz_all (w := Cond.code yJ2_length_9d52b cJ2_length_9d52b 1 (some .int)) rfl gwGA_243
theorem gwGA_241 : wtGA_241.all goodWord = true := gz_all (w := Cond.static yJ2_length_9d52b) rfl gwGA_242
theorem gwGA_240 : wtGA_240.all goodWord = true := gz_all (w := Cond.methodLink RJ2 48 yJ2_length_9d52b) rfl gwGA_241
theorem gwGA_239 : wtGA_239.all goodWord = true := gz_all (w := Cond.code yJ2_checkIndex_2214a cJ2_checkIndex_2214a 2 none) rfl gwGA_240
theorem gwGA_238 : wtGA_238.all goodWord = true := gz_all (w := Cond.static yJ2_checkIndex_2214a) rfl gwGA_239
theorem gwGA_237 : wtGA_237.all goodWord = true := gz_all (w := Cond.methodLink RJ2 67 yJ2_checkIndex_2214a) rfl gwGA_238
theorem gwGA_236 : wtGA_236.all goodWord = true := gz_all (w := Cond.code yJ2_charAt_3b067 cJ2_charAt_3b067 2 (some .char)) rfl gwGA_237
theorem gwGA_235 : wtGA_235.all goodWord = true := gz_all (w := Cond.initialized RJ2) rfl gwGA_236
theorem gwGA_234 : wtGA_234.all goodWord = true := gz_all (w := Cond.static yJ2_charAt_3b067) rfl gwGA_235
theorem gwGA_233 : wtGA_233.all goodWord = true := gz_all (w := Cond.methodLink RJ0 498 yJ2_charAt_3b067) rfl gwGA_234
theorem gwGA_232 : wtGA_232.all goodWord = true := gz_all (w := Cond.code yJ3_checkIndex_8e157 cJ3_checkIndex_8e157 3 (some .int)) rfl gwGA_233
theorem gwGA_231 : wtGA_231.all goodWord = true := gz_all (w := Cond.initialized RJ3) rfl gwGA_232
theorem gwGA_230 : wtGA_230.all goodWord = true := gz_all (w := Cond.static yJ3_checkIndex_8e157) rfl gwGA_231
theorem gwGA_229 : wtGA_229.all goodWord = true := gz_all (w := Cond.methodLink RJ0 1059 yJ3_checkIndex_8e157) rfl gwGA_230
theorem gwGA_228 : wtGA_228.all goodWord = true := gz_all (w := Cond.fieldLink RJ0 1053 "jdk/internal/util/Preconditions" "SIOOBE_FORMATTER" "Ljava/util/function/BiFunction;") rfl gwGA_229
theorem gwGA_227 : wtGA_227.all goodWord = true := gz_all (w := Cond.code yJ0_checkIndex_df160 cJ0_checkIndex_df160 2 none) rfl gwGA_228
theorem gwGA_226 : wtGA_226.all goodWord = true := gz_all (w := Cond.static yJ0_checkIndex_df160) rfl gwGA_227
theorem gwGA_225 : wtGA_225.all goodWord = true := gz_all (w := Cond.methodLink RJ1 9 yJ0_checkIndex_df160) rfl gwGA_226
theorem gwGA_224 : wtGA_224.all goodWord = true := gz_all (w := Cond.code yJ1_charAt_3b067 cJ1_charAt_3b067 2 (some .char)) rfl gwGA_225
theorem gwGA_223 : wtGA_223.all goodWord = true := gz_all (w := Cond.initialized RJ1) rfl gwGA_224
theorem gwGA_222 : wtGA_222.all goodWord = true := gz_all (w := Cond.static yJ1_charAt_3b067) rfl gwGA_223
theorem gwGA_221 : wtGA_221.all goodWord = true := gz_all (w := Cond.methodLink RJ0 495 yJ1_charAt_3b067) rfl gwGA_222
theorem gwGA_220 : wtGA_220.all goodWord = true := gz_all (w := Cond.code yJ0_isLatin1_aae02 cJ0_isLatin1_aae02 1 (some .boolean)) rfl gwGA_221
theorem gwGA_219 : wtGA_219.all goodWord = true := gz_all (w := Cond.selects RJ0 yJ0_isLatin1_aae02 yJ0_isLatin1_aae02) rfl gwGA_220
theorem gwGA_218 : wtGA_218.all goodWord = true := gz_all (w := Cond.instanceMethod yJ0_isLatin1_aae02) rfl gwGA_219
theorem gwGA_217 : wtGA_217.all goodWord = true := gz_all (w := Cond.methodLink RJ0 492 yJ0_isLatin1_aae02) rfl gwGA_218
theorem gwGA_216 : wtGA_216.all goodWord = true := gz_all (w := Cond.code yJ0_charAt_5068e cJ0_charAt_5068e 2 (some .char)) rfl gwGA_217
theorem gwGA_215 : wtGA_215.all goodWord = true := gz_all (w := Cond.selects RJ0 yJ0_charAt_5068e yJ0_charAt_5068e) rfl gwGA_216
theorem gwGA_214 : wtGA_214.all goodWord = true := gz_all (w := Cond.instanceMethod yJ0_charAt_5068e) rfl gwGA_215
theorem gwGA_213 : wtGA_213.all goodWord = true := gz_all (w := Cond.methodLink RX6 201 yJ0_charAt_5068e) rfl gwGA_214
theorem gwGA_212 : wtGA_212.all goodWord = true := gz_all (w := Cond.fieldLink RJ0 15 "java/lang/String" "coder" "B") rfl gwGA_213
theorem gwGA_211 : wtGA_211.all goodWord = true := gz_all (w := Cond.fieldLink RJ0 38 "java/lang/String" "COMPACT_STRINGS" "Z") rfl gwGA_212
theorem gwGA_210 : wtGA_210.all goodWord = true := gz_all (w := Cond.code yJ0_coder_7d493 cJ0_coder_7d493 1 (some .byte)) rfl gwGA_211
theorem gwGA_209 : wtGA_209.all goodWord = true := gz_all (w := Cond.selects RJ0 yJ0_coder_7d493 yJ0_coder_7d493) rfl gwGA_210
theorem gwGA_208 : wtGA_208.all goodWord = true := gz_all (w := Cond.instanceMethod yJ0_coder_7d493) rfl gwGA_209
theorem gwGA_207 : wtGA_207.all goodWord = true := gz_all (w := Cond.methodLink RJ0 335 yJ0_coder_7d493) rfl gwGA_208
theorem gwGA_206 : wtGA_206.all goodWord = true := gz_all (w := Cond.fieldLink RJ0 9 "java/lang/String" "value" "[B") rfl gwGA_207
theorem gwGA_205 : wtGA_205.all goodWord = true := gz_all (w := Cond.code yJ0_length_8abf5 cJ0_length_8abf5 1 (some .int)) rfl gwGA_206
theorem gwGA_204 : wtGA_204.all goodWord = true := gz_all (w := Cond.initialized RJ0) rfl gwGA_205
theorem gwGA_203 : wtGA_203.all goodWord = true := gz_all (w := Cond.selects RJ0 yJ0_length_8abf5 yJ0_length_8abf5) rfl gwGA_204
theorem gwGA_202 : wtGA_202.all goodWord = true := gz_all (w := Cond.instanceMethod yJ0_length_8abf5) rfl gwGA_203
theorem gwGA_201 : wtGA_201.all goodWord = true := gz_all (w := Cond.methodLink RX6 196 yJ0_length_8abf5) rfl gwGA_202
theorem gwGA_200 : wtGA_200.all goodWord = true := gz_all (w := Cond.code yX6_isWord cX6_isWord 3 (some .boolean)) rfl gwGA_201
theorem gwGA_199 : wtGA_199.all goodWord = true := gz_all (w := Cond.selects RX6 yX6_isWord yX6_isWord) rfl gwGA_200
theorem gwGA_198 : wtGA_198.all goodWord = true := gz_all (w := Cond.instanceMethod yX6_isWord) rfl gwGA_199
theorem gwGA_197 : wtGA_197.all goodWord = true := gz_all (w := Cond.methodLink RX6 58 yX6_isWord) rfl gwGA_198
theorem gwGA_196 : wtGA_196.all goodWord = true := gz_all (w := Cond.code yX6_passWord cX6_passWord 2 none) rfl gwGA_197
theorem gwGA_195 : wtGA_195.all goodWord = true := gz_all (w := Cond.selects RX6 yX6_passWord yX6_passWord) rfl gwGA_196
theorem gwGA_194 : wtGA_194.all goodWord = true := gz_all (w := Cond.instanceMethod yX6_passWord) rfl gwGA_195
theorem gwGA_193 : wtGA_193.all goodWord = true := gz_all (w := Cond.methodLink RX6 94 yX6_passWord) rfl gwGA_194
theorem gwGA_192 : wtGA_192.all goodWord = true := gz_all (w := Cond.fieldLink RX6 112 "SightedMonths$Almanac" "lean" "I") rfl gwGA_193
theorem gwGA_191 : wtGA_191.all goodWord = true := gz_all (w := Cond.fieldLink RX6 110 "SightedMonths$Almanac" "full" "I") rfl gwGA_192
theorem gwGA_190 : wtGA_190.all goodWord = true := gz_all (w := Cond.fieldLink RX6 108 "SightedMonths$Almanac" "months" "I") rfl gwGA_191
theorem gwGA_189 : wtGA_189.all goodWord = true := gz_all (w := Cond.code yX6_readFirst cX6_readFirst 4 none) rfl gwGA_190
theorem gwGA_188 : wtGA_188.all goodWord = true := gz_all (w := Cond.selects RX6 yX6_readFirst yX6_readFirst) rfl gwGA_189
theorem gwGA_187 : wtGA_187.all goodWord = true := gz_all (w := Cond.instanceMethod yX6_readFirst) rfl gwGA_188
theorem gwGA_186 : wtGA_186.all goodWord = true := gz_all (w := Cond.methodLink RX6 53 yX6_readFirst) rfl gwGA_187
theorem gwGA_185 : wtGA_185.all goodWord = true := gz_all (w := Cond.fieldLink RX6 50 "SightedMonths$Almanac" "lines" "I") rfl gwGA_186
theorem gwGA_184 : wtGA_184.all goodWord = true := gz_all (w := Cond.code yX6_readLine cX6_readLine 1 none) rfl gwGA_185
theorem gwGA_183 : wtGA_183.all goodWord = true := gz_all (w := Cond.selects RX6 yX6_readLine yX6_readLine) rfl gwGA_184
theorem gwGA_182 : wtGA_182.all goodWord = true := gz_all (w := Cond.instanceMethod yX6_readLine) rfl gwGA_183
theorem gwGA_181 : wtGA_181.all goodWord = true := gz_all (w := Cond.methodLink RX6 47 yX6_readLine) rfl gwGA_182
theorem gwGA_180 : wtGA_180.all goodWord = true := gz_all (w := Cond.code yX6_isDigit cX6_isDigit 1 (some .boolean)) rfl gwGA_181
theorem gwGA_179 : wtGA_179.all goodWord = true := gz_all (w := Cond.static yX6_isDigit) rfl gwGA_180
theorem gwGA_178 : wtGA_178.all goodWord = true := gz_all (w := Cond.methodLink RX6 188 yX6_isDigit) rfl gwGA_179
theorem gwGA_177 : wtGA_177.all goodWord = true := gz_all (w := Cond.code yX6_isLetter cX6_isLetter 1 (some .boolean)) rfl gwGA_178
theorem gwGA_176 : wtGA_176.all goodWord = true := gz_all (w := Cond.static yX6_isLetter) rfl gwGA_177
theorem gwGA_175 : wtGA_175.all goodWord = true := gz_all (w := Cond.methodLink RX6 184 yX6_isLetter) rfl gwGA_176
theorem gwGA_174 : wtGA_174.all goodWord = true := gz_all (w := Cond.code yX6_isBlank cX6_isBlank 1 (some .boolean)) rfl gwGA_175
theorem gwGA_173 : wtGA_173.all goodWord = true := gz_all (w := Cond.static yX6_isBlank) rfl gwGA_174
theorem gwGA_172 : wtGA_172.all goodWord = true := gz_all (w := Cond.methodLink RX6 207 yX6_isBlank) rfl gwGA_173
theorem gwGA_171 : wtGA_171.all goodWord = true := gz_all (w := Cond.fieldLink RX6 210 "SightedMonths$Tape" "bytes" "[B") rfl gwGA_172
theorem gwGA_170 : wtGA_170.all goodWord = true := gz_all (w := Cond.code yX6_byteAt cX6_byteAt 2 (some .int)) rfl gwGA_171
theorem gwGA_169 : wtGA_169.all goodWord = true := gz_all (w := Cond.selects RX6 yX6_byteAt yX6_byteAt) rfl gwGA_170
theorem gwGA_168 : wtGA_168.all goodWord = true := gz_all (w := Cond.instanceMethod yX6_byteAt) rfl gwGA_169
theorem gwGA_167 : wtGA_167.all goodWord = true := gz_all (w := Cond.methodLink RX6 181 yX6_byteAt) rfl gwGA_168
theorem gwGA_166 : wtGA_166.all goodWord = true := gz_all (w := Cond.fieldLink RX6 205 "SightedMonths$Tape" "length" "I") rfl gwGA_167
theorem gwGA_165 : wtGA_165.all goodWord = true := gz_all (w := Cond.code yX6_step cX6_step 2 none) rfl gwGA_166
theorem gwGA_164 : wtGA_164.all goodWord = true := gz_all (w := Cond.selects RX6 yX6_step yX6_step) rfl gwGA_165
theorem gwGA_163 : wtGA_163.all goodWord = true := gz_all (w := Cond.instanceMethod yX6_step) rfl gwGA_164
theorem gwGA_162 : wtGA_162.all goodWord = true := gz_all (w := Cond.methodLink RX6 44 yX6_step) rfl gwGA_163
theorem gwGA_161 : wtGA_161.all goodWord = true := gz_all (w := Cond.fieldLink RX0 61 "SightedMonths$Almanac" "deedCount" "I") rfl gwGA_162
theorem gwGA_160 : wtGA_160.all goodWord = true := gz_all (w := Cond.fieldLink RX0 58 "SightedMonths$Almanac" "reportCount" "I") rfl gwGA_161
theorem gwGA_159 : wtGA_159.all goodWord = true := gz_all (w := Cond.fieldLink RX0 55 "SightedMonths$Almanac" "placeCount" "I") rfl gwGA_160
theorem gwGA_158 : wtGA_158.all goodWord = true := gz_all (w := Cond.fieldLink RX0 52 "SightedMonths$Almanac" "moonStep" "I") rfl gwGA_159
theorem gwGA_157 : wtGA_157.all goodWord = true := gz_all (w := Cond.fieldLink RX0 49 "SightedMonths$Almanac" "moonStart" "I") rfl gwGA_158
theorem gwGA_156 : wtGA_156.all goodWord = true := gz_all (w := Cond.fieldLink RX0 45 "SightedMonths$Almanac" "hasMoon" "Z") rfl gwGA_157
theorem gwGA_155 : wtGA_155.all goodWord = true := gz_all (w := Cond.fieldLink RX0 42 "SightedMonths$Almanac" "lines" "I") rfl gwGA_156
theorem gwGA_154 : wtGA_154.all goodWord = true := gz_all (w := Cond.fieldLink RX0 39 "SightedMonths$Almanac" "lean" "I") rfl gwGA_155
theorem gwGA_153 : wtGA_153.all goodWord = true := gz_all (w := Cond.fieldLink RX0 36 "SightedMonths$Almanac" "full" "I") rfl gwGA_154
theorem gwGA_152 : wtGA_152.all goodWord = true := gz_all (w := Cond.fieldLink RX0 32 "SightedMonths$Almanac" "months" "I") rfl gwGA_153
theorem gwGA_151 : wtGA_151.all goodWord = true := gz_all (w := Cond.code yX0_wipe cX0_wipe 1 none) rfl gwGA_152
theorem gwGA_150 : wtGA_150.all goodWord = true := gz_all (w := Cond.selects RX0 yX0_wipe yX0_wipe) rfl gwGA_151
theorem gwGA_149 : wtGA_149.all goodWord = true := gz_all (w := Cond.instanceMethod yX0_wipe) rfl gwGA_150
theorem gwGA_148 : wtGA_148.all goodWord = true := gz_all (w := Cond.methodLink RX6 41 yX0_wipe) rfl gwGA_149
theorem gwGA_147 : wtGA_147.all goodWord = true := gz_all (w := Cond.code yX6_read cX6_read 2 none) rfl gwGA_148
theorem gwGA_146 : wtGA_146.all goodWord = true := gz_all (w := Cond.selects RX6 yX6_read yX6_read) rfl gwGA_147
theorem gwGA_145 : wtGA_145.all goodWord = true := gz_all (w := Cond.instanceMethod yX6_read) rfl gwGA_146
theorem gwGA_144 : wtGA_144.all goodWord = true := gz_all (w := Cond.methodLink RX11 102 yX6_read) rfl gwGA_145
theorem gwGA_143 : wtGA_143.all goodWord = true := gz_all (w := Cond.fieldLink RX11 114 "SightedMonths$Almanac" "lines" "I") rfl gwGA_144
theorem gwGA_142 : wtGA_142.all goodWord = true := gz_all (w := Cond.fieldLink RX11 108 "SightedMonths$Reader" "draft" "LSightedMonths$Almanac;") rfl gwGA_143
theorem gwGA_141 : wtGA_141.all goodWord = true := gz_all (w := Cond.fieldLink RX11 105 "SightedMonths$Reader" "faultKind" "I") rfl gwGA_142
theorem gwGA_140 : wtGA_140.all goodWord = true := gz_all (w := Cond.code yX11_almanac cX11_almanac 2 (some .int)) rfl gwGA_141
theorem gwGA_139 : wtGA_139.all goodWord = true := gz_all (w := Cond.selects RX11 yX11_almanac yX11_almanac) rfl gwGA_140
theorem gwGA_138 : wtGA_138.all goodWord = true := gz_all (w := Cond.instanceMethod yX11_almanac) rfl gwGA_139
theorem gwGA_137 : wtGA_137.all goodWord = true := gz_all (w := Cond.code yX11_end cX11_end 2 (some .int)) rfl gwGA_138
theorem gwGA_136 : wtGA_136.all goodWord = true := gz_all (w := Cond.selects RX11 yX11_end yX11_end) rfl gwGA_137
theorem gwGA_135 : wtGA_135.all goodWord = true := gz_all (w := Cond.instanceMethod yX11_end) rfl gwGA_136
theorem gwGA_134 : wtGA_134.all goodWord = true := gz_all (w := Cond.code yX10_put cX10_put 2 none) rfl gwGA_135
theorem gwGA_133 : wtGA_133.all goodWord = true := gz_all (w := Cond.selects RX10 yX10_put yX10_put) rfl gwGA_134
theorem gwGA_132 : wtGA_132.all goodWord = true := gz_all (w := Cond.instanceMethod yX10_put) rfl gwGA_133
theorem gwGA_131 : wtGA_131.all goodWord = true := gz_all (w := Cond.methodLink RX11 98 yX10_put) rfl gwGA_132
theorem gwGA_130 : wtGA_130.all goodWord = true := gz_all (w := Cond.fieldLink RX11 93 "SightedMonths$Tape" "length" "I") rfl gwGA_131
theorem gwGA_129 : wtGA_129.all goodWord = true := gz_all (w := Cond.fieldLink RX11 89 "SightedMonths$Reader" "tape" "LSightedMonths$Tape;") rfl gwGA_130
theorem gwGA_128 : wtGA_128.all goodWord = true := gz_all (w := Cond.code yX11_feed cX11_feed 7 (some .int)) rfl gwGA_129
theorem gwGA_127 : wtGA_127.all goodWord = true := gz_all (w := Cond.selects RX11 yX11_feed yX11_feed) rfl gwGA_128
theorem gwGA_126 : wtGA_126.all goodWord = true := gz_all (w := Cond.instanceMethod yX11_feed) rfl gwGA_127
theorem gwGA_125 : wtGA_125.all goodWord = true := gz_all (w := Cond.arrayClass .boolean) rfl gwGA_126
theorem gwGA_124 : wtGA_124.all goodWord = true := gz_all (w := Cond.fieldLink RX4 18 "SightedMonths$History" "eras" "I") rfl gwGA_125
theorem gwGA_123 : wtGA_123.all goodWord = true := gz_all (w := Cond.fieldLink RX4 15 "SightedMonths$History" "begins" "[I") rfl gwGA_124
theorem gwGA_122 : wtGA_122.all goodWord = true := gz_all (w := Cond.fieldLink RX4 11 "SightedMonths$History" "since" "[I") rfl gwGA_123
theorem gwGA_121 : wtGA_121.all goodWord = true := gz_all (w := Cond.methodLink RX4 3 objectInit) rfl gwGA_122
theorem gwGA_120 : wtGA_120.all goodWord = true := gz_all (w := Cond.code yX4_init cX4_init 1 none) rfl gwGA_121
theorem gwGA_119 : wtGA_119.all goodWord = true := gz_all (w := Cond.instanceMethod yX4_init) rfl gwGA_120
theorem gwGA_118 : wtGA_118.all goodWord = true := gz_all (w := Cond.fieldLink RX8 15 "SightedMonths$Search" "leasts" "[I") rfl gwGA_119
theorem gwGA_117 : wtGA_117.all goodWord = true := gz_all (w := Cond.fieldLink RX8 9 "SightedMonths$Search" "costs" "[I") rfl gwGA_118
theorem gwGA_116 : wtGA_116.all goodWord = true := gz_all (w := Cond.methodLink RX8 3 objectInit) rfl gwGA_117
theorem gwGA_115 : wtGA_115.all goodWord = true := gz_all (w := Cond.code yX8_init cX8_init 1 none) rfl gwGA_116
theorem gwGA_114 : wtGA_114.all goodWord = true := gz_all (w := Cond.instanceMethod yX8_init) rfl gwGA_115
theorem gwGA_113 : wtGA_113.all goodWord = true := gz_all (w := Cond.fieldLink RX9 18 "SightedMonths$Tally" "starts" "[I") rfl gwGA_114
theorem gwGA_112 : wtGA_112.all goodWord = true := gz_all (w := Cond.fieldLink RX9 15 "SightedMonths$Tally" "behind" "[I") rfl gwGA_113
theorem gwGA_111 : wtGA_111.all goodWord = true := gz_all (w := Cond.fieldLink RX9 9 "SightedMonths$Tally" "before" "[I") rfl gwGA_112
theorem gwGA_110 : wtGA_110.all goodWord = true := gz_all (w := Cond.methodLink RX9 3 objectInit) rfl gwGA_111
theorem gwGA_109 : wtGA_109.all goodWord = true := gz_all (w := Cond.code yX9_init cX9_init 1 none) rfl gwGA_110
theorem gwGA_108 : wtGA_108.all goodWord = true := gz_all (w := Cond.instanceMethod yX9_init) rfl gwGA_109
theorem gwGA_107 : wtGA_107.all goodWord = true := gz_all (w := Cond.fieldLink RX1 36 "SightedMonths$Court" "takenBits" "I") rfl gwGA_108
theorem gwGA_106 : wtGA_106.all goodWord = true := gz_all (w := Cond.fieldLink RX1 32 "SightedMonths$Court" "queueLength" "I") rfl gwGA_107
theorem gwGA_105 : wtGA_105.all goodWord = true := gz_all (w := Cond.fieldLink RX1 29 "SightedMonths$Court" "begins" "[I") rfl gwGA_106
theorem gwGA_104 : wtGA_104.all goodWord = true := gz_all (w := Cond.fieldLink RX1 25 "SightedMonths$Court" "turns" "[J") rfl gwGA_105
theorem gwGA_103 : wtGA_103.all goodWord = true := gz_all (w := Cond.arrayClass .long) rfl gwGA_104
theorem gwGA_102 : wtGA_102.all goodWord = true := gz_all (w := Cond.fieldLink RX1 22 "SightedMonths$Court" "queue" "[I") rfl gwGA_103
theorem gwGA_101 : wtGA_101.all goodWord = true := gz_all (w := Cond.fieldLink RX1 18 "SightedMonths$Court" "verdicts" "[I") rfl gwGA_102
theorem gwGA_100 : wtGA_100.all goodWord = true := gz_all (w := Cond.fieldLink RX1 12 "SightedMonths$Court" "frame" "LSightedMonths$Frame;") rfl gwGA_101
theorem gwGA_99 : wtGA_99.all goodWord = true := gz_all (w := Cond.classLink RX1 9 RX3) rfl gwGA_100
theorem gwGA_98 : wtGA_98.all goodWord = true := gz_all (w := Cond.methodLink RX1 3 objectInit) rfl gwGA_99
theorem gwGA_97 : wtGA_97.all goodWord = true := gz_all (w := Cond.code yX1_init cX1_init 1 none) rfl gwGA_98
theorem gwGA_96 : wtGA_96.all goodWord = true := gz_all (w := Cond.instanceMethod yX1_init) rfl gwGA_97
theorem gwGA_95 : wtGA_95.all goodWord = true := gz_all (w := Cond.fieldLink RX3 15 "SightedMonths$Frame" "onward" "[I") rfl gwGA_96
theorem gwGA_94 : wtGA_94.all goodWord = true := gz_all (w := Cond.fieldLink RX3 9 "SightedMonths$Frame" "allowed" "[I") rfl gwGA_95
theorem gwGA_93 : wtGA_93.all goodWord = true := gz_all (w := Cond.methodLink RX3 3 objectInit) rfl gwGA_94
theorem gwGA_92 : wtGA_92.all goodWord = true := gz_all (w := Cond.code yX3_init cX3_init 1 none) rfl gwGA_93
theorem gwGA_91 : wtGA_91.all goodWord = true := gz_all (w := Cond.instanceMethod yX3_init) rfl gwGA_92
theorem gwGA_90 : wtGA_90.all goodWord = true := gz_all (w := Cond.methodLink RX11 18 yX0_init) rfl gwGA_91
theorem gwGA_89 : wtGA_89.all goodWord = true := gz_all (w := Cond.methodLink RX2 1 objectInit) rfl gwGA_90
theorem gwGA_88 : wtGA_88.all goodWord = true := gz_all (w := Cond.code yX2_init cX2_init 1 none) rfl gwGA_89
theorem gwGA_87 : wtGA_87.all goodWord = true := gz_all (w := Cond.instanceMethod yX2_init) rfl gwGA_88
theorem gwGA_86 : wtGA_86.all goodWord = true := gz_all (w := Cond.methodLink RX7 1 objectInit) rfl gwGA_87
theorem gwGA_85 : wtGA_85.all goodWord = true := gz_all (w := Cond.code yX7_init cX7_init 1 none) rfl gwGA_86
theorem gwGA_84 : wtGA_84.all goodWord = true := gz_all (w := Cond.instanceMethod yX7_init) rfl gwGA_85
theorem gwGA_83 : wtGA_83.all goodWord = true := gz_all (w := Cond.methodLink RX5 1 objectInit) rfl gwGA_84
theorem gwGA_82 : wtGA_82.all goodWord = true := gz_all (w := Cond.code yX5_init cX5_init 1 none) rfl gwGA_83
theorem gwGA_81 : wtGA_81.all goodWord = true := gz_all (w := Cond.instanceMethod yX5_init) rfl gwGA_82
theorem gwGA_80 : wtGA_80.all goodWord = true := gz_all (w := Cond.initialized RX2) rfl gwGA_81
theorem gwGA_79 : wtGA_79.all goodWord = true := gz_all (w := Cond.instantiable RX2 4) rfl gwGA_80
theorem gwGA_78 : wtGA_78.all goodWord = true := gz_all (w := Cond.initialized RX7) rfl gwGA_79
theorem gwGA_77 : wtGA_77.all goodWord = true := gz_all (w := Cond.instantiable RX7 6) rfl gwGA_78
theorem gwGA_76 : wtGA_76.all goodWord = true := gz_all (w := Cond.initialized RX5) rfl gwGA_77
theorem gwGA_75 : wtGA_75.all goodWord = true := gz_all (w := Cond.instantiable RX5 2) rfl gwGA_76
theorem gwGA_74 : wtGA_74.all goodWord = true := gz_all (w := Cond.fieldLink RX0 25 "SightedMonths$Almanac" "deeds" "[LSightedMonths$Deed;") rfl gwGA_75
theorem gwGA_73 : wtGA_73.all goodWord = true := gz_all (w := Cond.classLink RX0 23 RX2) rfl gwGA_74
theorem gwGA_72 : wtGA_72.all goodWord = true := gz_all (w := Cond.fieldLink RX0 19 "SightedMonths$Almanac" "reports" "[LSightedMonths$Report;") rfl gwGA_73
theorem gwGA_71 : wtGA_71.all goodWord = true := gz_all (w := Cond.classLink RX0 17 RX7) rfl gwGA_72
theorem gwGA_70 : wtGA_70.all goodWord = true := gz_all (w := Cond.fieldLink RX0 11 "SightedMonths$Almanac" "places" "[LSightedMonths$Place;") rfl gwGA_71
theorem gwGA_69 : wtGA_69.all goodWord = true := gz_all (w := Cond.classLink RX0 9 RX5) rfl gwGA_70
theorem gwGA_68 : wtGA_68.all goodWord = true := gz_all (w := Cond.methodLink RX0 3 objectInit) rfl gwGA_69
theorem gwGA_67 : wtGA_67.all goodWord = true := gz_all (w := Cond.code yX0_init cX0_init 2 none) rfl gwGA_68
theorem gwGA_66 : wtGA_66.all goodWord = true := gz_all (w := Cond.instanceMethod yX0_init) rfl gwGA_67
theorem gwGA_65 : wtGA_65.all goodWord = true := gz_all (w := Cond.methodLink RX6 20 yX0_init) rfl gwGA_66
theorem gwGA_64 : wtGA_64.all goodWord = true := gz_all (w := Cond.fieldLink RX10 15 "SightedMonths$Tape" "length" "I") rfl gwGA_65
theorem gwGA_63 : wtGA_63.all goodWord = true := gz_all (w := Cond.fieldLink RX10 9 "SightedMonths$Tape" "bytes" "[B") rfl gwGA_64
theorem gwGA_62 : wtGA_62.all goodWord = true := gz_all (w := Cond.methodLink RX10 3 objectInit) rfl gwGA_63
theorem gwGA_61 : wtGA_61.all goodWord = true := gz_all (w := Cond.code yX10_init cX10_init 1 none) rfl gwGA_62
theorem gwGA_60 : wtGA_60.all goodWord = true := gz_all (w := Cond.instanceMethod yX10_init) rfl gwGA_61
theorem gwGA_59 : wtGA_59.all goodWord = true := gz_all (w := Cond.fieldLink RX6 38 "SightedMonths$Reader" "stop" "I") rfl gwGA_60
theorem gwGA_58 : wtGA_58.all goodWord = true := gz_all (w := Cond.fieldLink RX6 35 "SightedMonths$Reader" "start" "I") rfl gwGA_59
theorem gwGA_57 : wtGA_57.all goodWord = true := gz_all (w := Cond.fieldLink RX6 32 "SightedMonths$Reader" "token" "I") rfl gwGA_58
theorem gwGA_56 : wtGA_56.all goodWord = true := gz_all (w := Cond.fieldLink RX6 29 "SightedMonths$Reader" "faultPlace" "I") rfl gwGA_57
theorem gwGA_55 : wtGA_55.all goodWord = true := gz_all (w := Cond.fieldLink RX6 25 "SightedMonths$Reader" "faultKind" "I") rfl gwGA_56
theorem gwGA_54 : wtGA_54.all goodWord = true := gz_all (w := Cond.fieldLink RX6 21 "SightedMonths$Reader" "draft" "LSightedMonths$Almanac;") rfl gwGA_55
theorem gwGA_53 : wtGA_53.all goodWord = true := gz_all (w := Cond.classLink RX6 18 RX0) rfl gwGA_54
theorem gwGA_52 : wtGA_52.all goodWord = true := gz_all (w := Cond.fieldLink RX6 12 "SightedMonths$Reader" "tape" "LSightedMonths$Tape;") rfl gwGA_53
theorem gwGA_51 : wtGA_51.all goodWord = true := gz_all (w := Cond.initialized RX10) rfl gwGA_52
theorem gwGA_50 : wtGA_50.all goodWord = true := gz_all (w := Cond.instantiable RX10 2) rfl gwGA_51
theorem gwGA_49 : wtGA_49.all goodWord = true := gz_all (w := Cond.classLink RX6 9 RX10) rfl gwGA_50
theorem gwGA_48 : wtGA_48.all goodWord = true := gz_all (w := Cond.methodLink RX6 3 objectInit) rfl gwGA_49
theorem gwGA_47 : wtGA_47.all goodWord = true := gz_all (w := Cond.code yX6_init cX6_init 1 none) rfl gwGA_48
theorem gwGA_46 : wtGA_46.all goodWord = true := gz_all (w := Cond.instanceMethod yX6_init) rfl gwGA_47
theorem gwGA_45 : wtGA_45.all goodWord = true := gz_all (w := Cond.fieldLink RX11 86 "SightedMonths" "historyStands" "Z") rfl gwGA_46
theorem gwGA_44 : wtGA_44.all goodWord = true := gz_all (w := Cond.fieldLink RX11 83 "SightedMonths" "tallyStands" "Z") rfl gwGA_45
theorem gwGA_43 : wtGA_43.all goodWord = true := gz_all (w := Cond.fieldLink RX11 80 "SightedMonths" "courtNews" "I") rfl gwGA_44
theorem gwGA_42 : wtGA_42.all goodWord = true := gz_all (w := Cond.fieldLink RX11 76 "SightedMonths" "courtStands" "Z") rfl gwGA_43
theorem gwGA_41 : wtGA_41.all goodWord = true := gz_all (w := Cond.fieldLink RX11 72 "SightedMonths" "outLength" "I") rfl gwGA_42
theorem gwGA_40 : wtGA_40.all goodWord = true := gz_all (w := Cond.fieldLink RX11 68 "SightedMonths" "out" "[B") rfl gwGA_41
theorem gwGA_39 : wtGA_39.all goodWord = true := gz_all (w := Cond.arrayClass .byte) rfl gwGA_40
theorem gwGA_38 : wtGA_38.all goodWord = true := gz_all (w := Cond.fieldLink RX11 64 "SightedMonths" "kept" "[I") rfl gwGA_39
theorem gwGA_37 : wtGA_37.all goodWord = true := gz_all (w := Cond.arrayClass .int) rfl gwGA_38
theorem gwGA_36 : wtGA_36.all goodWord = true := gz_all (w := Cond.fieldLink RX11 60 "SightedMonths" "history" "LSightedMonths$History;") rfl gwGA_37
theorem gwGA_35 : wtGA_35.all goodWord = true := gz_all (w := Cond.initialized RX4) rfl gwGA_36
theorem gwGA_34 : wtGA_34.all goodWord = true := gz_all (w := Cond.instantiable RX4 3) rfl gwGA_35
theorem gwGA_33 : wtGA_33.all goodWord = true := gz_all (w := Cond.classLink RX11 57 RX4) rfl gwGA_34
theorem gwGA_32 : wtGA_32.all goodWord = true := gz_all (w := Cond.fieldLink RX11 53 "SightedMonths" "search" "LSightedMonths$Search;") rfl gwGA_33
theorem gwGA_31 : wtGA_31.all goodWord = true := gz_all (w := Cond.initialized RX8) rfl gwGA_32
theorem gwGA_30 : wtGA_30.all goodWord = true := gz_all (w := Cond.instantiable RX8 5) rfl gwGA_31
theorem gwGA_29 : wtGA_29.all goodWord = true := gz_all (w := Cond.classLink RX11 50 RX8) rfl gwGA_30
theorem gwGA_28 : wtGA_28.all goodWord = true := gz_all (w := Cond.fieldLink RX11 46 "SightedMonths" "tally" "LSightedMonths$Tally;") rfl gwGA_29
theorem gwGA_27 : wtGA_27.all goodWord = true := gz_all (w := Cond.initialized RX9) rfl gwGA_28
theorem gwGA_26 : wtGA_26.all goodWord = true := gz_all (w := Cond.instantiable RX9 6) rfl gwGA_27
theorem gwGA_25 : wtGA_25.all goodWord = true := gz_all (w := Cond.classLink RX11 43 RX9) rfl gwGA_26
theorem gwGA_24 : wtGA_24.all goodWord = true := gz_all (w := Cond.fieldLink RX11 40 "SightedMonths" "otherCourt" "LSightedMonths$Court;") rfl gwGA_25
theorem gwGA_23 : wtGA_23.all goodWord = true := gz_all (w := Cond.fieldLink RX11 36 "SightedMonths" "court" "LSightedMonths$Court;") rfl gwGA_24
theorem gwGA_22 : wtGA_22.all goodWord = true := gz_all (w := Cond.initialized RX1) rfl gwGA_23
theorem gwGA_21 : wtGA_21.all goodWord = true := gz_all (w := Cond.instantiable RX1 7) rfl gwGA_22
theorem gwGA_20 : wtGA_20.all goodWord = true := gz_all (w := Cond.classLink RX11 33 RX1) rfl gwGA_21
theorem gwGA_19 : wtGA_19.all goodWord = true := gz_all (w := Cond.fieldLink RX11 29 "SightedMonths" "freeFrame" "LSightedMonths$Frame;") rfl gwGA_20
theorem gwGA_18 : wtGA_18.all goodWord = true := gz_all (w := Cond.initialized RX3) rfl gwGA_19
theorem gwGA_17 : wtGA_17.all goodWord = true := gz_all (w := Cond.instantiable RX3 5) rfl gwGA_18
theorem gwGA_16 : wtGA_16.all goodWord = true := gz_all (w := Cond.classLink RX11 26 RX3) rfl gwGA_17
theorem gwGA_15 : wtGA_15.all goodWord = true := gz_all (w := Cond.fieldLink RX11 23 "SightedMonths" "spare" "LSightedMonths$Almanac;") rfl gwGA_16
theorem gwGA_14 : wtGA_14.all goodWord = true := gz_all (w := Cond.fieldLink RX11 19 "SightedMonths" "almanac" "LSightedMonths$Almanac;") rfl gwGA_15
theorem gwGA_13 : wtGA_13.all goodWord = true := gz_all (w := Cond.initialized RX0) rfl gwGA_14
theorem gwGA_12 : wtGA_12.all goodWord = true := gz_all (w := Cond.instantiable RX0 13) rfl gwGA_13
theorem gwGA_11 : wtGA_11.all goodWord = true := gz_all (w := Cond.classLink RX11 16 RX0) rfl gwGA_12
theorem gwGA_10 : wtGA_10.all goodWord = true := gz_all (w := Cond.fieldLink RX11 12 "SightedMonths" "reader" "LSightedMonths$Reader;") rfl gwGA_11
theorem gwGA_9 : wtGA_9.all goodWord = true := gz_all (w := Cond.initialized RX6) rfl gwGA_10
theorem gwGA_8 : wtGA_8.all goodWord = true := gz_all (w := Cond.instantiable RX6 7) rfl gwGA_9
theorem gwGA_7 : wtGA_7.all goodWord = true := gz_all (w := Cond.classLink RX11 9 RX6) rfl gwGA_8
theorem gwGA_6 : wtGA_6.all goodWord = true := gz_all (w := Cond.code objectInit ⟨#[0xb1]⟩ 1 none) rfl gwGA_7
theorem gwGA_5 : wtGA_5.all goodWord = true := gz_all (w := Cond.instanceMethod objectInit) rfl gwGA_6
theorem gwGA_4 : wtGA_4.all goodWord = true := gz_all (w := Cond.methodLink RX11 3 objectInit) rfl gwGA_5
theorem gwGA_3 : wtGA_3.all goodWord = true := gz_all (w := Cond.code yX11_init cX11_init 1 none) rfl gwGA_4
theorem gwGA_2 : wtGA_2.all goodWord = true := gz_all (w := Cond.instanceMethod yX11_init) rfl gwGA_3
theorem gwGA_1 : wtGA_1.all goodWord = true := gz_all (w := Cond.initialized RX11) rfl gwGA_2
theorem gwGA_0 : wtGA_0.all goodWord = true := gz_all (w := Cond.instantiable RX11 16) rfl gwGA_1
theorem goodGA : wsGA.all goodWord = true := gwGA_0
noncomputable def wtGB_596 : List Cond := wsX120
noncomputable def wtGB_595 : List Cond := Cond.constantLong RX12 494 (5) :: wtGB_596
noncomputable def wtGB_594 : List Cond := Cond.code yX12_runs cX12_runs 6 (some .int) :: wtGB_595
noncomputable def wtGB_593 : List Cond := Cond.selects RX12 yX12_runs yX12_runs :: wtGB_594
noncomputable def wtGB_592 : List Cond := Cond.instanceMethod yX12_runs :: wtGB_593
noncomputable def wtGB_591 : List Cond := Cond.constantLong RX12 492 (31000) :: wtGB_592
noncomputable def wtGB_590 : List Cond := Cond.constantLong RX12 490 (28000) :: wtGB_591
noncomputable def wtGB_589 : List Cond := Cond.constantLong RX12 488 (99999) :: wtGB_590
noncomputable def wtGB_588 : List Cond := Cond.code yX12_moon cX12_moon 3 (some .int) :: wtGB_589
noncomputable def wtGB_587 : List Cond := Cond.selects RX12 yX12_moon yX12_moon :: wtGB_588
noncomputable def wtGB_586 : List Cond := Cond.instanceMethod yX12_moon :: wtGB_587
noncomputable def wtGB_585 : List Cond := Cond.constantLong RX12 486 (9) :: wtGB_586
noncomputable def wtGB_584 : List Cond := Cond.code yX12_trusts cX12_trusts 4 (some .int) :: wtGB_585
noncomputable def wtGB_583 : List Cond := Cond.selects RX12 yX12_trusts yX12_trusts :: wtGB_584
noncomputable def wtGB_582 : List Cond := Cond.instanceMethod yX12_trusts :: wtGB_583
noncomputable def wtGB_581 : List Cond := Cond.code yX12_strikes cX12_strikes 4 (some .int) :: wtGB_582
noncomputable def wtGB_580 : List Cond := Cond.selects RX12 yX12_strikes yX12_strikes :: wtGB_581
noncomputable def wtGB_579 : List Cond := Cond.instanceMethod yX12_strikes :: wtGB_580
noncomputable def wtGB_578 : List Cond := Cond.code yX12_reports cX12_reports 6 (some .int) :: wtGB_579
noncomputable def wtGB_577 : List Cond := Cond.selects RX12 yX12_reports yX12_reports :: wtGB_578
noncomputable def wtGB_576 : List Cond := Cond.instanceMethod yX12_reports :: wtGB_577
noncomputable def wtGB_575 : List Cond := Cond.code yX12_octet cX12_octet 2 (some .int) :: wtGB_576
noncomputable def wtGB_574 : List Cond := Cond.selects RX12 yX12_octet yX12_octet :: wtGB_575
noncomputable def wtGB_573 : List Cond := Cond.instanceMethod yX12_octet :: wtGB_574
noncomputable def wtGB_572 : List Cond := Cond.code yX12_tell cX12_tell 3 (some .int) :: wtGB_573
noncomputable def wtGB_571 : List Cond := Cond.selects RX12 yX12_tell yX12_tell :: wtGB_572
noncomputable def wtGB_570 : List Cond := Cond.instanceMethod yX12_tell :: wtGB_571
noncomputable def wtGB_569 : List Cond := Cond.code yX12_backed cX12_backed 5 (some .int) :: wtGB_570
noncomputable def wtGB_568 : List Cond := Cond.selects RX12 yX12_backed yX12_backed :: wtGB_569
noncomputable def wtGB_567 : List Cond := Cond.instanceMethod yX12_backed :: wtGB_568
noncomputable def wtGB_566 : List Cond := Cond.code yX12_worthBy cX12_worthBy 6 (some .int) :: wtGB_567
noncomputable def wtGB_565 : List Cond := Cond.selects RX12 yX12_worthBy yX12_worthBy :: wtGB_566
noncomputable def wtGB_564 : List Cond := Cond.instanceMethod yX12_worthBy :: wtGB_565
noncomputable def wtGB_563 : List Cond := Cond.methodLink RX12 476 yX12_worthBy :: wtGB_564
noncomputable def wtGB_562 : List Cond := Cond.methodLink RX12 469 Lib.Math.abs.name :: wtGB_563
noncomputable def wtGB_561 : List Cond := Cond.code yX12_costOf cX12_costOf 8 (some .int) :: wtGB_562
noncomputable def wtGB_560 : List Cond := Cond.selects RX12 yX12_costOf yX12_costOf :: wtGB_561
noncomputable def wtGB_559 : List Cond := Cond.instanceMethod yX12_costOf :: wtGB_560
noncomputable def wtGB_558 : List Cond := Cond.methodLink RX12 472 yX12_costOf :: wtGB_559
noncomputable def wtGB_557 : List Cond := Cond.constant RX12 468 (100000000) :: wtGB_558
noncomputable def wtGB_556 : List Cond := Cond.code yX12_laysWorth cX12_laysWorth 8 (some .int) :: wtGB_557
noncomputable def wtGB_555 : List Cond := Cond.selects RX12 yX12_laysWorth yX12_laysWorth :: wtGB_556
noncomputable def wtGB_554 : List Cond := Cond.instanceMethod yX12_laysWorth :: wtGB_555
noncomputable def wtGB_553 : List Cond := Cond.methodLink RX12 482 yX12_laysWorth :: wtGB_554
noncomputable def wtGB_552 : List Cond := Cond.fieldLink RX12 479 "SightedMonthsModel" "worthFull" "I" :: wtGB_553
noncomputable def wtGB_551 : List Cond := Cond.code yX12_nearest cX12_nearest 4 (some .int) :: wtGB_552
noncomputable def wtGB_550 : List Cond := Cond.selects RX12 yX12_nearest yX12_nearest :: wtGB_551
noncomputable def wtGB_549 : List Cond := Cond.instanceMethod yX12_nearest :: wtGB_550
noncomputable def wtGB_548 : List Cond := Cond.code Lib.Math.abs.name Lib.Math.abs.code 1 (some .int) :: wtGB_549
noncomputable def wtGB_547 : List Cond := Cond.static Lib.Math.abs.name :: wtGB_548
noncomputable def wtGB_546 : List Cond := Cond.code yX12_both cX12_both 3 (some .int) :: wtGB_547
noncomputable def wtGB_545 : List Cond := Cond.selects RX12 yX12_both yX12_both :: wtGB_546
noncomputable def wtGB_544 : List Cond := Cond.instanceMethod yX12_both :: wtGB_545
noncomputable def wtGB_543 : List Cond := Cond.code yX12_later cX12_later 4 (some .int) :: wtGB_544
noncomputable def wtGB_542 : List Cond := Cond.selects RX12 yX12_later yX12_later :: wtGB_543
noncomputable def wtGB_541 : List Cond := Cond.instanceMethod yX12_later :: wtGB_542
noncomputable def wtGB_540 : List Cond := Cond.constantLong RX12 418 (6) :: wtGB_541
noncomputable def wtGB_539 : List Cond := Cond.code yX12_weekday cX12_weekday 7 (some .int) :: wtGB_540
noncomputable def wtGB_538 : List Cond := Cond.selects RX12 yX12_weekday yX12_weekday :: wtGB_539
noncomputable def wtGB_537 : List Cond := Cond.instanceMethod yX12_weekday :: wtGB_538
noncomputable def wtGB_536 : List Cond := Cond.code yX12_days cX12_days 3 (some .int) :: wtGB_537
noncomputable def wtGB_535 : List Cond := Cond.selects RX12 yX12_days yX12_days :: wtGB_536
noncomputable def wtGB_534 : List Cond := Cond.instanceMethod yX12_days :: wtGB_535
noncomputable def wtGB_533 : List Cond := Cond.code yX12_trusted cX12_trusted 5 (some .int) :: wtGB_534
noncomputable def wtGB_532 : List Cond := Cond.selects RX12 yX12_trusted yX12_trusted :: wtGB_533
noncomputable def wtGB_531 : List Cond := Cond.instanceMethod yX12_trusted :: wtGB_532
noncomputable def wtGB_530 : List Cond := Cond.code yX12_telling cX12_telling 7 (some .int) :: wtGB_531
noncomputable def wtGB_529 : List Cond := Cond.selects RX12 yX12_telling yX12_telling :: wtGB_530
noncomputable def wtGB_528 : List Cond := Cond.instanceMethod yX12_telling :: wtGB_529
noncomputable def wtGB_527 : List Cond := Cond.code yX12_hang cX12_hang 3 (some .int) :: wtGB_528
noncomputable def wtGB_526 : List Cond := Cond.selects RX12 yX12_hang yX12_hang :: wtGB_527
noncomputable def wtGB_525 : List Cond := Cond.instanceMethod yX12_hang :: wtGB_526
noncomputable def wtGB_524 : List Cond := Cond.code yX12_unlike cX12_unlike 3 (some .int) :: wtGB_525
noncomputable def wtGB_523 : List Cond := Cond.selects RX12 yX12_unlike yX12_unlike :: wtGB_524
noncomputable def wtGB_522 : List Cond := Cond.instanceMethod yX12_unlike :: wtGB_523
noncomputable def wtGB_521 : List Cond := Cond.methodLink RX12 465 yX12_unlike :: wtGB_522
noncomputable def wtGB_520 : List Cond := Cond.code yX12_keepsOfficial cX12_keepsOfficial 2 none :: wtGB_521
noncomputable def wtGB_519 : List Cond := Cond.selects RX12 yX12_keepsOfficial yX12_keepsOfficial :: wtGB_520
noncomputable def wtGB_518 : List Cond := Cond.instanceMethod yX12_keepsOfficial :: wtGB_519
noncomputable def wtGB_517 : List Cond := Cond.methodLink RX12 462 yX12_keepsOfficial :: wtGB_518
noncomputable def wtGB_516 : List Cond := Cond.code yX12_apart cX12_apart 4 (some .int) :: wtGB_517
noncomputable def wtGB_515 : List Cond := Cond.selects RX12 yX12_apart yX12_apart :: wtGB_516
noncomputable def wtGB_514 : List Cond := Cond.instanceMethod yX12_apart :: wtGB_515
noncomputable def wtGB_513 : List Cond := Cond.code yX12_ownBy cX12_ownBy 3 none :: wtGB_514
noncomputable def wtGB_512 : List Cond := Cond.selects RX12 yX12_ownBy yX12_ownBy :: wtGB_513
noncomputable def wtGB_511 : List Cond := Cond.instanceMethod yX12_ownBy :: wtGB_512
noncomputable def wtGB_510 : List Cond := Cond.methodLink RX12 459 yX12_ownBy :: wtGB_511
noncomputable def wtGB_509 : List Cond := Cond.code yX12_own cX12_own 4 (some .int) :: wtGB_510
noncomputable def wtGB_508 : List Cond := Cond.selects RX12 yX12_own yX12_own :: wtGB_509
noncomputable def wtGB_507 : List Cond := Cond.instanceMethod yX12_own :: wtGB_508
noncomputable def wtGB_506 : List Cond := Cond.code yX12_compares cX12_compares 5 none :: wtGB_507
noncomputable def wtGB_505 : List Cond := Cond.selects RX12 yX12_compares yX12_compares :: wtGB_506
noncomputable def wtGB_504 : List Cond := Cond.instanceMethod yX12_compares :: wtGB_505
noncomputable def wtGB_503 : List Cond := Cond.methodLink RX12 456 yX12_compares :: wtGB_504
noncomputable def wtGB_502 : List Cond := Cond.fieldLink RX12 453 "SightedMonthsModel" "canBeMore" "Z" :: wtGB_503
noncomputable def wtGB_501 : List Cond := Cond.fieldLink RX12 450 "SightedMonthsModel" "canBeLess" "Z" :: wtGB_502
noncomputable def wtGB_500 : List Cond := Cond.code yX12_longer cX12_longer 8 (some .int) :: wtGB_501
noncomputable def wtGB_499 : List Cond := Cond.selects RX12 yX12_longer yX12_longer :: wtGB_500
noncomputable def wtGB_498 : List Cond := Cond.instanceMethod yX12_longer :: wtGB_499
noncomputable def wtGB_497 : List Cond := Cond.code yX12_redated cX12_redated 2 (some .int) :: wtGB_498
noncomputable def wtGB_496 : List Cond := Cond.selects RX12 yX12_redated yX12_redated :: wtGB_497
noncomputable def wtGB_495 : List Cond := Cond.instanceMethod yX12_redated :: wtGB_496
noncomputable def wtGB_494 : List Cond := Cond.code yX12_dueOn cX12_dueOn 4 (some .int) :: wtGB_495
noncomputable def wtGB_493 : List Cond := Cond.selects RX12 yX12_dueOn yX12_dueOn :: wtGB_494
noncomputable def wtGB_492 : List Cond := Cond.instanceMethod yX12_dueOn :: wtGB_493
noncomputable def wtGB_491 : List Cond := Cond.code yX12_fallsOn cX12_fallsOn 5 (some .int) :: wtGB_492
noncomputable def wtGB_490 : List Cond := Cond.selects RX12 yX12_fallsOn yX12_fallsOn :: wtGB_491
noncomputable def wtGB_489 : List Cond := Cond.instanceMethod yX12_fallsOn :: wtGB_490
noncomputable def wtGB_488 : List Cond := Cond.methodLink RX12 420 yX12_fallsOn :: wtGB_489
noncomputable def wtGB_487 : List Cond := Cond.code yX12_duesOn cX12_duesOn 4 (some .int) :: wtGB_488
noncomputable def wtGB_486 : List Cond := Cond.selects RX12 yX12_duesOn yX12_duesOn :: wtGB_487
noncomputable def wtGB_485 : List Cond := Cond.instanceMethod yX12_duesOn :: wtGB_486
noncomputable def wtGB_484 : List Cond := Cond.methodLink RX12 444 yX12_duesOn :: wtGB_485
noncomputable def wtGB_483 : List Cond := Cond.code yX12_dueSpanOf cX12_dueSpanOf 7 (some .int) :: wtGB_484
noncomputable def wtGB_482 : List Cond := Cond.selects RX12 yX12_dueSpanOf yX12_dueSpanOf :: wtGB_483
noncomputable def wtGB_481 : List Cond := Cond.instanceMethod yX12_dueSpanOf :: wtGB_482
noncomputable def wtGB_480 : List Cond := Cond.methodLink RX12 447 yX12_dueSpanOf :: wtGB_481
noncomputable def wtGB_479 : List Cond := Cond.code yX12_dueSpan cX12_dueSpan 4 (some .int) :: wtGB_480
noncomputable def wtGB_478 : List Cond := Cond.selects RX12 yX12_dueSpan yX12_dueSpan :: wtGB_479
noncomputable def wtGB_477 : List Cond := Cond.instanceMethod yX12_dueSpan :: wtGB_478
noncomputable def wtGB_476 : List Cond := Cond.code yX12_due cX12_due 3 (some .int) :: wtGB_477
noncomputable def wtGB_475 : List Cond := Cond.selects RX12 yX12_due yX12_due :: wtGB_476
noncomputable def wtGB_474 : List Cond := Cond.instanceMethod yX12_due :: wtGB_475
noncomputable def wtGB_473 : List Cond := Cond.code yX12_settled cX12_settled 2 (some .int) :: wtGB_474
noncomputable def wtGB_472 : List Cond := Cond.selects RX12 yX12_settled yX12_settled :: wtGB_473
noncomputable def wtGB_471 : List Cond := Cond.instanceMethod yX12_settled :: wtGB_472
noncomputable def wtGB_470 : List Cond := Cond.code yX12_nextTime cX12_nextTime 4 (some .int) :: wtGB_471
noncomputable def wtGB_469 : List Cond := Cond.selects RX12 yX12_nextTime yX12_nextTime :: wtGB_470
noncomputable def wtGB_468 : List Cond := Cond.instanceMethod yX12_nextTime :: wtGB_469
noncomputable def wtGB_467 : List Cond := Cond.methodLink RX12 432 yX12_nextTime :: wtGB_468
noncomputable def wtGB_466 : List Cond := Cond.code yX12_behindOf cX12_behindOf 2 (some .int) :: wtGB_467
noncomputable def wtGB_465 : List Cond := Cond.selects RX12 yX12_behindOf yX12_behindOf :: wtGB_466
noncomputable def wtGB_464 : List Cond := Cond.instanceMethod yX12_behindOf :: wtGB_465
noncomputable def wtGB_463 : List Cond := Cond.methodLink RX12 441 yX12_behindOf :: wtGB_464
noncomputable def wtGB_462 : List Cond := Cond.code yX12_monthOf cX12_monthOf 2 (some .int) :: wtGB_463
noncomputable def wtGB_461 : List Cond := Cond.selects RX12 yX12_monthOf yX12_monthOf :: wtGB_462
noncomputable def wtGB_460 : List Cond := Cond.instanceMethod yX12_monthOf :: wtGB_461
noncomputable def wtGB_459 : List Cond := Cond.methodLink RX12 438 yX12_monthOf :: wtGB_460
noncomputable def wtGB_458 : List Cond := Cond.code yX12_dueBy cX12_dueBy 2 (some .int) :: wtGB_459
noncomputable def wtGB_457 : List Cond := Cond.selects RX12 yX12_dueBy yX12_dueBy :: wtGB_458
noncomputable def wtGB_456 : List Cond := Cond.instanceMethod yX12_dueBy :: wtGB_457
noncomputable def wtGB_455 : List Cond := Cond.methodLink RX12 429 yX12_dueBy :: wtGB_456
noncomputable def wtGB_454 : List Cond := Cond.fieldLink RX12 426 "SightedMonthsModel" "latestChange" "I" :: wtGB_455
noncomputable def wtGB_453 : List Cond := Cond.code yX12_follows cX12_follows 6 none :: wtGB_454
noncomputable def wtGB_452 : List Cond := Cond.selects RX12 yX12_follows yX12_follows :: wtGB_453
noncomputable def wtGB_451 : List Cond := Cond.instanceMethod yX12_follows :: wtGB_452
noncomputable def wtGB_450 : List Cond := Cond.methodLink RX12 435 yX12_follows :: wtGB_451
noncomputable def wtGB_449 : List Cond := Cond.fieldLink RX12 423 "SightedMonthsModel" "changes" "I" :: wtGB_450
noncomputable def wtGB_448 : List Cond := Cond.code yX12_shifts cX12_shifts 2 (some .int) :: wtGB_449
noncomputable def wtGB_447 : List Cond := Cond.selects RX12 yX12_shifts yX12_shifts :: wtGB_448
noncomputable def wtGB_446 : List Cond := Cond.instanceMethod yX12_shifts :: wtGB_447
noncomputable def wtGB_445 : List Cond := Cond.initialized "java/lang/System" :: wtGB_446
noncomputable def wtGB_444 : List Cond := Cond.static arraycopyName :: wtGB_445
noncomputable def wtGB_443 : List Cond := Cond.native arraycopyName :: wtGB_444
noncomputable def wtGB_442 : List Cond := Cond.code yX12_moved cX12_moved 5 (some .int) :: wtGB_443
noncomputable def wtGB_441 : List Cond := Cond.selects RX12 yX12_moved yX12_moved :: wtGB_442
noncomputable def wtGB_440 : List Cond := Cond.instanceMethod yX12_moved :: wtGB_441
noncomputable def wtGB_439 : List Cond := Cond.code yX12_likely cX12_likely 8 (some .int) :: wtGB_440
noncomputable def wtGB_438 : List Cond := Cond.selects RX12 yX12_likely yX12_likely :: wtGB_439
noncomputable def wtGB_437 : List Cond := Cond.instanceMethod yX12_likely :: wtGB_438
noncomputable def wtGB_436 : List Cond := Cond.code yX12_datesWith cX12_datesWith 5 (some .int) :: wtGB_437
noncomputable def wtGB_435 : List Cond := Cond.selects RX12 yX12_datesWith yX12_datesWith :: wtGB_436
noncomputable def wtGB_434 : List Cond := Cond.instanceMethod yX12_datesWith :: wtGB_435
noncomputable def wtGB_433 : List Cond := Cond.methodLink RX12 415 yX12_datesWith :: wtGB_434
noncomputable def wtGB_432 : List Cond := Cond.code yX12_dates cX12_dates 6 (some .int) :: wtGB_433
noncomputable def wtGB_431 : List Cond := Cond.selects RX12 yX12_dates yX12_dates :: wtGB_432
noncomputable def wtGB_430 : List Cond := Cond.instanceMethod yX12_dates :: wtGB_431
noncomputable def wtGB_429 : List Cond := Cond.code yX12_date cX12_date 4 (some .int) :: wtGB_430
noncomputable def wtGB_428 : List Cond := Cond.selects RX12 yX12_date yX12_date :: wtGB_429
noncomputable def wtGB_427 : List Cond := Cond.instanceMethod yX12_date :: wtGB_428
noncomputable def wtGB_426 : List Cond := Cond.code yX12_lengthBy cX12_lengthBy 2 (some .int) :: wtGB_427
noncomputable def wtGB_425 : List Cond := Cond.selects RX12 yX12_lengthBy yX12_lengthBy :: wtGB_426
noncomputable def wtGB_424 : List Cond := Cond.instanceMethod yX12_lengthBy :: wtGB_425
noncomputable def wtGB_423 : List Cond := Cond.methodLink RX12 404 yX12_lengthBy :: wtGB_424
noncomputable def wtGB_422 : List Cond := Cond.code yX12_dayBy cX12_dayBy 3 (some .int) :: wtGB_423
noncomputable def wtGB_421 : List Cond := Cond.selects RX12 yX12_dayBy yX12_dayBy :: wtGB_422
noncomputable def wtGB_420 : List Cond := Cond.instanceMethod yX12_dayBy :: wtGB_421
noncomputable def wtGB_419 : List Cond := Cond.methodLink RX12 412 yX12_dayBy :: wtGB_420
noncomputable def wtGB_418 : List Cond := Cond.constantLong RX12 407 (30) :: wtGB_419
noncomputable def wtGB_417 : List Cond := Cond.code yX12_isInMonth cX12_isInMonth 1 (some .boolean) :: wtGB_418
noncomputable def wtGB_416 : List Cond := Cond.static yX12_isInMonth :: wtGB_417
noncomputable def wtGB_415 : List Cond := Cond.methodLink RX12 409 yX12_isInMonth :: wtGB_416
noncomputable def wtGB_414 : List Cond := Cond.code yX12_day cX12_day 4 (some .int) :: wtGB_415
noncomputable def wtGB_413 : List Cond := Cond.selects RX12 yX12_day yX12_day :: wtGB_414
noncomputable def wtGB_412 : List Cond := Cond.instanceMethod yX12_day :: wtGB_413
noncomputable def wtGB_411 : List Cond := Cond.constant RX12 403 (1103515245) :: wtGB_412
noncomputable def wtGB_410 : List Cond := Cond.code yX12_drawn cX12_drawn 3 (some .int) :: wtGB_411
noncomputable def wtGB_409 : List Cond := Cond.selects RX12 yX12_drawn yX12_drawn :: wtGB_410
noncomputable def wtGB_408 : List Cond := Cond.instanceMethod yX12_drawn :: wtGB_409
noncomputable def wtGB_407 : List Cond := Cond.code yX12_rank cX12_rank 8 (some .int) :: wtGB_408
noncomputable def wtGB_406 : List Cond := Cond.selects RX12 yX12_rank yX12_rank :: wtGB_407
noncomputable def wtGB_405 : List Cond := Cond.instanceMethod yX12_rank :: wtGB_406
noncomputable def wtGB_404 : List Cond := Cond.fieldLink RX12 397 "SightedMonthsModel" "rankedFull" "I" :: wtGB_405
noncomputable def wtGB_403 : List Cond := Cond.code yX12_laysRanked cX12_laysRanked 8 none :: wtGB_404
noncomputable def wtGB_402 : List Cond := Cond.selects RX12 yX12_laysRanked yX12_laysRanked :: wtGB_403
noncomputable def wtGB_401 : List Cond := Cond.instanceMethod yX12_laysRanked :: wtGB_402
noncomputable def wtGB_400 : List Cond := Cond.methodLink RX12 400 yX12_laysRanked :: wtGB_401
noncomputable def wtGB_399 : List Cond := Cond.code yX12_ranked cX12_ranked 4 (some .int) :: wtGB_400
noncomputable def wtGB_398 : List Cond := Cond.selects RX12 yX12_ranked yX12_ranked :: wtGB_399
noncomputable def wtGB_397 : List Cond := Cond.instanceMethod yX12_ranked :: wtGB_398
noncomputable def wtGB_396 : List Cond := Cond.code yX12_lean cX12_lean 5 (some .int) :: wtGB_397
noncomputable def wtGB_395 : List Cond := Cond.selects RX12 yX12_lean yX12_lean :: wtGB_396
noncomputable def wtGB_394 : List Cond := Cond.instanceMethod yX12_lean :: wtGB_395
noncomputable def wtGB_393 : List Cond := Cond.code yX12_could cX12_could 4 (some .int) :: wtGB_394
noncomputable def wtGB_392 : List Cond := Cond.selects RX12 yX12_could yX12_could :: wtGB_393
noncomputable def wtGB_391 : List Cond := Cond.instanceMethod yX12_could :: wtGB_392
noncomputable def wtGB_390 : List Cond := Cond.code yX12_isMonth cX12_isMonth 2 (some .boolean) :: wtGB_391
noncomputable def wtGB_389 : List Cond := Cond.selects RX12 yX12_isMonth yX12_isMonth :: wtGB_390
noncomputable def wtGB_388 : List Cond := Cond.instanceMethod yX12_isMonth :: wtGB_389
noncomputable def wtGB_387 : List Cond := Cond.methodLink RX12 394 yX12_isMonth :: wtGB_388
noncomputable def wtGB_386 : List Cond := Cond.code yX12_lasts cX12_lasts 3 (some .int) :: wtGB_387
noncomputable def wtGB_385 : List Cond := Cond.selects RX12 yX12_lasts yX12_lasts :: wtGB_386
noncomputable def wtGB_384 : List Cond := Cond.instanceMethod yX12_lasts :: wtGB_385
noncomputable def wtGB_383 : List Cond := Cond.code yX12_sure cX12_sure 4 (some .int) :: wtGB_384
noncomputable def wtGB_382 : List Cond := Cond.selects RX12 yX12_sure yX12_sure :: wtGB_383
noncomputable def wtGB_381 : List Cond := Cond.instanceMethod yX12_sure :: wtGB_382
noncomputable def wtGB_380 : List Cond := Cond.code yX12_countsWith cX12_countsWith 9 (some .int) :: wtGB_381
noncomputable def wtGB_379 : List Cond := Cond.selects RX12 yX12_countsWith yX12_countsWith :: wtGB_380
noncomputable def wtGB_378 : List Cond := Cond.instanceMethod yX12_countsWith :: wtGB_379
noncomputable def wtGB_377 : List Cond := Cond.methodLink RX12 385 yX12_countsWith :: wtGB_378
noncomputable def wtGB_376 : List Cond := Cond.code yX12_beginsOn cX12_beginsOn 3 (some .int) :: wtGB_377
noncomputable def wtGB_375 : List Cond := Cond.selects RX12 yX12_beginsOn yX12_beginsOn :: wtGB_376
noncomputable def wtGB_374 : List Cond := Cond.instanceMethod yX12_beginsOn :: wtGB_375
noncomputable def wtGB_373 : List Cond := Cond.methodLink RX12 388 yX12_beginsOn :: wtGB_374
noncomputable def wtGB_372 : List Cond := Cond.code yX12_spanOf cX12_spanOf 5 (some .int) :: wtGB_373
noncomputable def wtGB_371 : List Cond := Cond.selects RX12 yX12_spanOf yX12_spanOf :: wtGB_372
noncomputable def wtGB_370 : List Cond := Cond.instanceMethod yX12_spanOf :: wtGB_371
noncomputable def wtGB_369 : List Cond := Cond.methodLink RX12 391 yX12_spanOf :: wtGB_370
noncomputable def wtGB_368 : List Cond := Cond.code yX12_span cX12_span 4 (some .int) :: wtGB_369
noncomputable def wtGB_367 : List Cond := Cond.selects RX12 yX12_span yX12_span :: wtGB_368
noncomputable def wtGB_366 : List Cond := Cond.instanceMethod yX12_span :: wtGB_367
noncomputable def wtGB_365 : List Cond := Cond.code yX12_laysOfficial cX12_laysOfficial 5 none :: wtGB_366
noncomputable def wtGB_364 : List Cond := Cond.selects RX12 yX12_laysOfficial yX12_laysOfficial :: wtGB_365
noncomputable def wtGB_363 : List Cond := Cond.instanceMethod yX12_laysOfficial :: wtGB_364
noncomputable def wtGB_362 : List Cond := Cond.methodLink RX12 376 yX12_laysOfficial :: wtGB_363
noncomputable def wtGB_361 : List Cond := Cond.code yX12_officialBy cX12_officialBy 2 none :: wtGB_362
noncomputable def wtGB_360 : List Cond := Cond.selects RX12 yX12_officialBy yX12_officialBy :: wtGB_361
noncomputable def wtGB_359 : List Cond := Cond.instanceMethod yX12_officialBy :: wtGB_360
noncomputable def wtGB_358 : List Cond := Cond.methodLink RX12 382 yX12_officialBy :: wtGB_359
noncomputable def wtGB_357 : List Cond := Cond.code yX12_isBegin cX12_isBegin 2 (some .boolean) :: wtGB_358
noncomputable def wtGB_356 : List Cond := Cond.selects RX12 yX12_isBegin yX12_isBegin :: wtGB_357
noncomputable def wtGB_355 : List Cond := Cond.instanceMethod yX12_isBegin :: wtGB_356
noncomputable def wtGB_354 : List Cond := Cond.methodLink RX12 379 yX12_isBegin :: wtGB_355
noncomputable def wtGB_353 : List Cond := Cond.code yX12_begin cX12_begin 3 (some .int) :: wtGB_354
noncomputable def wtGB_352 : List Cond := Cond.selects RX12 yX12_begin yX12_begin :: wtGB_353
noncomputable def wtGB_351 : List Cond := Cond.instanceMethod yX12_begin :: wtGB_352
noncomputable def wtGB_350 : List Cond := Cond.code yX12_ways cX12_ways 2 (some .int) :: wtGB_351
noncomputable def wtGB_349 : List Cond := Cond.selects RX12 yX12_ways yX12_ways :: wtGB_350
noncomputable def wtGB_348 : List Cond := Cond.instanceMethod yX12_ways :: wtGB_349
noncomputable def wtGB_347 : List Cond := Cond.code yJ7_fill_53178 cJ7_fill_53178 4 none :: wtGB_348
noncomputable def wtGB_346 : List Cond := Cond.initialized RJ7 :: wtGB_347
noncomputable def wtGB_345 : List Cond := Cond.static yJ7_fill_53178 :: wtGB_346
noncomputable def wtGB_344 : List Cond := Cond.code yX12_blind cX12_blind 5 (some .int) :: wtGB_345
noncomputable def wtGB_343 : List Cond := Cond.selects RX12 yX12_blind yX12_blind :: wtGB_344
noncomputable def wtGB_342 : List Cond := Cond.instanceMethod yX12_blind :: wtGB_343
noncomputable def wtGB_341 : List Cond := Cond.code yX12_areBoth cX12_areBoth 3 (some .boolean) :: wtGB_342
noncomputable def wtGB_340 : List Cond := Cond.selects RX12 yX12_areBoth yX12_areBoth :: wtGB_341
noncomputable def wtGB_339 : List Cond := Cond.instanceMethod yX12_areBoth :: wtGB_340
noncomputable def wtGB_338 : List Cond := Cond.methodLink RX12 373 yX12_areBoth :: wtGB_339
noncomputable def wtGB_337 : List Cond := Cond.code yX12_against cX12_against 5 (some .int) :: wtGB_338
noncomputable def wtGB_336 : List Cond := Cond.selects RX12 yX12_against yX12_against :: wtGB_337
noncomputable def wtGB_335 : List Cond := Cond.instanceMethod yX12_against :: wtGB_336
noncomputable def wtGB_334 : List Cond := Cond.code yX12_order cX12_order 3 (some .int) :: wtGB_335
noncomputable def wtGB_333 : List Cond := Cond.selects RX12 yX12_order yX12_order :: wtGB_334
noncomputable def wtGB_332 : List Cond := Cond.instanceMethod yX12_order :: wtGB_333
noncomputable def wtGB_331 : List Cond := Cond.methodLink RX12 368 yJ6_bitCount_0f7a4 :: wtGB_332
noncomputable def wtGB_330 : List Cond := Cond.code yX12_takenBits cX12_takenBits 3 (some .int) :: wtGB_331
noncomputable def wtGB_329 : List Cond := Cond.selects RX12 yX12_takenBits yX12_takenBits :: wtGB_330
noncomputable def wtGB_328 : List Cond := Cond.instanceMethod yX12_takenBits :: wtGB_329
noncomputable def wtGB_327 : List Cond := Cond.methodLink RX12 365 yX12_takenBits :: wtGB_328
noncomputable def wtGB_326 : List Cond := Cond.code yX12_taken cX12_taken 2 (some .int) :: wtGB_327
noncomputable def wtGB_325 : List Cond := Cond.selects RX12 yX12_taken yX12_taken :: wtGB_326
noncomputable def wtGB_324 : List Cond := Cond.instanceMethod yX12_taken :: wtGB_325
noncomputable def wtGB_323 : List Cond := Cond.constant RJ6 267 (252645135) :: wtGB_324
noncomputable def wtGB_322 : List Cond := Cond.constant RJ6 266 (858993459) :: wtGB_323
noncomputable def wtGB_321 : List Cond := Cond.constant RJ6 265 (1431655765) :: wtGB_322
noncomputable def wtGB_320 : List Cond := Cond.code yJ6_bitCount_0f7a4 cJ6_bitCount_0f7a4 1 (some .int) :: wtGB_321
noncomputable def wtGB_319 : List Cond := Cond.initialized RJ6 :: wtGB_320
noncomputable def wtGB_318 : List Cond := Cond.static yJ6_bitCount_0f7a4 :: wtGB_319
noncomputable def wtGB_317 : List Cond := Cond.code yX12_placeOf cX12_placeOf 3 (some .int) :: wtGB_318
noncomputable def wtGB_316 : List Cond := Cond.static yX12_placeOf :: wtGB_317
noncomputable def wtGB_315 : List Cond := Cond.methodLink RX12 321 yX12_placeOf :: wtGB_316
noncomputable def wtGB_314 : List Cond := Cond.code yX12_runBehind cX12_runBehind 4 (some .int) :: wtGB_315
noncomputable def wtGB_313 : List Cond := Cond.selects RX12 yX12_runBehind yX12_runBehind :: wtGB_314
noncomputable def wtGB_312 : List Cond := Cond.instanceMethod yX12_runBehind :: wtGB_313
noncomputable def wtGB_311 : List Cond := Cond.methodLink RX12 318 yX12_runBehind :: wtGB_312
noncomputable def wtGB_310 : List Cond := Cond.code yX12_waysBy cX12_waysBy 6 (some .int) :: wtGB_311
noncomputable def wtGB_309 : List Cond := Cond.selects RX12 yX12_waysBy yX12_waysBy :: wtGB_310
noncomputable def wtGB_308 : List Cond := Cond.instanceMethod yX12_waysBy :: wtGB_309
noncomputable def wtGB_307 : List Cond := Cond.methodLink RX12 328 yX12_waysBy :: wtGB_308
noncomputable def wtGB_306 : List Cond := Cond.code yX12_isOpen cX12_isOpen 3 (some .boolean) :: wtGB_307
noncomputable def wtGB_305 : List Cond := Cond.selects RX12 yX12_isOpen yX12_isOpen :: wtGB_306
noncomputable def wtGB_304 : List Cond := Cond.instanceMethod yX12_isOpen :: wtGB_305
noncomputable def wtGB_303 : List Cond := Cond.methodLink RX12 325 yX12_isOpen :: wtGB_304
noncomputable def wtGB_302 : List Cond := Cond.code yX12_counts cX12_counts 6 (some .int) :: wtGB_303
noncomputable def wtGB_301 : List Cond := Cond.selects RX12 yX12_counts yX12_counts :: wtGB_302
noncomputable def wtGB_300 : List Cond := Cond.instanceMethod yX12_counts :: wtGB_301
noncomputable def wtGB_299 : List Cond := Cond.methodLink RX12 332 yX12_counts :: wtGB_300
noncomputable def wtGB_298 : List Cond := Cond.code yX12_holds cX12_holds 4 none :: wtGB_299
noncomputable def wtGB_297 : List Cond := Cond.selects RX12 yX12_holds yX12_holds :: wtGB_298
noncomputable def wtGB_296 : List Cond := Cond.instanceMethod yX12_holds :: wtGB_297
noncomputable def wtGB_295 : List Cond := Cond.methodLink RX12 347 yX12_holds :: wtGB_296
noncomputable def wtGB_294 : List Cond := Cond.code yX12_judges cX12_judges 5 (some .int) :: wtGB_295
noncomputable def wtGB_293 : List Cond := Cond.selects RX12 yX12_judges yX12_judges :: wtGB_294
noncomputable def wtGB_292 : List Cond := Cond.instanceMethod yX12_judges :: wtGB_293
noncomputable def wtGB_291 : List Cond := Cond.methodLink RX12 356 yX12_judges :: wtGB_292
noncomputable def wtGB_290 : List Cond := Cond.code yX12_trustOf cX12_trustOf 2 (some .int) :: wtGB_291
noncomputable def wtGB_289 : List Cond := Cond.selects RX12 yX12_trustOf yX12_trustOf :: wtGB_290
noncomputable def wtGB_288 : List Cond := Cond.instanceMethod yX12_trustOf :: wtGB_289
noncomputable def wtGB_287 : List Cond := Cond.methodLink RX12 335 yX12_trustOf :: wtGB_288
noncomputable def wtGB_286 : List Cond := Cond.code yX12_isAhead cX12_isAhead 5 (some .boolean) :: wtGB_287
noncomputable def wtGB_285 : List Cond := Cond.selects RX12 yX12_isAhead yX12_isAhead :: wtGB_286
noncomputable def wtGB_284 : List Cond := Cond.instanceMethod yX12_isAhead :: wtGB_285
noncomputable def wtGB_283 : List Cond := Cond.methodLink RX12 344 yX12_isAhead :: wtGB_284
noncomputable def wtGB_282 : List Cond := Cond.code yX12_isKnown cX12_isKnown 3 (some .boolean) :: wtGB_283
noncomputable def wtGB_281 : List Cond := Cond.selects RX12 yX12_isKnown yX12_isKnown :: wtGB_282
noncomputable def wtGB_280 : List Cond := Cond.instanceMethod yX12_isKnown :: wtGB_281
noncomputable def wtGB_279 : List Cond := Cond.methodLink RX12 341 yX12_isKnown :: wtGB_280
noncomputable def wtGB_278 : List Cond := Cond.code yX12_laysRow cX12_laysRow 4 none :: wtGB_279
noncomputable def wtGB_277 : List Cond := Cond.selects RX12 yX12_laysRow yX12_laysRow :: wtGB_278
noncomputable def wtGB_276 : List Cond := Cond.instanceMethod yX12_laysRow :: wtGB_277
noncomputable def wtGB_275 : List Cond := Cond.methodLink RX12 353 yX12_laysRow :: wtGB_276
noncomputable def wtGB_274 : List Cond := Cond.code yX12_unpins cX12_unpins 2 none :: wtGB_275
noncomputable def wtGB_273 : List Cond := Cond.selects RX12 yX12_unpins yX12_unpins :: wtGB_274
noncomputable def wtGB_272 : List Cond := Cond.instanceMethod yX12_unpins :: wtGB_273
noncomputable def wtGB_271 : List Cond := Cond.methodLink RX12 315 yX12_unpins :: wtGB_272
noncomputable def wtGB_270 : List Cond := Cond.fieldLink RX12 312 "SightedMonthsModel" "isBroken" "Z" :: wtGB_271
noncomputable def wtGB_269 : List Cond := Cond.code yX12_frees cX12_frees 2 none :: wtGB_270
noncomputable def wtGB_268 : List Cond := Cond.selects RX12 yX12_frees yX12_frees :: wtGB_269
noncomputable def wtGB_267 : List Cond := Cond.instanceMethod yX12_frees :: wtGB_268
noncomputable def wtGB_266 : List Cond := Cond.methodLink RX12 350 yX12_frees :: wtGB_267
noncomputable def wtGB_265 : List Cond := Cond.fieldLink RX12 338 "SightedMonthsModel" "rowMany" "I" :: wtGB_266
noncomputable def wtGB_264 : List Cond := Cond.code yX12_judgesAll cX12_judgesAll 3 none :: wtGB_265
noncomputable def wtGB_263 : List Cond := Cond.selects RX12 yX12_judgesAll yX12_judgesAll :: wtGB_264
noncomputable def wtGB_262 : List Cond := Cond.instanceMethod yX12_judgesAll :: wtGB_263
noncomputable def wtGB_261 : List Cond := Cond.methodLink RX12 362 yX12_judgesAll :: wtGB_262
noncomputable def wtGB_260 : List Cond := Cond.constantLong RX12 292 (999) :: wtGB_261
noncomputable def wtGB_259 : List Cond := Cond.code yX12_isTime cX12_isTime 2 (some .boolean) :: wtGB_260
noncomputable def wtGB_258 : List Cond := Cond.selects RX12 yX12_isTime yX12_isTime :: wtGB_259
noncomputable def wtGB_257 : List Cond := Cond.instanceMethod yX12_isTime :: wtGB_258
noncomputable def wtGB_256 : List Cond := Cond.methodLink RX12 359 yX12_isTime :: wtGB_257
noncomputable def wtGB_255 : List Cond := Cond.code yX12_judged cX12_judged 3 (some .int) :: wtGB_256
noncomputable def wtGB_254 : List Cond := Cond.selects RX12 yX12_judged yX12_judged :: wtGB_255
noncomputable def wtGB_253 : List Cond := Cond.instanceMethod yX12_judged :: wtGB_254
noncomputable def wtGB_252 : List Cond := Cond.code yX12_earlyOf cX12_earlyOf 2 (some .int) :: wtGB_253
noncomputable def wtGB_251 : List Cond := Cond.selects RX12 yX12_earlyOf yX12_earlyOf :: wtGB_252
noncomputable def wtGB_250 : List Cond := Cond.instanceMethod yX12_earlyOf :: wtGB_251
noncomputable def wtGB_249 : List Cond := Cond.methodLink RX12 309 yX12_earlyOf :: wtGB_250
noncomputable def wtGB_248 : List Cond := Cond.code yX12_early cX12_early 2 (some .int) :: wtGB_249
noncomputable def wtGB_247 : List Cond := Cond.selects RX12 yX12_early yX12_early :: wtGB_248
noncomputable def wtGB_246 : List Cond := Cond.instanceMethod yX12_early :: wtGB_247
noncomputable def wtGB_245 : List Cond := Cond.code yX12_isDeed cX12_isDeed 2 (some .boolean) :: wtGB_246
noncomputable def wtGB_244 : List Cond := Cond.selects RX12 yX12_isDeed yX12_isDeed :: wtGB_245
noncomputable def wtGB_243 : List Cond := Cond.instanceMethod yX12_isDeed :: wtGB_244
noncomputable def wtGB_242 : List Cond := Cond.methodLink RX12 306 yX12_isDeed :: wtGB_243
noncomputable def wtGB_241 : List Cond := Cond.code yX12_deed cX12_deed 3 (some .int) :: wtGB_242
noncomputable def wtGB_240 : List Cond := Cond.selects RX12 yX12_deed yX12_deed :: wtGB_241
noncomputable def wtGB_239 : List Cond := Cond.instanceMethod yX12_deed :: wtGB_240
noncomputable def wtGB_238 : List Cond := Cond.code yX12_isReport cX12_isReport 2 (some .boolean) :: wtGB_239
noncomputable def wtGB_237 : List Cond := Cond.selects RX12 yX12_isReport yX12_isReport :: wtGB_238
noncomputable def wtGB_236 : List Cond := Cond.instanceMethod yX12_isReport :: wtGB_237
noncomputable def wtGB_235 : List Cond := Cond.methodLink RX12 303 yX12_isReport :: wtGB_236
noncomputable def wtGB_234 : List Cond := Cond.code yX12_report cX12_report 3 (some .int) :: wtGB_235
noncomputable def wtGB_233 : List Cond := Cond.selects RX12 yX12_report yX12_report :: wtGB_234
noncomputable def wtGB_232 : List Cond := Cond.instanceMethod yX12_report :: wtGB_233
noncomputable def wtGB_231 : List Cond := Cond.code yX12_isNameAhead cX12_isNameAhead 6 (some .boolean) :: wtGB_232
noncomputable def wtGB_230 : List Cond := Cond.selects RX12 yX12_isNameAhead yX12_isNameAhead :: wtGB_231
noncomputable def wtGB_229 : List Cond := Cond.instanceMethod yX12_isNameAhead :: wtGB_230
noncomputable def wtGB_228 : List Cond := Cond.methodLink RX12 300 yX12_isNameAhead :: wtGB_229
noncomputable def wtGB_227 : List Cond := Cond.code yX12_isPlace cX12_isPlace 2 (some .boolean) :: wtGB_228
noncomputable def wtGB_226 : List Cond := Cond.selects RX12 yX12_isPlace yX12_isPlace :: wtGB_227
noncomputable def wtGB_225 : List Cond := Cond.instanceMethod yX12_isPlace :: wtGB_226
noncomputable def wtGB_224 : List Cond := Cond.methodLink RX12 294 yX12_isPlace :: wtGB_225
noncomputable def wtGB_223 : List Cond := Cond.constantLong RX12 298 (2) :: wtGB_224
noncomputable def wtGB_222 : List Cond := Cond.code yX12_place cX12_place 6 (some .int) :: wtGB_223
noncomputable def wtGB_221 : List Cond := Cond.selects RX12 yX12_place yX12_place :: wtGB_222
noncomputable def wtGB_220 : List Cond := Cond.instanceMethod yX12_place :: wtGB_221
noncomputable def wtGB_219 : List Cond := Cond.fieldLink RX12 289 "SightedMonthsModel" "outs" "I" :: wtGB_220
noncomputable def wtGB_218 : List Cond := Cond.code yX12_count cX12_count 2 (some .int) :: wtGB_219
noncomputable def wtGB_217 : List Cond := Cond.selects RX12 yX12_count yX12_count :: wtGB_218
noncomputable def wtGB_216 : List Cond := Cond.instanceMethod yX12_count :: wtGB_217
noncomputable def wtGB_215 : List Cond := Cond.code yX12_fault cX12_fault 2 (some .int) :: wtGB_216
noncomputable def wtGB_214 : List Cond := Cond.selects RX12 yX12_fault yX12_fault :: wtGB_215
noncomputable def wtGB_213 : List Cond := Cond.instanceMethod yX12_fault :: wtGB_214
noncomputable def wtGB_212 : List Cond := Cond.code yX12_readsDeed cX12_readsDeed 6 none :: wtGB_213
noncomputable def wtGB_211 : List Cond := Cond.selects RX12 yX12_readsDeed yX12_readsDeed :: wtGB_212
noncomputable def wtGB_210 : List Cond := Cond.instanceMethod yX12_readsDeed :: wtGB_211
noncomputable def wtGB_209 : List Cond := Cond.methodLink RX12 280 yX12_readsDeed :: wtGB_210
noncomputable def wtGB_208 : List Cond := Cond.code yX12_lays cX12_lays 6 none :: wtGB_209
noncomputable def wtGB_207 : List Cond := Cond.selects RX12 yX12_lays yX12_lays :: wtGB_208
noncomputable def wtGB_206 : List Cond := Cond.instanceMethod yX12_lays :: wtGB_207
noncomputable def wtGB_205 : List Cond := Cond.methodLink RX12 236 yX12_lays :: wtGB_206
noncomputable def wtGB_204 : List Cond := Cond.code Lib.Math.max.name Lib.Math.max.code 2 (some .int) :: wtGB_205
noncomputable def wtGB_203 : List Cond := Cond.static Lib.Math.max.name :: wtGB_204
noncomputable def wtGB_202 : List Cond := Cond.methodLink RX12 219 Lib.Math.max.name :: wtGB_203
noncomputable def wtGB_201 : List Cond := Cond.code yX12_placeHere cX12_placeHere 2 (some .int) :: wtGB_202
noncomputable def wtGB_200 : List Cond := Cond.selects RX12 yX12_placeHere yX12_placeHere :: wtGB_201
noncomputable def wtGB_199 : List Cond := Cond.instanceMethod yX12_placeHere :: wtGB_200
noncomputable def wtGB_198 : List Cond := Cond.methodLink RX12 227 yX12_placeHere :: wtGB_199
noncomputable def wtGB_197 : List Cond := Cond.code yX12_readsReport cX12_readsReport 6 none :: wtGB_198
noncomputable def wtGB_196 : List Cond := Cond.selects RX12 yX12_readsReport yX12_readsReport :: wtGB_197
noncomputable def wtGB_195 : List Cond := Cond.instanceMethod yX12_readsReport :: wtGB_196
noncomputable def wtGB_194 : List Cond := Cond.methodLink RX12 275 yX12_readsReport :: wtGB_195
noncomputable def wtGB_193 : List Cond := Cond.code yX12_named cX12_named 4 (some .int) :: wtGB_194
noncomputable def wtGB_192 : List Cond := Cond.selects RX12 yX12_named yX12_named :: wtGB_193
noncomputable def wtGB_191 : List Cond := Cond.instanceMethod yX12_named :: wtGB_192
noncomputable def wtGB_190 : List Cond := Cond.methodLink RX12 216 yX12_named :: wtGB_191
noncomputable def wtGB_189 : List Cond := Cond.code yX12_readsPlace cX12_readsPlace 2 none :: wtGB_190
noncomputable def wtGB_188 : List Cond := Cond.selects RX12 yX12_readsPlace yX12_readsPlace :: wtGB_189
noncomputable def wtGB_187 : List Cond := Cond.instanceMethod yX12_readsPlace :: wtGB_188
noncomputable def wtGB_186 : List Cond := Cond.methodLink RX12 266 yX12_readsPlace :: wtGB_187
noncomputable def wtGB_185 : List Cond := Cond.constant RX12 247 (99999) :: wtGB_186
noncomputable def wtGB_184 : List Cond := Cond.code yX12_readsMoon cX12_readsMoon 1 none :: wtGB_185
noncomputable def wtGB_183 : List Cond := Cond.selects RX12 yX12_readsMoon yX12_readsMoon :: wtGB_184
noncomputable def wtGB_182 : List Cond := Cond.instanceMethod yX12_readsMoon :: wtGB_183
noncomputable def wtGB_181 : List Cond := Cond.methodLink RX12 261 yX12_readsMoon :: wtGB_182
noncomputable def wtGB_180 : List Cond := Cond.code yX12_number cX12_number 4 (some .int) :: wtGB_181
noncomputable def wtGB_179 : List Cond := Cond.selects RX12 yX12_number yX12_number :: wtGB_180
noncomputable def wtGB_178 : List Cond := Cond.instanceMethod yX12_number :: wtGB_179
noncomputable def wtGB_177 : List Cond := Cond.methodLink RX12 213 yX12_number :: wtGB_178
noncomputable def wtGB_176 : List Cond := Cond.code yX12_numberBehind cX12_numberBehind 4 (some .int) :: wtGB_177
noncomputable def wtGB_175 : List Cond := Cond.selects RX12 yX12_numberBehind yX12_numberBehind :: wtGB_176
noncomputable def wtGB_174 : List Cond := Cond.instanceMethod yX12_numberBehind :: wtGB_175
noncomputable def wtGB_173 : List Cond := Cond.methodLink RX12 223 yX12_numberBehind :: wtGB_174
noncomputable def wtGB_172 : List Cond := Cond.code yX12_faultsAt cX12_faultsAt 3 none :: wtGB_173
noncomputable def wtGB_171 : List Cond := Cond.selects RX12 yX12_faultsAt yX12_faultsAt :: wtGB_172
noncomputable def wtGB_170 : List Cond := Cond.instanceMethod yX12_faultsAt :: wtGB_171
noncomputable def wtGB_169 : List Cond := Cond.methodLink RX12 180 yX12_faultsAt :: wtGB_170
noncomputable def wtGB_168 : List Cond := Cond.code yX12_faults cX12_faults 2 none :: wtGB_169
noncomputable def wtGB_167 : List Cond := Cond.selects RX12 yX12_faults yX12_faults :: wtGB_168
noncomputable def wtGB_166 : List Cond := Cond.instanceMethod yX12_faults :: wtGB_167
noncomputable def wtGB_165 : List Cond := Cond.methodLink RX12 194 yX12_faults :: wtGB_166
noncomputable def wtGB_164 : List Cond := Cond.code yX12_passes cX12_passes 2 none :: wtGB_165
noncomputable def wtGB_163 : List Cond := Cond.selects RX12 yX12_passes yX12_passes :: wtGB_164
noncomputable def wtGB_162 : List Cond := Cond.instanceMethod yX12_passes :: wtGB_163
noncomputable def wtGB_161 : List Cond := Cond.methodLink RX12 205 yX12_passes :: wtGB_162
noncomputable def wtGB_160 : List Cond := Cond.methodLink RX12 190 yJ0_charAt_5068e :: wtGB_161
noncomputable def wtGB_159 : List Cond := Cond.methodLink RX12 184 yJ0_length_8abf5 :: wtGB_160
noncomputable def wtGB_158 : List Cond := Cond.code yX12_isWord cX12_isWord 4 (some .boolean) :: wtGB_159
noncomputable def wtGB_157 : List Cond := Cond.selects RX12 yX12_isWord yX12_isWord :: wtGB_158
noncomputable def wtGB_156 : List Cond := Cond.instanceMethod yX12_isWord :: wtGB_157
noncomputable def wtGB_155 : List Cond := Cond.methodLink RX12 201 yX12_isWord :: wtGB_156
noncomputable def wtGB_154 : List Cond := Cond.code yX12_word cX12_word 2 none :: wtGB_155
noncomputable def wtGB_153 : List Cond := Cond.selects RX12 yX12_word yX12_word :: wtGB_154
noncomputable def wtGB_152 : List Cond := Cond.instanceMethod yX12_word :: wtGB_153
noncomputable def wtGB_151 : List Cond := Cond.methodLink RX12 209 yX12_word :: wtGB_152
noncomputable def wtGB_150 : List Cond := Cond.code yX12_readsHead cX12_readsHead 1 none :: wtGB_151
noncomputable def wtGB_149 : List Cond := Cond.selects RX12 yX12_readsHead yX12_readsHead :: wtGB_150
noncomputable def wtGB_148 : List Cond := Cond.instanceMethod yX12_readsHead :: wtGB_149
noncomputable def wtGB_147 : List Cond := Cond.methodLink RX12 256 yX12_readsHead :: wtGB_148
noncomputable def wtGB_146 : List Cond := Cond.code yX12_readsLine cX12_readsLine 1 none :: wtGB_147
noncomputable def wtGB_145 : List Cond := Cond.selects RX12 yX12_readsLine yX12_readsLine :: wtGB_146
noncomputable def wtGB_144 : List Cond := Cond.instanceMethod yX12_readsLine :: wtGB_145
noncomputable def wtGB_143 : List Cond := Cond.methodLink RX12 286 yX12_readsLine :: wtGB_144
noncomputable def wtGB_142 : List Cond := Cond.code yX12_isAt cX12_isAt 3 (some .boolean) :: wtGB_143
noncomputable def wtGB_141 : List Cond := Cond.selects RX12 yX12_isAt yX12_isAt :: wtGB_142
noncomputable def wtGB_140 : List Cond := Cond.instanceMethod yX12_isAt :: wtGB_141
noncomputable def wtGB_139 : List Cond := Cond.methodLink RX12 154 yX12_isAt :: wtGB_140
noncomputable def wtGB_138 : List Cond := Cond.methodLink RX12 168 Lib.Math.min.name :: wtGB_139
noncomputable def wtGB_137 : List Cond := Cond.constant RX12 167 (100000) :: wtGB_138
noncomputable def wtGB_136 : List Cond := Cond.fieldLink RX12 161 "SightedMonthsModel" "value" "I" :: wtGB_137
noncomputable def wtGB_135 : List Cond := Cond.fieldLink RX12 158 "SightedMonthsModel" "begin" "I" :: wtGB_136
noncomputable def wtGB_134 : List Cond := Cond.code yX12_next cX12_next 1 none :: wtGB_135
noncomputable def wtGB_133 : List Cond := Cond.selects RX12 yX12_next yX12_next :: wtGB_134
noncomputable def wtGB_132 : List Cond := Cond.instanceMethod yX12_next :: wtGB_133
noncomputable def wtGB_131 : List Cond := Cond.methodLink RX12 198 yX12_next :: wtGB_132
noncomputable def wtGB_130 : List Cond := Cond.code yX12_movesRow cX12_movesRow 3 none :: wtGB_131
noncomputable def wtGB_129 : List Cond := Cond.selects RX12 yX12_movesRow yX12_movesRow :: wtGB_130
noncomputable def wtGB_128 : List Cond := Cond.instanceMethod yX12_movesRow :: wtGB_129
noncomputable def wtGB_127 : List Cond := Cond.methodLink RX12 147 yX12_movesRow :: wtGB_128
noncomputable def wtGB_126 : List Cond := Cond.code yX12_moves cX12_moves 3 (some .int) :: wtGB_127
noncomputable def wtGB_125 : List Cond := Cond.selects RX12 yX12_moves yX12_moves :: wtGB_126
noncomputable def wtGB_124 : List Cond := Cond.instanceMethod yX12_moves :: wtGB_125
noncomputable def wtGB_123 : List Cond := Cond.methodLink RX12 113 yX12_moves :: wtGB_124
noncomputable def wtGB_122 : List Cond := Cond.fieldLink RX12 110 "SightedMonthsModel" "keptAt" "I" :: wtGB_123
noncomputable def wtGB_121 : List Cond := Cond.fieldLink RX12 106 "SightedMonthsModel" "keeps" "Z" :: wtGB_122
noncomputable def wtGB_120 : List Cond := Cond.code yX12_movesAll cX12_movesAll 3 none :: wtGB_121
noncomputable def wtGB_119 : List Cond := Cond.selects RX12 yX12_movesAll yX12_movesAll :: wtGB_120
noncomputable def wtGB_118 : List Cond := Cond.instanceMethod yX12_movesAll :: wtGB_119
noncomputable def wtGB_117 : List Cond := Cond.methodLink RX12 283 yX12_movesAll :: wtGB_118
noncomputable def wtGB_116 : List Cond := Cond.fieldLink RX12 164 "SightedMonthsModel" "token" "I" :: wtGB_117
noncomputable def wtGB_115 : List Cond := Cond.fieldLink RX12 177 "SightedMonthsModel" "faultKind" "I" :: wtGB_116
noncomputable def wtGB_114 : List Cond := Cond.fieldLink RX12 174 "SightedMonthsModel" "bad" "Z" :: wtGB_115
noncomputable def wtGB_113 : List Cond := Cond.fieldLink RX12 151 "SightedMonthsModel" "at" "I" :: wtGB_114
noncomputable def wtGB_112 : List Cond := Cond.fieldLink RX12 144 "SightedMonthsModel" "deeds" "I" :: wtGB_113
noncomputable def wtGB_111 : List Cond := Cond.fieldLink RX12 141 "SightedMonthsModel" "reports" "I" :: wtGB_112
noncomputable def wtGB_110 : List Cond := Cond.fieldLink RX12 138 "SightedMonthsModel" "places" "I" :: wtGB_111
noncomputable def wtGB_109 : List Cond := Cond.fieldLink RX12 135 "SightedMonthsModel" "moonStep" "I" :: wtGB_110
noncomputable def wtGB_108 : List Cond := Cond.fieldLink RX12 132 "SightedMonthsModel" "moonFirst" "I" :: wtGB_109
noncomputable def wtGB_107 : List Cond := Cond.fieldLink RX12 129 "SightedMonthsModel" "hasMoon" "Z" :: wtGB_108
noncomputable def wtGB_106 : List Cond := Cond.fieldLink RX12 126 "SightedMonthsModel" "lines" "I" :: wtGB_107
noncomputable def wtGB_105 : List Cond := Cond.fieldLink RX12 123 "SightedMonthsModel" "mostLean" "I" :: wtGB_106
noncomputable def wtGB_104 : List Cond := Cond.fieldLink RX12 120 "SightedMonthsModel" "mostFull" "I" :: wtGB_105
noncomputable def wtGB_103 : List Cond := Cond.fieldLink RX12 117 "SightedMonthsModel" "months" "I" :: wtGB_104
noncomputable def wtGB_102 : List Cond := Cond.code yX12_almanac cX12_almanac 1 (some .int) :: wtGB_103
noncomputable def wtGB_101 : List Cond := Cond.selects RX12 yX12_almanac yX12_almanac :: wtGB_102
noncomputable def wtGB_100 : List Cond := Cond.instanceMethod yX12_almanac :: wtGB_101
noncomputable def wtGB_99 : List Cond := Cond.code Lib.Math.min.name Lib.Math.min.code 2 (some .int) :: wtGB_100
noncomputable def wtGB_98 : List Cond := Cond.initialized "java/lang/Math" :: wtGB_99
noncomputable def wtGB_97 : List Cond := Cond.static Lib.Math.min.name :: wtGB_98
noncomputable def wtGB_96 : List Cond := Cond.fieldLink RJ2 63 "java/lang/StringUTF16" "LO_BYTE_SHIFT" "I" :: wtGB_97
noncomputable def wtGB_95 : List Cond := Cond.fieldLink RJ2 59 "java/lang/StringUTF16" "HI_BYTE_SHIFT" "I" :: wtGB_96
noncomputable def wtGB_94 : List Cond := Cond.fieldLink RJ2 44 "java/lang/StringUTF16" "$assertionsDisabled" "Z" :: wtGB_95
noncomputable def wtGB_93 : List Cond := Cond.code yJ2_getChar_3b067 cJ2_getChar_3b067 2 (some .char) :: wtGB_94
noncomputable def wtGB_92 : List Cond := Cond.static yJ2_getChar_3b067 :: wtGB_93
noncomputable def wtGB_91 : List Cond := Cond.methodLink RJ2 71 yJ2_getChar_3b067 :: wtGB_92
noncomputable def wtGB_90 : List Cond := Cond.methodLink RJ2 414 yJ0_checkIndex_df160 :: wtGB_91
noncomputable def wtGB_89 : List Cond := Cond.code yJ2_length_9d52b cJ2_length_9d52b 1 (some .int) :: wtGB_90
noncomputable def wtGB_88 : List Cond := Cond.static yJ2_length_9d52b :: wtGB_89
noncomputable def wtGB_87 : List Cond := Cond.methodLink RJ2 48 yJ2_length_9d52b :: wtGB_88
noncomputable def wtGB_86 : List Cond := Cond.code yJ2_checkIndex_2214a cJ2_checkIndex_2214a 2 none :: wtGB_87
noncomputable def wtGB_85 : List Cond := Cond.static yJ2_checkIndex_2214a :: wtGB_86
noncomputable def wtGB_84 : List Cond := Cond.methodLink RJ2 67 yJ2_checkIndex_2214a :: wtGB_85
noncomputable def wtGB_83 : List Cond := Cond.code yJ2_charAt_3b067 cJ2_charAt_3b067 2 (some .char) :: wtGB_84
noncomputable def wtGB_82 : List Cond := Cond.initialized RJ2 :: wtGB_83
noncomputable def wtGB_81 : List Cond := Cond.static yJ2_charAt_3b067 :: wtGB_82
noncomputable def wtGB_80 : List Cond := Cond.methodLink RJ0 498 yJ2_charAt_3b067 :: wtGB_81
noncomputable def wtGB_79 : List Cond := Cond.code yJ3_checkIndex_8e157 cJ3_checkIndex_8e157 3 (some .int) :: wtGB_80
noncomputable def wtGB_78 : List Cond := Cond.initialized RJ3 :: wtGB_79
noncomputable def wtGB_77 : List Cond := Cond.static yJ3_checkIndex_8e157 :: wtGB_78
noncomputable def wtGB_76 : List Cond := Cond.methodLink RJ0 1059 yJ3_checkIndex_8e157 :: wtGB_77
noncomputable def wtGB_75 : List Cond := Cond.fieldLink RJ0 1053 "jdk/internal/util/Preconditions" "SIOOBE_FORMATTER" "Ljava/util/function/BiFunction;" :: wtGB_76
noncomputable def wtGB_74 : List Cond := Cond.code yJ0_checkIndex_df160 cJ0_checkIndex_df160 2 none :: wtGB_75
noncomputable def wtGB_73 : List Cond := Cond.static yJ0_checkIndex_df160 :: wtGB_74
noncomputable def wtGB_72 : List Cond := Cond.methodLink RJ1 9 yJ0_checkIndex_df160 :: wtGB_73
noncomputable def wtGB_71 : List Cond := Cond.code yJ1_charAt_3b067 cJ1_charAt_3b067 2 (some .char) :: wtGB_72
noncomputable def wtGB_70 : List Cond := Cond.initialized RJ1 :: wtGB_71
noncomputable def wtGB_69 : List Cond := Cond.static yJ1_charAt_3b067 :: wtGB_70
noncomputable def wtGB_68 : List Cond := Cond.methodLink RJ0 495 yJ1_charAt_3b067 :: wtGB_69
noncomputable def wtGB_67 : List Cond := Cond.code yJ0_isLatin1_aae02 cJ0_isLatin1_aae02 1 (some .boolean) :: wtGB_68
noncomputable def wtGB_66 : List Cond := Cond.selects RJ0 yJ0_isLatin1_aae02 yJ0_isLatin1_aae02 :: wtGB_67
noncomputable def wtGB_65 : List Cond := Cond.instanceMethod yJ0_isLatin1_aae02 :: wtGB_66
noncomputable def wtGB_64 : List Cond := Cond.methodLink RJ0 492 yJ0_isLatin1_aae02 :: wtGB_65
noncomputable def wtGB_63 : List Cond := Cond.code yJ0_charAt_5068e cJ0_charAt_5068e 2 (some .char) :: wtGB_64
noncomputable def wtGB_62 : List Cond := Cond.selects RJ0 yJ0_charAt_5068e yJ0_charAt_5068e :: wtGB_63
noncomputable def wtGB_61 : List Cond := Cond.instanceMethod yJ0_charAt_5068e :: wtGB_62
noncomputable def wtGB_60 : List Cond := Cond.fieldLink RJ0 15 "java/lang/String" "coder" "B" :: wtGB_61
noncomputable def wtGB_59 : List Cond := Cond.fieldLink RJ0 38 "java/lang/String" "COMPACT_STRINGS" "Z" :: wtGB_60
noncomputable def wtGB_58 : List Cond := Cond.code yJ0_coder_7d493 cJ0_coder_7d493 1 (some .byte) :: wtGB_59
noncomputable def wtGB_57 : List Cond := Cond.selects RJ0 yJ0_coder_7d493 yJ0_coder_7d493 :: wtGB_58
noncomputable def wtGB_56 : List Cond := Cond.instanceMethod yJ0_coder_7d493 :: wtGB_57
noncomputable def wtGB_55 : List Cond := Cond.methodLink RJ0 335 yJ0_coder_7d493 :: wtGB_56
noncomputable def wtGB_54 : List Cond := Cond.fieldLink RJ0 9 "java/lang/String" "value" "[B" :: wtGB_55
noncomputable def wtGB_53 : List Cond := Cond.code yJ0_length_8abf5 cJ0_length_8abf5 1 (some .int) :: wtGB_54
noncomputable def wtGB_52 : List Cond := Cond.initialized RJ0 :: wtGB_53
noncomputable def wtGB_51 : List Cond := Cond.selects RJ0 yJ0_length_8abf5 yJ0_length_8abf5 :: wtGB_52
noncomputable def wtGB_50 : List Cond := Cond.instanceMethod yJ0_length_8abf5 :: wtGB_51
noncomputable def wtGB_49 : List Cond := Cond.code yX12_in cX12_in 6 (some .boolean) :: wtGB_50
noncomputable def wtGB_48 : List Cond := Cond.static yX12_in :: wtGB_49
noncomputable def wtGB_47 : List Cond := Cond.methodLink RX12 102 yX12_in :: wtGB_48
noncomputable def wtGB_46 : List Cond := Cond.code yX12_end cX12_end 2 (some .int) :: wtGB_47
noncomputable def wtGB_45 : List Cond := Cond.selects RX12 yX12_end yX12_end :: wtGB_46
noncomputable def wtGB_44 : List Cond := Cond.instanceMethod yX12_end :: wtGB_45
noncomputable def wtGB_43 : List Cond := Cond.fieldLink RX12 99 "SightedMonthsModel" "taped" "I" :: wtGB_44
noncomputable def wtGB_42 : List Cond := Cond.code yX12_feed cX12_feed 8 (some .int) :: wtGB_43
noncomputable def wtGB_41 : List Cond := Cond.selects RX12 yX12_feed yX12_feed :: wtGB_42
noncomputable def wtGB_40 : List Cond := Cond.instanceMethod yX12_feed :: wtGB_41
noncomputable def wtGB_39 : List Cond := Cond.fieldLink RX12 96 "SightedMonthsModel" "out" "[I" :: wtGB_40
noncomputable def wtGB_38 : List Cond := Cond.fieldLink RX12 93 "SightedMonthsModel" "worth" "[I" :: wtGB_39
noncomputable def wtGB_37 : List Cond := Cond.fieldLink RX12 90 "SightedMonthsModel" "aside" "[I" :: wtGB_38
noncomputable def wtGB_36 : List Cond := Cond.fieldLink RX12 87 "SightedMonthsModel" "official" "[I" :: wtGB_37
noncomputable def wtGB_35 : List Cond := Cond.fieldLink RX12 84 "SightedMonthsModel" "whose" "I" :: wtGB_36
noncomputable def wtGB_34 : List Cond := Cond.fieldLink RX12 81 "SightedMonthsModel" "otherTrust" "I" :: wtGB_35
noncomputable def wtGB_33 : List Cond := Cond.fieldLink RX12 78 "SightedMonthsModel" "without" "I" :: wtGB_34
noncomputable def wtGB_32 : List Cond := Cond.fieldLink RX12 75 "SightedMonthsModel" "only" "I" :: wtGB_33
noncomputable def wtGB_31 : List Cond := Cond.fieldLink RX12 72 "SightedMonthsModel" "row" "[I" :: wtGB_32
noncomputable def wtGB_30 : List Cond := Cond.fieldLink RX12 69 "SightedMonthsModel" "verdict" "[I" :: wtGB_31
noncomputable def wtGB_29 : List Cond := Cond.fieldLink RX12 66 "SightedMonthsModel" "ways" "[I" :: wtGB_30
noncomputable def wtGB_28 : List Cond := Cond.fieldLink RX12 63 "SightedMonthsModel" "pin" "[I" :: wtGB_29
noncomputable def wtGB_27 : List Cond := Cond.fieldLink RX12 60 "SightedMonthsModel" "least" "[I" :: wtGB_28
noncomputable def wtGB_26 : List Cond := Cond.fieldLink RX12 57 "SightedMonthsModel" "must" "[I" :: wtGB_27
noncomputable def wtGB_25 : List Cond := Cond.fieldLink RX12 53 "SightedMonthsModel" "faultPlace" "I" :: wtGB_26
noncomputable def wtGB_24 : List Cond := Cond.fieldLink RX12 50 "SightedMonthsModel" "tape" "[I" :: wtGB_25
noncomputable def wtGB_23 : List Cond := Cond.fieldLink RX12 47 "SightedMonthsModel" "kept" "[I" :: wtGB_24
noncomputable def wtGB_22 : List Cond := Cond.fieldLink RX12 44 "SightedMonthsModel" "deedKind" "[I" :: wtGB_23
noncomputable def wtGB_21 : List Cond := Cond.fieldLink RX12 41 "SightedMonthsModel" "deedLong" "[I" :: wtGB_22
noncomputable def wtGB_20 : List Cond := Cond.fieldLink RX12 38 "SightedMonthsModel" "deedDay" "[I" :: wtGB_21
noncomputable def wtGB_19 : List Cond := Cond.fieldLink RX12 35 "SightedMonthsModel" "deedMonth" "[I" :: wtGB_20
noncomputable def wtGB_18 : List Cond := Cond.fieldLink RX12 32 "SightedMonthsModel" "reportKnown" "[I" :: wtGB_19
noncomputable def wtGB_17 : List Cond := Cond.fieldLink RX12 29 "SightedMonthsModel" "reportDay" "[I" :: wtGB_18
noncomputable def wtGB_16 : List Cond := Cond.fieldLink RX12 26 "SightedMonthsModel" "reportMonth" "[I" :: wtGB_17
noncomputable def wtGB_15 : List Cond := Cond.fieldLink RX12 22 "SightedMonthsModel" "struck" "[Z" :: wtGB_16
noncomputable def wtGB_14 : List Cond := Cond.arrayClass .boolean :: wtGB_15
noncomputable def wtGB_13 : List Cond := Cond.fieldLink RX12 19 "SightedMonthsModel" "reportKind" "[I" :: wtGB_14
noncomputable def wtGB_12 : List Cond := Cond.fieldLink RX12 16 "SightedMonthsModel" "reportPlace" "[I" :: wtGB_13
noncomputable def wtGB_11 : List Cond := Cond.fieldLink RX12 13 "SightedMonthsModel" "letter" "[I" :: wtGB_12
noncomputable def wtGB_10 : List Cond := Cond.fieldLink RX12 7 "SightedMonthsModel" "trust" "[I" :: wtGB_11
noncomputable def wtGB_9 : List Cond := Cond.methodLink RX12 1 objectInit :: wtGB_10
noncomputable def wtGB_8 : List Cond := Cond.code yX12_init cX12_init 1 none :: wtGB_9
noncomputable def wtGB_7 : List Cond := Cond.instanceMethod yX12_init :: wtGB_8
noncomputable def wtGB_6 : List Cond := Cond.arrayClass .long :: wtGB_7
noncomputable def wtGB_5 : List Cond := Cond.arrayClass .byte :: wtGB_6
noncomputable def wtGB_4 : List Cond := Cond.arrayClass .int :: wtGB_5
noncomputable def wtGB_3 : List Cond := Cond.code objectInit ⟨#[0xb1]⟩ 1 none :: wtGB_4
noncomputable def wtGB_2 : List Cond := Cond.instanceMethod objectInit :: wtGB_3
noncomputable def wtGB_1 : List Cond := Cond.initialized RX12 :: wtGB_2
noncomputable def wtGB_0 : List Cond := Cond.instantiable RX12 57 :: wtGB_1
noncomputable def wsGB : List Cond := wtGB_0
theorem twGB_0 : ∀ w ∈ wtGB_0, w ∈ wsGB := fun _ h => h
theorem mGB_0 : Cond.instantiable RX12 57 ∈ wsGB := twGB_0 _ (List.mem_cons_self : Cond.instantiable RX12 57 ∈ Cond.instantiable RX12 57 :: wtGB_1)
theorem twGB_1 : ∀ w ∈ wtGB_1, w ∈ wsGB := fun w h => twGB_0 w (List.mem_cons_of_mem (Cond.instantiable RX12 57) h)
theorem mGB_1 : Cond.initialized RX12 ∈ wsGB := twGB_1 _ (List.mem_cons_self : Cond.initialized RX12 ∈ Cond.initialized RX12 :: wtGB_2)
theorem twGB_2 : ∀ w ∈ wtGB_2, w ∈ wsGB := fun w h => twGB_1 w (List.mem_cons_of_mem (Cond.initialized RX12) h)
theorem mGB_2 : Cond.instanceMethod objectInit ∈ wsGB := twGB_2 _ (List.mem_cons_self : Cond.instanceMethod objectInit ∈ Cond.instanceMethod objectInit :: wtGB_3)
theorem twGB_3 : ∀ w ∈ wtGB_3, w ∈ wsGB := fun w h => twGB_2 w (List.mem_cons_of_mem (Cond.instanceMethod objectInit) h)
theorem mGB_3 : Cond.code objectInit ⟨#[0xb1]⟩ 1 none ∈ wsGB := twGB_3 _ (List.mem_cons_self : Cond.code objectInit ⟨#[0xb1]⟩ 1 none ∈ Cond.code objectInit ⟨#[0xb1]⟩ 1 none :: wtGB_4)
theorem twGB_4 : ∀ w ∈ wtGB_4, w ∈ wsGB := fun w h => twGB_3 w (List.mem_cons_of_mem (Cond.code objectInit ⟨#[0xb1]⟩ 1 none) h)
theorem mGB_4 : Cond.arrayClass .int ∈ wsGB := twGB_4 _ (List.mem_cons_self : Cond.arrayClass .int ∈ Cond.arrayClass .int :: wtGB_5)
theorem twGB_5 : ∀ w ∈ wtGB_5, w ∈ wsGB := fun w h => twGB_4 w (List.mem_cons_of_mem (Cond.arrayClass .int) h)
theorem mGB_5 : Cond.arrayClass .byte ∈ wsGB := twGB_5 _ (List.mem_cons_self : Cond.arrayClass .byte ∈ Cond.arrayClass .byte :: wtGB_6)
theorem twGB_6 : ∀ w ∈ wtGB_6, w ∈ wsGB := fun w h => twGB_5 w (List.mem_cons_of_mem (Cond.arrayClass .byte) h)
theorem mGB_6 : Cond.arrayClass .long ∈ wsGB := twGB_6 _ (List.mem_cons_self : Cond.arrayClass .long ∈ Cond.arrayClass .long :: wtGB_7)
theorem twGB_7 : ∀ w ∈ wtGB_7, w ∈ wsGB := fun w h => twGB_6 w (List.mem_cons_of_mem (Cond.arrayClass .long) h)
theorem mGB_7 : Cond.instanceMethod yX12_init ∈ wsGB := twGB_7 _ (List.mem_cons_self : Cond.instanceMethod yX12_init ∈ Cond.instanceMethod yX12_init :: wtGB_8)
theorem twGB_8 : ∀ w ∈ wtGB_8, w ∈ wsGB := fun w h => twGB_7 w (List.mem_cons_of_mem (Cond.instanceMethod yX12_init) h)
theorem mGB_8 : Cond.code yX12_init cX12_init 1 none ∈ wsGB := twGB_8 _ (List.mem_cons_self : Cond.code yX12_init cX12_init 1 none ∈ Cond.code yX12_init cX12_init 1 none :: wtGB_9)
theorem twGB_9 : ∀ w ∈ wtGB_9, w ∈ wsGB := fun w h => twGB_8 w (List.mem_cons_of_mem (Cond.code yX12_init cX12_init 1 none) h)
theorem mGB_9 : Cond.methodLink RX12 1 objectInit ∈ wsGB := twGB_9 _ (List.mem_cons_self : Cond.methodLink RX12 1 objectInit ∈ Cond.methodLink RX12 1 objectInit :: wtGB_10)
theorem twGB_10 : ∀ w ∈ wtGB_10, w ∈ wsGB := fun w h => twGB_9 w (List.mem_cons_of_mem (Cond.methodLink RX12 1 objectInit) h)
theorem mGB_10 : Cond.fieldLink RX12 7 "SightedMonthsModel" "trust" "[I" ∈ wsGB := twGB_10 _ (List.mem_cons_self : Cond.fieldLink RX12 7 "SightedMonthsModel" "trust" "[I" ∈ Cond.fieldLink RX12 7 "SightedMonthsModel" "trust" "[I" :: wtGB_11)
theorem twGB_11 : ∀ w ∈ wtGB_11, w ∈ wsGB := fun w h => twGB_10 w (List.mem_cons_of_mem (Cond.fieldLink RX12 7 "SightedMonthsModel" "trust" "[I") h)
theorem mGB_11 : Cond.fieldLink RX12 13 "SightedMonthsModel" "letter" "[I" ∈ wsGB := twGB_11 _ (List.mem_cons_self : Cond.fieldLink RX12 13 "SightedMonthsModel" "letter" "[I" ∈ Cond.fieldLink RX12 13 "SightedMonthsModel" "letter" "[I" :: wtGB_12)
theorem twGB_12 : ∀ w ∈ wtGB_12, w ∈ wsGB := fun w h => twGB_11 w (List.mem_cons_of_mem (Cond.fieldLink RX12 13 "SightedMonthsModel" "letter" "[I") h)
theorem mGB_12 : Cond.fieldLink RX12 16 "SightedMonthsModel" "reportPlace" "[I" ∈ wsGB := twGB_12 _ (List.mem_cons_self : Cond.fieldLink RX12 16 "SightedMonthsModel" "reportPlace" "[I" ∈ Cond.fieldLink RX12 16 "SightedMonthsModel" "reportPlace" "[I" :: wtGB_13)
theorem twGB_13 : ∀ w ∈ wtGB_13, w ∈ wsGB := fun w h => twGB_12 w (List.mem_cons_of_mem (Cond.fieldLink RX12 16 "SightedMonthsModel" "reportPlace" "[I") h)
theorem mGB_13 : Cond.fieldLink RX12 19 "SightedMonthsModel" "reportKind" "[I" ∈ wsGB := twGB_13 _ (List.mem_cons_self : Cond.fieldLink RX12 19 "SightedMonthsModel" "reportKind" "[I" ∈ Cond.fieldLink RX12 19 "SightedMonthsModel" "reportKind" "[I" :: wtGB_14)
theorem twGB_14 : ∀ w ∈ wtGB_14, w ∈ wsGB := fun w h => twGB_13 w (List.mem_cons_of_mem (Cond.fieldLink RX12 19 "SightedMonthsModel" "reportKind" "[I") h)
theorem mGB_14 : Cond.arrayClass .boolean ∈ wsGB := twGB_14 _ (List.mem_cons_self : Cond.arrayClass .boolean ∈ Cond.arrayClass .boolean :: wtGB_15)
theorem twGB_15 : ∀ w ∈ wtGB_15, w ∈ wsGB := fun w h => twGB_14 w (List.mem_cons_of_mem (Cond.arrayClass .boolean) h)
theorem mGB_15 : Cond.fieldLink RX12 22 "SightedMonthsModel" "struck" "[Z" ∈ wsGB := twGB_15 _ (List.mem_cons_self : Cond.fieldLink RX12 22 "SightedMonthsModel" "struck" "[Z" ∈ Cond.fieldLink RX12 22 "SightedMonthsModel" "struck" "[Z" :: wtGB_16)
theorem twGB_16 : ∀ w ∈ wtGB_16, w ∈ wsGB := fun w h => twGB_15 w (List.mem_cons_of_mem (Cond.fieldLink RX12 22 "SightedMonthsModel" "struck" "[Z") h)
theorem mGB_16 : Cond.fieldLink RX12 26 "SightedMonthsModel" "reportMonth" "[I" ∈ wsGB := twGB_16 _ (List.mem_cons_self : Cond.fieldLink RX12 26 "SightedMonthsModel" "reportMonth" "[I" ∈ Cond.fieldLink RX12 26 "SightedMonthsModel" "reportMonth" "[I" :: wtGB_17)
theorem twGB_17 : ∀ w ∈ wtGB_17, w ∈ wsGB := fun w h => twGB_16 w (List.mem_cons_of_mem (Cond.fieldLink RX12 26 "SightedMonthsModel" "reportMonth" "[I") h)
theorem mGB_17 : Cond.fieldLink RX12 29 "SightedMonthsModel" "reportDay" "[I" ∈ wsGB := twGB_17 _ (List.mem_cons_self : Cond.fieldLink RX12 29 "SightedMonthsModel" "reportDay" "[I" ∈ Cond.fieldLink RX12 29 "SightedMonthsModel" "reportDay" "[I" :: wtGB_18)
theorem twGB_18 : ∀ w ∈ wtGB_18, w ∈ wsGB := fun w h => twGB_17 w (List.mem_cons_of_mem (Cond.fieldLink RX12 29 "SightedMonthsModel" "reportDay" "[I") h)
theorem mGB_18 : Cond.fieldLink RX12 32 "SightedMonthsModel" "reportKnown" "[I" ∈ wsGB := twGB_18 _ (List.mem_cons_self : Cond.fieldLink RX12 32 "SightedMonthsModel" "reportKnown" "[I" ∈ Cond.fieldLink RX12 32 "SightedMonthsModel" "reportKnown" "[I" :: wtGB_19)
theorem twGB_19 : ∀ w ∈ wtGB_19, w ∈ wsGB := fun w h => twGB_18 w (List.mem_cons_of_mem (Cond.fieldLink RX12 32 "SightedMonthsModel" "reportKnown" "[I") h)
theorem mGB_19 : Cond.fieldLink RX12 35 "SightedMonthsModel" "deedMonth" "[I" ∈ wsGB := twGB_19 _ (List.mem_cons_self : Cond.fieldLink RX12 35 "SightedMonthsModel" "deedMonth" "[I" ∈ Cond.fieldLink RX12 35 "SightedMonthsModel" "deedMonth" "[I" :: wtGB_20)
theorem twGB_20 : ∀ w ∈ wtGB_20, w ∈ wsGB := fun w h => twGB_19 w (List.mem_cons_of_mem (Cond.fieldLink RX12 35 "SightedMonthsModel" "deedMonth" "[I") h)
theorem mGB_20 : Cond.fieldLink RX12 38 "SightedMonthsModel" "deedDay" "[I" ∈ wsGB := twGB_20 _ (List.mem_cons_self : Cond.fieldLink RX12 38 "SightedMonthsModel" "deedDay" "[I" ∈ Cond.fieldLink RX12 38 "SightedMonthsModel" "deedDay" "[I" :: wtGB_21)
theorem twGB_21 : ∀ w ∈ wtGB_21, w ∈ wsGB := fun w h => twGB_20 w (List.mem_cons_of_mem (Cond.fieldLink RX12 38 "SightedMonthsModel" "deedDay" "[I") h)
theorem mGB_21 : Cond.fieldLink RX12 41 "SightedMonthsModel" "deedLong" "[I" ∈ wsGB := twGB_21 _ (List.mem_cons_self : Cond.fieldLink RX12 41 "SightedMonthsModel" "deedLong" "[I" ∈ Cond.fieldLink RX12 41 "SightedMonthsModel" "deedLong" "[I" :: wtGB_22)
theorem twGB_22 : ∀ w ∈ wtGB_22, w ∈ wsGB := fun w h => twGB_21 w (List.mem_cons_of_mem (Cond.fieldLink RX12 41 "SightedMonthsModel" "deedLong" "[I") h)
theorem mGB_22 : Cond.fieldLink RX12 44 "SightedMonthsModel" "deedKind" "[I" ∈ wsGB := twGB_22 _ (List.mem_cons_self : Cond.fieldLink RX12 44 "SightedMonthsModel" "deedKind" "[I" ∈ Cond.fieldLink RX12 44 "SightedMonthsModel" "deedKind" "[I" :: wtGB_23)
theorem twGB_23 : ∀ w ∈ wtGB_23, w ∈ wsGB := fun w h => twGB_22 w (List.mem_cons_of_mem (Cond.fieldLink RX12 44 "SightedMonthsModel" "deedKind" "[I") h)
theorem mGB_23 : Cond.fieldLink RX12 47 "SightedMonthsModel" "kept" "[I" ∈ wsGB := twGB_23 _ (List.mem_cons_self : Cond.fieldLink RX12 47 "SightedMonthsModel" "kept" "[I" ∈ Cond.fieldLink RX12 47 "SightedMonthsModel" "kept" "[I" :: wtGB_24)
theorem twGB_24 : ∀ w ∈ wtGB_24, w ∈ wsGB := fun w h => twGB_23 w (List.mem_cons_of_mem (Cond.fieldLink RX12 47 "SightedMonthsModel" "kept" "[I") h)
theorem mGB_24 : Cond.fieldLink RX12 50 "SightedMonthsModel" "tape" "[I" ∈ wsGB := twGB_24 _ (List.mem_cons_self : Cond.fieldLink RX12 50 "SightedMonthsModel" "tape" "[I" ∈ Cond.fieldLink RX12 50 "SightedMonthsModel" "tape" "[I" :: wtGB_25)
theorem twGB_25 : ∀ w ∈ wtGB_25, w ∈ wsGB := fun w h => twGB_24 w (List.mem_cons_of_mem (Cond.fieldLink RX12 50 "SightedMonthsModel" "tape" "[I") h)
theorem mGB_25 : Cond.fieldLink RX12 53 "SightedMonthsModel" "faultPlace" "I" ∈ wsGB := twGB_25 _ (List.mem_cons_self : Cond.fieldLink RX12 53 "SightedMonthsModel" "faultPlace" "I" ∈ Cond.fieldLink RX12 53 "SightedMonthsModel" "faultPlace" "I" :: wtGB_26)
theorem twGB_26 : ∀ w ∈ wtGB_26, w ∈ wsGB := fun w h => twGB_25 w (List.mem_cons_of_mem (Cond.fieldLink RX12 53 "SightedMonthsModel" "faultPlace" "I") h)
theorem mGB_26 : Cond.fieldLink RX12 57 "SightedMonthsModel" "must" "[I" ∈ wsGB := twGB_26 _ (List.mem_cons_self : Cond.fieldLink RX12 57 "SightedMonthsModel" "must" "[I" ∈ Cond.fieldLink RX12 57 "SightedMonthsModel" "must" "[I" :: wtGB_27)
theorem twGB_27 : ∀ w ∈ wtGB_27, w ∈ wsGB := fun w h => twGB_26 w (List.mem_cons_of_mem (Cond.fieldLink RX12 57 "SightedMonthsModel" "must" "[I") h)
theorem mGB_27 : Cond.fieldLink RX12 60 "SightedMonthsModel" "least" "[I" ∈ wsGB := twGB_27 _ (List.mem_cons_self : Cond.fieldLink RX12 60 "SightedMonthsModel" "least" "[I" ∈ Cond.fieldLink RX12 60 "SightedMonthsModel" "least" "[I" :: wtGB_28)
theorem twGB_28 : ∀ w ∈ wtGB_28, w ∈ wsGB := fun w h => twGB_27 w (List.mem_cons_of_mem (Cond.fieldLink RX12 60 "SightedMonthsModel" "least" "[I") h)
theorem mGB_28 : Cond.fieldLink RX12 63 "SightedMonthsModel" "pin" "[I" ∈ wsGB := twGB_28 _ (List.mem_cons_self : Cond.fieldLink RX12 63 "SightedMonthsModel" "pin" "[I" ∈ Cond.fieldLink RX12 63 "SightedMonthsModel" "pin" "[I" :: wtGB_29)
theorem twGB_29 : ∀ w ∈ wtGB_29, w ∈ wsGB := fun w h => twGB_28 w (List.mem_cons_of_mem (Cond.fieldLink RX12 63 "SightedMonthsModel" "pin" "[I") h)
theorem mGB_29 : Cond.fieldLink RX12 66 "SightedMonthsModel" "ways" "[I" ∈ wsGB := twGB_29 _ (List.mem_cons_self : Cond.fieldLink RX12 66 "SightedMonthsModel" "ways" "[I" ∈ Cond.fieldLink RX12 66 "SightedMonthsModel" "ways" "[I" :: wtGB_30)
theorem twGB_30 : ∀ w ∈ wtGB_30, w ∈ wsGB := fun w h => twGB_29 w (List.mem_cons_of_mem (Cond.fieldLink RX12 66 "SightedMonthsModel" "ways" "[I") h)
theorem mGB_30 : Cond.fieldLink RX12 69 "SightedMonthsModel" "verdict" "[I" ∈ wsGB := twGB_30 _ (List.mem_cons_self : Cond.fieldLink RX12 69 "SightedMonthsModel" "verdict" "[I" ∈ Cond.fieldLink RX12 69 "SightedMonthsModel" "verdict" "[I" :: wtGB_31)
theorem twGB_31 : ∀ w ∈ wtGB_31, w ∈ wsGB := fun w h => twGB_30 w (List.mem_cons_of_mem (Cond.fieldLink RX12 69 "SightedMonthsModel" "verdict" "[I") h)
theorem mGB_31 : Cond.fieldLink RX12 72 "SightedMonthsModel" "row" "[I" ∈ wsGB := twGB_31 _ (List.mem_cons_self : Cond.fieldLink RX12 72 "SightedMonthsModel" "row" "[I" ∈ Cond.fieldLink RX12 72 "SightedMonthsModel" "row" "[I" :: wtGB_32)
theorem twGB_32 : ∀ w ∈ wtGB_32, w ∈ wsGB := fun w h => twGB_31 w (List.mem_cons_of_mem (Cond.fieldLink RX12 72 "SightedMonthsModel" "row" "[I") h)
theorem mGB_32 : Cond.fieldLink RX12 75 "SightedMonthsModel" "only" "I" ∈ wsGB := twGB_32 _ (List.mem_cons_self : Cond.fieldLink RX12 75 "SightedMonthsModel" "only" "I" ∈ Cond.fieldLink RX12 75 "SightedMonthsModel" "only" "I" :: wtGB_33)
theorem twGB_33 : ∀ w ∈ wtGB_33, w ∈ wsGB := fun w h => twGB_32 w (List.mem_cons_of_mem (Cond.fieldLink RX12 75 "SightedMonthsModel" "only" "I") h)
theorem mGB_33 : Cond.fieldLink RX12 78 "SightedMonthsModel" "without" "I" ∈ wsGB := twGB_33 _ (List.mem_cons_self : Cond.fieldLink RX12 78 "SightedMonthsModel" "without" "I" ∈ Cond.fieldLink RX12 78 "SightedMonthsModel" "without" "I" :: wtGB_34)
theorem twGB_34 : ∀ w ∈ wtGB_34, w ∈ wsGB := fun w h => twGB_33 w (List.mem_cons_of_mem (Cond.fieldLink RX12 78 "SightedMonthsModel" "without" "I") h)
theorem mGB_34 : Cond.fieldLink RX12 81 "SightedMonthsModel" "otherTrust" "I" ∈ wsGB := twGB_34 _ (List.mem_cons_self : Cond.fieldLink RX12 81 "SightedMonthsModel" "otherTrust" "I" ∈ Cond.fieldLink RX12 81 "SightedMonthsModel" "otherTrust" "I" :: wtGB_35)
theorem twGB_35 : ∀ w ∈ wtGB_35, w ∈ wsGB := fun w h => twGB_34 w (List.mem_cons_of_mem (Cond.fieldLink RX12 81 "SightedMonthsModel" "otherTrust" "I") h)
theorem mGB_35 : Cond.fieldLink RX12 84 "SightedMonthsModel" "whose" "I" ∈ wsGB := twGB_35 _ (List.mem_cons_self : Cond.fieldLink RX12 84 "SightedMonthsModel" "whose" "I" ∈ Cond.fieldLink RX12 84 "SightedMonthsModel" "whose" "I" :: wtGB_36)
theorem twGB_36 : ∀ w ∈ wtGB_36, w ∈ wsGB := fun w h => twGB_35 w (List.mem_cons_of_mem (Cond.fieldLink RX12 84 "SightedMonthsModel" "whose" "I") h)
theorem mGB_36 : Cond.fieldLink RX12 87 "SightedMonthsModel" "official" "[I" ∈ wsGB := twGB_36 _ (List.mem_cons_self : Cond.fieldLink RX12 87 "SightedMonthsModel" "official" "[I" ∈ Cond.fieldLink RX12 87 "SightedMonthsModel" "official" "[I" :: wtGB_37)
theorem twGB_37 : ∀ w ∈ wtGB_37, w ∈ wsGB := fun w h => twGB_36 w (List.mem_cons_of_mem (Cond.fieldLink RX12 87 "SightedMonthsModel" "official" "[I") h)
theorem mGB_37 : Cond.fieldLink RX12 90 "SightedMonthsModel" "aside" "[I" ∈ wsGB := twGB_37 _ (List.mem_cons_self : Cond.fieldLink RX12 90 "SightedMonthsModel" "aside" "[I" ∈ Cond.fieldLink RX12 90 "SightedMonthsModel" "aside" "[I" :: wtGB_38)
theorem twGB_38 : ∀ w ∈ wtGB_38, w ∈ wsGB := fun w h => twGB_37 w (List.mem_cons_of_mem (Cond.fieldLink RX12 90 "SightedMonthsModel" "aside" "[I") h)
theorem mGB_38 : Cond.fieldLink RX12 93 "SightedMonthsModel" "worth" "[I" ∈ wsGB := twGB_38 _ (List.mem_cons_self : Cond.fieldLink RX12 93 "SightedMonthsModel" "worth" "[I" ∈ Cond.fieldLink RX12 93 "SightedMonthsModel" "worth" "[I" :: wtGB_39)
theorem twGB_39 : ∀ w ∈ wtGB_39, w ∈ wsGB := fun w h => twGB_38 w (List.mem_cons_of_mem (Cond.fieldLink RX12 93 "SightedMonthsModel" "worth" "[I") h)
theorem mGB_39 : Cond.fieldLink RX12 96 "SightedMonthsModel" "out" "[I" ∈ wsGB := twGB_39 _ (List.mem_cons_self : Cond.fieldLink RX12 96 "SightedMonthsModel" "out" "[I" ∈ Cond.fieldLink RX12 96 "SightedMonthsModel" "out" "[I" :: wtGB_40)
theorem twGB_40 : ∀ w ∈ wtGB_40, w ∈ wsGB := fun w h => twGB_39 w (List.mem_cons_of_mem (Cond.fieldLink RX12 96 "SightedMonthsModel" "out" "[I") h)
theorem mGB_40 : Cond.instanceMethod yX12_feed ∈ wsGB := twGB_40 _ (List.mem_cons_self : Cond.instanceMethod yX12_feed ∈ Cond.instanceMethod yX12_feed :: wtGB_41)
theorem twGB_41 : ∀ w ∈ wtGB_41, w ∈ wsGB := fun w h => twGB_40 w (List.mem_cons_of_mem (Cond.instanceMethod yX12_feed) h)
theorem mGB_41 : Cond.selects RX12 yX12_feed yX12_feed ∈ wsGB := twGB_41 _ (List.mem_cons_self : Cond.selects RX12 yX12_feed yX12_feed ∈ Cond.selects RX12 yX12_feed yX12_feed :: wtGB_42)
theorem twGB_42 : ∀ w ∈ wtGB_42, w ∈ wsGB := fun w h => twGB_41 w (List.mem_cons_of_mem (Cond.selects RX12 yX12_feed yX12_feed) h)
theorem mGB_42 : Cond.code yX12_feed cX12_feed 8 (some .int) ∈ wsGB := twGB_42 _ (List.mem_cons_self : Cond.code yX12_feed cX12_feed 8 (some .int) ∈ Cond.code yX12_feed cX12_feed 8 (some .int) :: wtGB_43)
theorem twGB_43 : ∀ w ∈ wtGB_43, w ∈ wsGB := fun w h => twGB_42 w (List.mem_cons_of_mem (Cond.code yX12_feed cX12_feed 8 (some .int)) h)
theorem mGB_43 : Cond.fieldLink RX12 99 "SightedMonthsModel" "taped" "I" ∈ wsGB := twGB_43 _ (List.mem_cons_self : Cond.fieldLink RX12 99 "SightedMonthsModel" "taped" "I" ∈ Cond.fieldLink RX12 99 "SightedMonthsModel" "taped" "I" :: wtGB_44)
theorem twGB_44 : ∀ w ∈ wtGB_44, w ∈ wsGB := fun w h => twGB_43 w (List.mem_cons_of_mem (Cond.fieldLink RX12 99 "SightedMonthsModel" "taped" "I") h)
theorem mGB_44 : Cond.instanceMethod yX12_end ∈ wsGB := twGB_44 _ (List.mem_cons_self : Cond.instanceMethod yX12_end ∈ Cond.instanceMethod yX12_end :: wtGB_45)
theorem twGB_45 : ∀ w ∈ wtGB_45, w ∈ wsGB := fun w h => twGB_44 w (List.mem_cons_of_mem (Cond.instanceMethod yX12_end) h)
theorem mGB_45 : Cond.selects RX12 yX12_end yX12_end ∈ wsGB := twGB_45 _ (List.mem_cons_self : Cond.selects RX12 yX12_end yX12_end ∈ Cond.selects RX12 yX12_end yX12_end :: wtGB_46)
theorem twGB_46 : ∀ w ∈ wtGB_46, w ∈ wsGB := fun w h => twGB_45 w (List.mem_cons_of_mem (Cond.selects RX12 yX12_end yX12_end) h)
theorem mGB_46 : Cond.code yX12_end cX12_end 2 (some .int) ∈ wsGB := twGB_46 _ (List.mem_cons_self : Cond.code yX12_end cX12_end 2 (some .int) ∈ Cond.code yX12_end cX12_end 2 (some .int) :: wtGB_47)
theorem twGB_47 : ∀ w ∈ wtGB_47, w ∈ wsGB := fun w h => twGB_46 w (List.mem_cons_of_mem (Cond.code yX12_end cX12_end 2 (some .int)) h)
theorem mGB_47 : Cond.methodLink RX12 102 yX12_in ∈ wsGB := twGB_47 _ (List.mem_cons_self : Cond.methodLink RX12 102 yX12_in ∈ Cond.methodLink RX12 102 yX12_in :: wtGB_48)
theorem twGB_48 : ∀ w ∈ wtGB_48, w ∈ wsGB := fun w h => twGB_47 w (List.mem_cons_of_mem (Cond.methodLink RX12 102 yX12_in) h)
theorem mGB_48 : Cond.static yX12_in ∈ wsGB := twGB_48 _ (List.mem_cons_self : Cond.static yX12_in ∈ Cond.static yX12_in :: wtGB_49)
theorem twGB_49 : ∀ w ∈ wtGB_49, w ∈ wsGB := fun w h => twGB_48 w (List.mem_cons_of_mem (Cond.static yX12_in) h)
theorem mGB_49 : Cond.code yX12_in cX12_in 6 (some .boolean) ∈ wsGB := twGB_49 _ (List.mem_cons_self : Cond.code yX12_in cX12_in 6 (some .boolean) ∈ Cond.code yX12_in cX12_in 6 (some .boolean) :: wtGB_50)
theorem twGB_50 : ∀ w ∈ wtGB_50, w ∈ wsGB := fun w h => twGB_49 w (List.mem_cons_of_mem (Cond.code yX12_in cX12_in 6 (some .boolean)) h)
theorem mGB_50 : Cond.instanceMethod yJ0_length_8abf5 ∈ wsGB := twGB_50 _ (List.mem_cons_self : Cond.instanceMethod yJ0_length_8abf5 ∈ Cond.instanceMethod yJ0_length_8abf5 :: wtGB_51)
theorem twGB_51 : ∀ w ∈ wtGB_51, w ∈ wsGB := fun w h => twGB_50 w (List.mem_cons_of_mem (Cond.instanceMethod yJ0_length_8abf5) h)
theorem mGB_51 : Cond.selects RJ0 yJ0_length_8abf5 yJ0_length_8abf5 ∈ wsGB := twGB_51 _ (List.mem_cons_self : Cond.selects RJ0 yJ0_length_8abf5 yJ0_length_8abf5 ∈ Cond.selects RJ0 yJ0_length_8abf5 yJ0_length_8abf5 :: wtGB_52)
theorem twGB_52 : ∀ w ∈ wtGB_52, w ∈ wsGB := fun w h => twGB_51 w (List.mem_cons_of_mem (Cond.selects RJ0 yJ0_length_8abf5 yJ0_length_8abf5) h)
theorem mGB_52 : Cond.initialized RJ0 ∈ wsGB := twGB_52 _ (List.mem_cons_self : Cond.initialized RJ0 ∈ Cond.initialized RJ0 :: wtGB_53)
theorem twGB_53 : ∀ w ∈ wtGB_53, w ∈ wsGB := fun w h => twGB_52 w (List.mem_cons_of_mem (Cond.initialized RJ0) h)
theorem mGB_53 : Cond.code yJ0_length_8abf5 cJ0_length_8abf5 1 (some .int) ∈ wsGB := twGB_53 _ (List.mem_cons_self : Cond.code yJ0_length_8abf5 cJ0_length_8abf5 1 (some .int) ∈ Cond.code yJ0_length_8abf5 cJ0_length_8abf5 1 (some .int) :: wtGB_54)
theorem twGB_54 : ∀ w ∈ wtGB_54, w ∈ wsGB := fun w h => twGB_53 w (List.mem_cons_of_mem (Cond.code yJ0_length_8abf5 cJ0_length_8abf5 1 (some .int)) h)
theorem mGB_54 : Cond.fieldLink RJ0 9 "java/lang/String" "value" "[B" ∈ wsGB := twGB_54 _ (List.mem_cons_self : Cond.fieldLink RJ0 9 "java/lang/String" "value" "[B" ∈ Cond.fieldLink RJ0 9 "java/lang/String" "value" "[B" :: wtGB_55)
theorem twGB_55 : ∀ w ∈ wtGB_55, w ∈ wsGB := fun w h => twGB_54 w (List.mem_cons_of_mem (Cond.fieldLink RJ0 9 "java/lang/String" "value" "[B") h)
theorem mGB_55 : Cond.methodLink RJ0 335 yJ0_coder_7d493 ∈ wsGB := twGB_55 _ (List.mem_cons_self : Cond.methodLink RJ0 335 yJ0_coder_7d493 ∈ Cond.methodLink RJ0 335 yJ0_coder_7d493 :: wtGB_56)
theorem twGB_56 : ∀ w ∈ wtGB_56, w ∈ wsGB := fun w h => twGB_55 w (List.mem_cons_of_mem (Cond.methodLink RJ0 335 yJ0_coder_7d493) h)
theorem mGB_56 : Cond.instanceMethod yJ0_coder_7d493 ∈ wsGB := twGB_56 _ (List.mem_cons_self : Cond.instanceMethod yJ0_coder_7d493 ∈ Cond.instanceMethod yJ0_coder_7d493 :: wtGB_57)
theorem twGB_57 : ∀ w ∈ wtGB_57, w ∈ wsGB := fun w h => twGB_56 w (List.mem_cons_of_mem (Cond.instanceMethod yJ0_coder_7d493) h)
theorem mGB_57 : Cond.selects RJ0 yJ0_coder_7d493 yJ0_coder_7d493 ∈ wsGB := twGB_57 _ (List.mem_cons_self : Cond.selects RJ0 yJ0_coder_7d493 yJ0_coder_7d493 ∈ Cond.selects RJ0 yJ0_coder_7d493 yJ0_coder_7d493 :: wtGB_58)
theorem twGB_58 : ∀ w ∈ wtGB_58, w ∈ wsGB := fun w h => twGB_57 w (List.mem_cons_of_mem (Cond.selects RJ0 yJ0_coder_7d493 yJ0_coder_7d493) h)
theorem mGB_58 : Cond.code yJ0_coder_7d493 cJ0_coder_7d493 1 (some .byte) ∈ wsGB := twGB_58 _ (List.mem_cons_self : Cond.code yJ0_coder_7d493 cJ0_coder_7d493 1 (some .byte) ∈ Cond.code yJ0_coder_7d493 cJ0_coder_7d493 1 (some .byte) :: wtGB_59)
theorem twGB_59 : ∀ w ∈ wtGB_59, w ∈ wsGB := fun w h => twGB_58 w (List.mem_cons_of_mem (Cond.code yJ0_coder_7d493 cJ0_coder_7d493 1 (some .byte)) h)
theorem mGB_59 : Cond.fieldLink RJ0 38 "java/lang/String" "COMPACT_STRINGS" "Z" ∈ wsGB := twGB_59 _ (List.mem_cons_self : Cond.fieldLink RJ0 38 "java/lang/String" "COMPACT_STRINGS" "Z" ∈ Cond.fieldLink RJ0 38 "java/lang/String" "COMPACT_STRINGS" "Z" :: wtGB_60)
theorem twGB_60 : ∀ w ∈ wtGB_60, w ∈ wsGB := fun w h => twGB_59 w (List.mem_cons_of_mem (Cond.fieldLink RJ0 38 "java/lang/String" "COMPACT_STRINGS" "Z") h)
theorem mGB_60 : Cond.fieldLink RJ0 15 "java/lang/String" "coder" "B" ∈ wsGB := twGB_60 _ (List.mem_cons_self : Cond.fieldLink RJ0 15 "java/lang/String" "coder" "B" ∈ Cond.fieldLink RJ0 15 "java/lang/String" "coder" "B" :: wtGB_61)
theorem twGB_61 : ∀ w ∈ wtGB_61, w ∈ wsGB := fun w h => twGB_60 w (List.mem_cons_of_mem (Cond.fieldLink RJ0 15 "java/lang/String" "coder" "B") h)
theorem mGB_61 : Cond.instanceMethod yJ0_charAt_5068e ∈ wsGB := twGB_61 _ (List.mem_cons_self : Cond.instanceMethod yJ0_charAt_5068e ∈ Cond.instanceMethod yJ0_charAt_5068e :: wtGB_62)
theorem twGB_62 : ∀ w ∈ wtGB_62, w ∈ wsGB := fun w h => twGB_61 w (List.mem_cons_of_mem (Cond.instanceMethod yJ0_charAt_5068e) h)
theorem mGB_62 : Cond.selects RJ0 yJ0_charAt_5068e yJ0_charAt_5068e ∈ wsGB := twGB_62 _ (List.mem_cons_self : Cond.selects RJ0 yJ0_charAt_5068e yJ0_charAt_5068e ∈ Cond.selects RJ0 yJ0_charAt_5068e yJ0_charAt_5068e :: wtGB_63)
theorem twGB_63 : ∀ w ∈ wtGB_63, w ∈ wsGB := fun w h => twGB_62 w (List.mem_cons_of_mem (Cond.selects RJ0 yJ0_charAt_5068e yJ0_charAt_5068e) h)
theorem mGB_63 : Cond.code yJ0_charAt_5068e cJ0_charAt_5068e 2 (some .char) ∈ wsGB := twGB_63 _ (List.mem_cons_self : Cond.code yJ0_charAt_5068e cJ0_charAt_5068e 2 (some .char) ∈ Cond.code yJ0_charAt_5068e cJ0_charAt_5068e 2 (some .char) :: wtGB_64)
theorem twGB_64 : ∀ w ∈ wtGB_64, w ∈ wsGB := fun w h => twGB_63 w (List.mem_cons_of_mem (Cond.code yJ0_charAt_5068e cJ0_charAt_5068e 2 (some .char)) h)
theorem mGB_64 : Cond.methodLink RJ0 492 yJ0_isLatin1_aae02 ∈ wsGB := twGB_64 _ (List.mem_cons_self : Cond.methodLink RJ0 492 yJ0_isLatin1_aae02 ∈ Cond.methodLink RJ0 492 yJ0_isLatin1_aae02 :: wtGB_65)
theorem twGB_65 : ∀ w ∈ wtGB_65, w ∈ wsGB := fun w h => twGB_64 w (List.mem_cons_of_mem (Cond.methodLink RJ0 492 yJ0_isLatin1_aae02) h)
theorem mGB_65 : Cond.instanceMethod yJ0_isLatin1_aae02 ∈ wsGB := twGB_65 _ (List.mem_cons_self : Cond.instanceMethod yJ0_isLatin1_aae02 ∈ Cond.instanceMethod yJ0_isLatin1_aae02 :: wtGB_66)
theorem twGB_66 : ∀ w ∈ wtGB_66, w ∈ wsGB := fun w h => twGB_65 w (List.mem_cons_of_mem (Cond.instanceMethod yJ0_isLatin1_aae02) h)
theorem mGB_66 : Cond.selects RJ0 yJ0_isLatin1_aae02 yJ0_isLatin1_aae02 ∈ wsGB := twGB_66 _ (List.mem_cons_self : Cond.selects RJ0 yJ0_isLatin1_aae02 yJ0_isLatin1_aae02 ∈ Cond.selects RJ0 yJ0_isLatin1_aae02 yJ0_isLatin1_aae02 :: wtGB_67)
theorem twGB_67 : ∀ w ∈ wtGB_67, w ∈ wsGB := fun w h => twGB_66 w (List.mem_cons_of_mem (Cond.selects RJ0 yJ0_isLatin1_aae02 yJ0_isLatin1_aae02) h)
theorem mGB_67 : Cond.code yJ0_isLatin1_aae02 cJ0_isLatin1_aae02 1 (some .boolean) ∈ wsGB := twGB_67 _ (List.mem_cons_self : Cond.code yJ0_isLatin1_aae02 cJ0_isLatin1_aae02 1 (some .boolean) ∈ Cond.code yJ0_isLatin1_aae02 cJ0_isLatin1_aae02 1 (some .boolean) :: wtGB_68)
theorem twGB_68 : ∀ w ∈ wtGB_68, w ∈ wsGB := fun w h => twGB_67 w (List.mem_cons_of_mem (Cond.code yJ0_isLatin1_aae02 cJ0_isLatin1_aae02 1 (some .boolean)) h)
theorem mGB_68 : Cond.methodLink RJ0 495 yJ1_charAt_3b067 ∈ wsGB := twGB_68 _ (List.mem_cons_self : Cond.methodLink RJ0 495 yJ1_charAt_3b067 ∈ Cond.methodLink RJ0 495 yJ1_charAt_3b067 :: wtGB_69)
theorem twGB_69 : ∀ w ∈ wtGB_69, w ∈ wsGB := fun w h => twGB_68 w (List.mem_cons_of_mem (Cond.methodLink RJ0 495 yJ1_charAt_3b067) h)
theorem mGB_69 : Cond.static yJ1_charAt_3b067 ∈ wsGB := twGB_69 _ (List.mem_cons_self : Cond.static yJ1_charAt_3b067 ∈ Cond.static yJ1_charAt_3b067 :: wtGB_70)
theorem twGB_70 : ∀ w ∈ wtGB_70, w ∈ wsGB := fun w h => twGB_69 w (List.mem_cons_of_mem (Cond.static yJ1_charAt_3b067) h)
theorem mGB_70 : Cond.initialized RJ1 ∈ wsGB := twGB_70 _ (List.mem_cons_self : Cond.initialized RJ1 ∈ Cond.initialized RJ1 :: wtGB_71)
theorem twGB_71 : ∀ w ∈ wtGB_71, w ∈ wsGB := fun w h => twGB_70 w (List.mem_cons_of_mem (Cond.initialized RJ1) h)
theorem mGB_71 : Cond.code yJ1_charAt_3b067 cJ1_charAt_3b067 2 (some .char) ∈ wsGB := twGB_71 _ (List.mem_cons_self : Cond.code yJ1_charAt_3b067 cJ1_charAt_3b067 2 (some .char) ∈ Cond.code yJ1_charAt_3b067 cJ1_charAt_3b067 2 (some .char) :: wtGB_72)
theorem twGB_72 : ∀ w ∈ wtGB_72, w ∈ wsGB := fun w h => twGB_71 w (List.mem_cons_of_mem (Cond.code yJ1_charAt_3b067 cJ1_charAt_3b067 2 (some .char)) h)
theorem mGB_72 : Cond.methodLink RJ1 9 yJ0_checkIndex_df160 ∈ wsGB := twGB_72 _ (List.mem_cons_self : Cond.methodLink RJ1 9 yJ0_checkIndex_df160 ∈ Cond.methodLink RJ1 9 yJ0_checkIndex_df160 :: wtGB_73)
theorem twGB_73 : ∀ w ∈ wtGB_73, w ∈ wsGB := fun w h => twGB_72 w (List.mem_cons_of_mem (Cond.methodLink RJ1 9 yJ0_checkIndex_df160) h)
theorem mGB_73 : Cond.static yJ0_checkIndex_df160 ∈ wsGB := twGB_73 _ (List.mem_cons_self : Cond.static yJ0_checkIndex_df160 ∈ Cond.static yJ0_checkIndex_df160 :: wtGB_74)
theorem twGB_74 : ∀ w ∈ wtGB_74, w ∈ wsGB := fun w h => twGB_73 w (List.mem_cons_of_mem (Cond.static yJ0_checkIndex_df160) h)
theorem mGB_74 : Cond.code yJ0_checkIndex_df160 cJ0_checkIndex_df160 2 none ∈ wsGB := twGB_74 _ (List.mem_cons_self : Cond.code yJ0_checkIndex_df160 cJ0_checkIndex_df160 2 none ∈ Cond.code yJ0_checkIndex_df160 cJ0_checkIndex_df160 2 none :: wtGB_75)
theorem twGB_75 : ∀ w ∈ wtGB_75, w ∈ wsGB := fun w h => twGB_74 w (List.mem_cons_of_mem (Cond.code yJ0_checkIndex_df160 cJ0_checkIndex_df160 2 none) h)
theorem mGB_75 : Cond.fieldLink RJ0 1053 "jdk/internal/util/Preconditions" "SIOOBE_FORMATTER" "Ljava/util/function/BiFunction;" ∈ wsGB := twGB_75 _ (List.mem_cons_self : Cond.fieldLink RJ0 1053 "jdk/internal/util/Preconditions" "SIOOBE_FORMATTER" "Ljava/util/function/BiFunction;" ∈ Cond.fieldLink RJ0 1053 "jdk/internal/util/Preconditions" "SIOOBE_FORMATTER" "Ljava/util/function/BiFunction;" :: wtGB_76)
theorem twGB_76 : ∀ w ∈ wtGB_76, w ∈ wsGB := fun w h => twGB_75 w (List.mem_cons_of_mem (Cond.fieldLink RJ0 1053 "jdk/internal/util/Preconditions" "SIOOBE_FORMATTER" "Ljava/util/function/BiFunction;") h)
theorem mGB_76 : Cond.methodLink RJ0 1059 yJ3_checkIndex_8e157 ∈ wsGB := twGB_76 _ (List.mem_cons_self : Cond.methodLink RJ0 1059 yJ3_checkIndex_8e157 ∈ Cond.methodLink RJ0 1059 yJ3_checkIndex_8e157 :: wtGB_77)
theorem twGB_77 : ∀ w ∈ wtGB_77, w ∈ wsGB := fun w h => twGB_76 w (List.mem_cons_of_mem (Cond.methodLink RJ0 1059 yJ3_checkIndex_8e157) h)
theorem mGB_77 : Cond.static yJ3_checkIndex_8e157 ∈ wsGB := twGB_77 _ (List.mem_cons_self : Cond.static yJ3_checkIndex_8e157 ∈ Cond.static yJ3_checkIndex_8e157 :: wtGB_78)
theorem twGB_78 : ∀ w ∈ wtGB_78, w ∈ wsGB := fun w h => twGB_77 w (List.mem_cons_of_mem (Cond.static yJ3_checkIndex_8e157) h)
theorem mGB_78 : Cond.initialized RJ3 ∈ wsGB := twGB_78 _ (List.mem_cons_self : Cond.initialized RJ3 ∈ Cond.initialized RJ3 :: wtGB_79)
theorem twGB_79 : ∀ w ∈ wtGB_79, w ∈ wsGB := fun w h => twGB_78 w (List.mem_cons_of_mem (Cond.initialized RJ3) h)
theorem mGB_79 : Cond.code yJ3_checkIndex_8e157 cJ3_checkIndex_8e157 3 (some .int) ∈ wsGB := twGB_79 _ (List.mem_cons_self : Cond.code yJ3_checkIndex_8e157 cJ3_checkIndex_8e157 3 (some .int) ∈ Cond.code yJ3_checkIndex_8e157 cJ3_checkIndex_8e157 3 (some .int) :: wtGB_80)
theorem twGB_80 : ∀ w ∈ wtGB_80, w ∈ wsGB := fun w h => twGB_79 w (List.mem_cons_of_mem (Cond.code yJ3_checkIndex_8e157 cJ3_checkIndex_8e157 3 (some .int)) h)
theorem mGB_80 : Cond.methodLink RJ0 498 yJ2_charAt_3b067 ∈ wsGB := twGB_80 _ (List.mem_cons_self : Cond.methodLink RJ0 498 yJ2_charAt_3b067 ∈ Cond.methodLink RJ0 498 yJ2_charAt_3b067 :: wtGB_81)
theorem twGB_81 : ∀ w ∈ wtGB_81, w ∈ wsGB := fun w h => twGB_80 w (List.mem_cons_of_mem (Cond.methodLink RJ0 498 yJ2_charAt_3b067) h)
theorem mGB_81 : Cond.static yJ2_charAt_3b067 ∈ wsGB := twGB_81 _ (List.mem_cons_self : Cond.static yJ2_charAt_3b067 ∈ Cond.static yJ2_charAt_3b067 :: wtGB_82)
theorem twGB_82 : ∀ w ∈ wtGB_82, w ∈ wsGB := fun w h => twGB_81 w (List.mem_cons_of_mem (Cond.static yJ2_charAt_3b067) h)
theorem mGB_82 : Cond.initialized RJ2 ∈ wsGB := twGB_82 _ (List.mem_cons_self : Cond.initialized RJ2 ∈ Cond.initialized RJ2 :: wtGB_83)
theorem twGB_83 : ∀ w ∈ wtGB_83, w ∈ wsGB := fun w h => twGB_82 w (List.mem_cons_of_mem (Cond.initialized RJ2) h)
theorem mGB_83 : Cond.code yJ2_charAt_3b067 cJ2_charAt_3b067 2 (some .char) ∈ wsGB := twGB_83 _ (List.mem_cons_self : Cond.code yJ2_charAt_3b067 cJ2_charAt_3b067 2 (some .char) ∈ Cond.code yJ2_charAt_3b067 cJ2_charAt_3b067 2 (some .char) :: wtGB_84)
theorem twGB_84 : ∀ w ∈ wtGB_84, w ∈ wsGB := fun w h => twGB_83 w (List.mem_cons_of_mem (Cond.code yJ2_charAt_3b067 cJ2_charAt_3b067 2 (some .char)) h)
theorem mGB_84 : Cond.methodLink RJ2 67 yJ2_checkIndex_2214a ∈ wsGB := twGB_84 _ (List.mem_cons_self : Cond.methodLink RJ2 67 yJ2_checkIndex_2214a ∈ Cond.methodLink RJ2 67 yJ2_checkIndex_2214a :: wtGB_85)
theorem twGB_85 : ∀ w ∈ wtGB_85, w ∈ wsGB := fun w h => twGB_84 w (List.mem_cons_of_mem (Cond.methodLink RJ2 67 yJ2_checkIndex_2214a) h)
theorem mGB_85 : Cond.static yJ2_checkIndex_2214a ∈ wsGB := twGB_85 _ (List.mem_cons_self : Cond.static yJ2_checkIndex_2214a ∈ Cond.static yJ2_checkIndex_2214a :: wtGB_86)
theorem twGB_86 : ∀ w ∈ wtGB_86, w ∈ wsGB := fun w h => twGB_85 w (List.mem_cons_of_mem (Cond.static yJ2_checkIndex_2214a) h)
theorem mGB_86 : Cond.code yJ2_checkIndex_2214a cJ2_checkIndex_2214a 2 none ∈ wsGB := twGB_86 _ (List.mem_cons_self : Cond.code yJ2_checkIndex_2214a cJ2_checkIndex_2214a 2 none ∈ Cond.code yJ2_checkIndex_2214a cJ2_checkIndex_2214a 2 none :: wtGB_87)
theorem twGB_87 : ∀ w ∈ wtGB_87, w ∈ wsGB := fun w h => twGB_86 w (List.mem_cons_of_mem (Cond.code yJ2_checkIndex_2214a cJ2_checkIndex_2214a 2 none) h)
theorem mGB_87 : Cond.methodLink RJ2 48 yJ2_length_9d52b ∈ wsGB := twGB_87 _ (List.mem_cons_self : Cond.methodLink RJ2 48 yJ2_length_9d52b ∈ Cond.methodLink RJ2 48 yJ2_length_9d52b :: wtGB_88)
theorem twGB_88 : ∀ w ∈ wtGB_88, w ∈ wsGB := fun w h => twGB_87 w (List.mem_cons_of_mem (Cond.methodLink RJ2 48 yJ2_length_9d52b) h)
theorem mGB_88 : Cond.static yJ2_length_9d52b ∈ wsGB := twGB_88 _ (List.mem_cons_self : Cond.static yJ2_length_9d52b ∈ Cond.static yJ2_length_9d52b :: wtGB_89)
theorem twGB_89 : ∀ w ∈ wtGB_89, w ∈ wsGB := fun w h => twGB_88 w (List.mem_cons_of_mem (Cond.static yJ2_length_9d52b) h)
theorem mGB_89 : Cond.code yJ2_length_9d52b cJ2_length_9d52b 1 (some .int) ∈ wsGB := twGB_89 _ (List.mem_cons_self : Cond.code yJ2_length_9d52b cJ2_length_9d52b 1 (some .int) ∈ Cond.code yJ2_length_9d52b cJ2_length_9d52b 1 (some .int) :: wtGB_90)
theorem twGB_90 : ∀ w ∈ wtGB_90, w ∈ wsGB := fun w h => twGB_89 w (List.mem_cons_of_mem (Cond.code yJ2_length_9d52b cJ2_length_9d52b 1 (some .int)) h)
theorem mGB_90 : Cond.methodLink RJ2 414 yJ0_checkIndex_df160 ∈ wsGB := twGB_90 _ (List.mem_cons_self : Cond.methodLink RJ2 414 yJ0_checkIndex_df160 ∈ Cond.methodLink RJ2 414 yJ0_checkIndex_df160 :: wtGB_91)
theorem twGB_91 : ∀ w ∈ wtGB_91, w ∈ wsGB := fun w h => twGB_90 w (List.mem_cons_of_mem (Cond.methodLink RJ2 414 yJ0_checkIndex_df160) h)
theorem mGB_91 : Cond.methodLink RJ2 71 yJ2_getChar_3b067 ∈ wsGB := twGB_91 _ (List.mem_cons_self : Cond.methodLink RJ2 71 yJ2_getChar_3b067 ∈ Cond.methodLink RJ2 71 yJ2_getChar_3b067 :: wtGB_92)
theorem twGB_92 : ∀ w ∈ wtGB_92, w ∈ wsGB := fun w h => twGB_91 w (List.mem_cons_of_mem (Cond.methodLink RJ2 71 yJ2_getChar_3b067) h)
theorem mGB_92 : Cond.static yJ2_getChar_3b067 ∈ wsGB := twGB_92 _ (List.mem_cons_self : Cond.static yJ2_getChar_3b067 ∈ Cond.static yJ2_getChar_3b067 :: wtGB_93)
theorem twGB_93 : ∀ w ∈ wtGB_93, w ∈ wsGB := fun w h => twGB_92 w (List.mem_cons_of_mem (Cond.static yJ2_getChar_3b067) h)
theorem mGB_93 : Cond.code yJ2_getChar_3b067 cJ2_getChar_3b067 2 (some .char) ∈ wsGB := twGB_93 _ (List.mem_cons_self : Cond.code yJ2_getChar_3b067 cJ2_getChar_3b067 2 (some .char) ∈ Cond.code yJ2_getChar_3b067 cJ2_getChar_3b067 2 (some .char) :: wtGB_94)
theorem twGB_94 : ∀ w ∈ wtGB_94, w ∈ wsGB := fun w h => twGB_93 w (List.mem_cons_of_mem (Cond.code yJ2_getChar_3b067 cJ2_getChar_3b067 2 (some .char)) h)
theorem mGB_94 : Cond.fieldLink RJ2 44 "java/lang/StringUTF16" "$assertionsDisabled" "Z" ∈ wsGB := twGB_94 _ (List.mem_cons_self : Cond.fieldLink RJ2 44 "java/lang/StringUTF16" "$assertionsDisabled" "Z" ∈ Cond.fieldLink RJ2 44 "java/lang/StringUTF16" "$assertionsDisabled" "Z" :: wtGB_95)
theorem twGB_95 : ∀ w ∈ wtGB_95, w ∈ wsGB := fun w h => twGB_94 w (List.mem_cons_of_mem (Cond.fieldLink RJ2 44 "java/lang/StringUTF16" "$assertionsDisabled" "Z") h)
theorem mGB_95 : Cond.fieldLink RJ2 59 "java/lang/StringUTF16" "HI_BYTE_SHIFT" "I" ∈ wsGB := twGB_95 _ (List.mem_cons_self : Cond.fieldLink RJ2 59 "java/lang/StringUTF16" "HI_BYTE_SHIFT" "I" ∈ Cond.fieldLink RJ2 59 "java/lang/StringUTF16" "HI_BYTE_SHIFT" "I" :: wtGB_96)
theorem twGB_96 : ∀ w ∈ wtGB_96, w ∈ wsGB := fun w h => twGB_95 w (List.mem_cons_of_mem (Cond.fieldLink RJ2 59 "java/lang/StringUTF16" "HI_BYTE_SHIFT" "I") h)
theorem mGB_96 : Cond.fieldLink RJ2 63 "java/lang/StringUTF16" "LO_BYTE_SHIFT" "I" ∈ wsGB := twGB_96 _ (List.mem_cons_self : Cond.fieldLink RJ2 63 "java/lang/StringUTF16" "LO_BYTE_SHIFT" "I" ∈ Cond.fieldLink RJ2 63 "java/lang/StringUTF16" "LO_BYTE_SHIFT" "I" :: wtGB_97)
theorem twGB_97 : ∀ w ∈ wtGB_97, w ∈ wsGB := fun w h => twGB_96 w (List.mem_cons_of_mem (Cond.fieldLink RJ2 63 "java/lang/StringUTF16" "LO_BYTE_SHIFT" "I") h)
theorem mGB_97 : Cond.static Lib.Math.min.name ∈ wsGB := twGB_97 _ (List.mem_cons_self : Cond.static Lib.Math.min.name ∈ Cond.static Lib.Math.min.name :: wtGB_98)
theorem twGB_98 : ∀ w ∈ wtGB_98, w ∈ wsGB := fun w h => twGB_97 w (List.mem_cons_of_mem (Cond.static Lib.Math.min.name) h)
theorem mGB_98 : Cond.initialized "java/lang/Math" ∈ wsGB := twGB_98 _ (List.mem_cons_self : Cond.initialized "java/lang/Math" ∈ Cond.initialized "java/lang/Math" :: wtGB_99)
theorem twGB_99 : ∀ w ∈ wtGB_99, w ∈ wsGB := fun w h => twGB_98 w (List.mem_cons_of_mem (Cond.initialized "java/lang/Math") h)
theorem mGB_99 : Cond.code Lib.Math.min.name Lib.Math.min.code 2 (some .int) ∈ wsGB := twGB_99 _ (List.mem_cons_self : Cond.code Lib.Math.min.name Lib.Math.min.code 2 (some .int) ∈ Cond.code Lib.Math.min.name Lib.Math.min.code 2 (some .int) :: wtGB_100)
theorem twGB_100 : ∀ w ∈ wtGB_100, w ∈ wsGB := fun w h => twGB_99 w (List.mem_cons_of_mem (Cond.code Lib.Math.min.name Lib.Math.min.code 2 (some .int)) h)
theorem mGB_100 : Cond.instanceMethod yX12_almanac ∈ wsGB := twGB_100 _ (List.mem_cons_self : Cond.instanceMethod yX12_almanac ∈ Cond.instanceMethod yX12_almanac :: wtGB_101)
theorem twGB_101 : ∀ w ∈ wtGB_101, w ∈ wsGB := fun w h => twGB_100 w (List.mem_cons_of_mem (Cond.instanceMethod yX12_almanac) h)
theorem mGB_101 : Cond.selects RX12 yX12_almanac yX12_almanac ∈ wsGB := twGB_101 _ (List.mem_cons_self : Cond.selects RX12 yX12_almanac yX12_almanac ∈ Cond.selects RX12 yX12_almanac yX12_almanac :: wtGB_102)
theorem twGB_102 : ∀ w ∈ wtGB_102, w ∈ wsGB := fun w h => twGB_101 w (List.mem_cons_of_mem (Cond.selects RX12 yX12_almanac yX12_almanac) h)
theorem mGB_102 : Cond.code yX12_almanac cX12_almanac 1 (some .int) ∈ wsGB := twGB_102 _ (List.mem_cons_self : Cond.code yX12_almanac cX12_almanac 1 (some .int) ∈ Cond.code yX12_almanac cX12_almanac 1 (some .int) :: wtGB_103)
theorem twGB_103 : ∀ w ∈ wtGB_103, w ∈ wsGB := fun w h => twGB_102 w (List.mem_cons_of_mem (Cond.code yX12_almanac cX12_almanac 1 (some .int)) h)
theorem mGB_103 : Cond.fieldLink RX12 117 "SightedMonthsModel" "months" "I" ∈ wsGB := twGB_103 _ (List.mem_cons_self : Cond.fieldLink RX12 117 "SightedMonthsModel" "months" "I" ∈ Cond.fieldLink RX12 117 "SightedMonthsModel" "months" "I" :: wtGB_104)
theorem twGB_104 : ∀ w ∈ wtGB_104, w ∈ wsGB := fun w h => twGB_103 w (List.mem_cons_of_mem (Cond.fieldLink RX12 117 "SightedMonthsModel" "months" "I") h)
theorem mGB_104 : Cond.fieldLink RX12 120 "SightedMonthsModel" "mostFull" "I" ∈ wsGB := twGB_104 _ (List.mem_cons_self : Cond.fieldLink RX12 120 "SightedMonthsModel" "mostFull" "I" ∈ Cond.fieldLink RX12 120 "SightedMonthsModel" "mostFull" "I" :: wtGB_105)
theorem twGB_105 : ∀ w ∈ wtGB_105, w ∈ wsGB := fun w h => twGB_104 w (List.mem_cons_of_mem (Cond.fieldLink RX12 120 "SightedMonthsModel" "mostFull" "I") h)
theorem mGB_105 : Cond.fieldLink RX12 123 "SightedMonthsModel" "mostLean" "I" ∈ wsGB := twGB_105 _ (List.mem_cons_self : Cond.fieldLink RX12 123 "SightedMonthsModel" "mostLean" "I" ∈ Cond.fieldLink RX12 123 "SightedMonthsModel" "mostLean" "I" :: wtGB_106)
theorem twGB_106 : ∀ w ∈ wtGB_106, w ∈ wsGB := fun w h => twGB_105 w (List.mem_cons_of_mem (Cond.fieldLink RX12 123 "SightedMonthsModel" "mostLean" "I") h)
theorem mGB_106 : Cond.fieldLink RX12 126 "SightedMonthsModel" "lines" "I" ∈ wsGB := twGB_106 _ (List.mem_cons_self : Cond.fieldLink RX12 126 "SightedMonthsModel" "lines" "I" ∈ Cond.fieldLink RX12 126 "SightedMonthsModel" "lines" "I" :: wtGB_107)
theorem twGB_107 : ∀ w ∈ wtGB_107, w ∈ wsGB := fun w h => twGB_106 w (List.mem_cons_of_mem (Cond.fieldLink RX12 126 "SightedMonthsModel" "lines" "I") h)
theorem mGB_107 : Cond.fieldLink RX12 129 "SightedMonthsModel" "hasMoon" "Z" ∈ wsGB := twGB_107 _ (List.mem_cons_self : Cond.fieldLink RX12 129 "SightedMonthsModel" "hasMoon" "Z" ∈ Cond.fieldLink RX12 129 "SightedMonthsModel" "hasMoon" "Z" :: wtGB_108)
theorem twGB_108 : ∀ w ∈ wtGB_108, w ∈ wsGB := fun w h => twGB_107 w (List.mem_cons_of_mem (Cond.fieldLink RX12 129 "SightedMonthsModel" "hasMoon" "Z") h)
theorem mGB_108 : Cond.fieldLink RX12 132 "SightedMonthsModel" "moonFirst" "I" ∈ wsGB := twGB_108 _ (List.mem_cons_self : Cond.fieldLink RX12 132 "SightedMonthsModel" "moonFirst" "I" ∈ Cond.fieldLink RX12 132 "SightedMonthsModel" "moonFirst" "I" :: wtGB_109)
theorem twGB_109 : ∀ w ∈ wtGB_109, w ∈ wsGB := fun w h => twGB_108 w (List.mem_cons_of_mem (Cond.fieldLink RX12 132 "SightedMonthsModel" "moonFirst" "I") h)
theorem mGB_109 : Cond.fieldLink RX12 135 "SightedMonthsModel" "moonStep" "I" ∈ wsGB := twGB_109 _ (List.mem_cons_self : Cond.fieldLink RX12 135 "SightedMonthsModel" "moonStep" "I" ∈ Cond.fieldLink RX12 135 "SightedMonthsModel" "moonStep" "I" :: wtGB_110)
theorem twGB_110 : ∀ w ∈ wtGB_110, w ∈ wsGB := fun w h => twGB_109 w (List.mem_cons_of_mem (Cond.fieldLink RX12 135 "SightedMonthsModel" "moonStep" "I") h)
theorem mGB_110 : Cond.fieldLink RX12 138 "SightedMonthsModel" "places" "I" ∈ wsGB := twGB_110 _ (List.mem_cons_self : Cond.fieldLink RX12 138 "SightedMonthsModel" "places" "I" ∈ Cond.fieldLink RX12 138 "SightedMonthsModel" "places" "I" :: wtGB_111)
theorem twGB_111 : ∀ w ∈ wtGB_111, w ∈ wsGB := fun w h => twGB_110 w (List.mem_cons_of_mem (Cond.fieldLink RX12 138 "SightedMonthsModel" "places" "I") h)
theorem mGB_111 : Cond.fieldLink RX12 141 "SightedMonthsModel" "reports" "I" ∈ wsGB := twGB_111 _ (List.mem_cons_self : Cond.fieldLink RX12 141 "SightedMonthsModel" "reports" "I" ∈ Cond.fieldLink RX12 141 "SightedMonthsModel" "reports" "I" :: wtGB_112)
theorem twGB_112 : ∀ w ∈ wtGB_112, w ∈ wsGB := fun w h => twGB_111 w (List.mem_cons_of_mem (Cond.fieldLink RX12 141 "SightedMonthsModel" "reports" "I") h)
theorem mGB_112 : Cond.fieldLink RX12 144 "SightedMonthsModel" "deeds" "I" ∈ wsGB := twGB_112 _ (List.mem_cons_self : Cond.fieldLink RX12 144 "SightedMonthsModel" "deeds" "I" ∈ Cond.fieldLink RX12 144 "SightedMonthsModel" "deeds" "I" :: wtGB_113)
theorem twGB_113 : ∀ w ∈ wtGB_113, w ∈ wsGB := fun w h => twGB_112 w (List.mem_cons_of_mem (Cond.fieldLink RX12 144 "SightedMonthsModel" "deeds" "I") h)
theorem mGB_113 : Cond.fieldLink RX12 151 "SightedMonthsModel" "at" "I" ∈ wsGB := twGB_113 _ (List.mem_cons_self : Cond.fieldLink RX12 151 "SightedMonthsModel" "at" "I" ∈ Cond.fieldLink RX12 151 "SightedMonthsModel" "at" "I" :: wtGB_114)
theorem twGB_114 : ∀ w ∈ wtGB_114, w ∈ wsGB := fun w h => twGB_113 w (List.mem_cons_of_mem (Cond.fieldLink RX12 151 "SightedMonthsModel" "at" "I") h)
theorem mGB_114 : Cond.fieldLink RX12 174 "SightedMonthsModel" "bad" "Z" ∈ wsGB := twGB_114 _ (List.mem_cons_self : Cond.fieldLink RX12 174 "SightedMonthsModel" "bad" "Z" ∈ Cond.fieldLink RX12 174 "SightedMonthsModel" "bad" "Z" :: wtGB_115)
theorem twGB_115 : ∀ w ∈ wtGB_115, w ∈ wsGB := fun w h => twGB_114 w (List.mem_cons_of_mem (Cond.fieldLink RX12 174 "SightedMonthsModel" "bad" "Z") h)
theorem mGB_115 : Cond.fieldLink RX12 177 "SightedMonthsModel" "faultKind" "I" ∈ wsGB := twGB_115 _ (List.mem_cons_self : Cond.fieldLink RX12 177 "SightedMonthsModel" "faultKind" "I" ∈ Cond.fieldLink RX12 177 "SightedMonthsModel" "faultKind" "I" :: wtGB_116)
theorem twGB_116 : ∀ w ∈ wtGB_116, w ∈ wsGB := fun w h => twGB_115 w (List.mem_cons_of_mem (Cond.fieldLink RX12 177 "SightedMonthsModel" "faultKind" "I") h)
theorem mGB_116 : Cond.fieldLink RX12 164 "SightedMonthsModel" "token" "I" ∈ wsGB := twGB_116 _ (List.mem_cons_self : Cond.fieldLink RX12 164 "SightedMonthsModel" "token" "I" ∈ Cond.fieldLink RX12 164 "SightedMonthsModel" "token" "I" :: wtGB_117)
theorem twGB_117 : ∀ w ∈ wtGB_117, w ∈ wsGB := fun w h => twGB_116 w (List.mem_cons_of_mem (Cond.fieldLink RX12 164 "SightedMonthsModel" "token" "I") h)
theorem mGB_117 : Cond.methodLink RX12 283 yX12_movesAll ∈ wsGB := twGB_117 _ (List.mem_cons_self : Cond.methodLink RX12 283 yX12_movesAll ∈ Cond.methodLink RX12 283 yX12_movesAll :: wtGB_118)
theorem twGB_118 : ∀ w ∈ wtGB_118, w ∈ wsGB := fun w h => twGB_117 w (List.mem_cons_of_mem (Cond.methodLink RX12 283 yX12_movesAll) h)
theorem mGB_118 : Cond.instanceMethod yX12_movesAll ∈ wsGB := twGB_118 _ (List.mem_cons_self : Cond.instanceMethod yX12_movesAll ∈ Cond.instanceMethod yX12_movesAll :: wtGB_119)
theorem twGB_119 : ∀ w ∈ wtGB_119, w ∈ wsGB := fun w h => twGB_118 w (List.mem_cons_of_mem (Cond.instanceMethod yX12_movesAll) h)
theorem mGB_119 : Cond.selects RX12 yX12_movesAll yX12_movesAll ∈ wsGB := twGB_119 _ (List.mem_cons_self : Cond.selects RX12 yX12_movesAll yX12_movesAll ∈ Cond.selects RX12 yX12_movesAll yX12_movesAll :: wtGB_120)
theorem twGB_120 : ∀ w ∈ wtGB_120, w ∈ wsGB := fun w h => twGB_119 w (List.mem_cons_of_mem (Cond.selects RX12 yX12_movesAll yX12_movesAll) h)
theorem mGB_120 : Cond.code yX12_movesAll cX12_movesAll 3 none ∈ wsGB := twGB_120 _ (List.mem_cons_self : Cond.code yX12_movesAll cX12_movesAll 3 none ∈ Cond.code yX12_movesAll cX12_movesAll 3 none :: wtGB_121)
theorem twGB_121 : ∀ w ∈ wtGB_121, w ∈ wsGB := fun w h => twGB_120 w (List.mem_cons_of_mem (Cond.code yX12_movesAll cX12_movesAll 3 none) h)
theorem mGB_121 : Cond.fieldLink RX12 106 "SightedMonthsModel" "keeps" "Z" ∈ wsGB := twGB_121 _ (List.mem_cons_self : Cond.fieldLink RX12 106 "SightedMonthsModel" "keeps" "Z" ∈ Cond.fieldLink RX12 106 "SightedMonthsModel" "keeps" "Z" :: wtGB_122)
theorem twGB_122 : ∀ w ∈ wtGB_122, w ∈ wsGB := fun w h => twGB_121 w (List.mem_cons_of_mem (Cond.fieldLink RX12 106 "SightedMonthsModel" "keeps" "Z") h)
theorem mGB_122 : Cond.fieldLink RX12 110 "SightedMonthsModel" "keptAt" "I" ∈ wsGB := twGB_122 _ (List.mem_cons_self : Cond.fieldLink RX12 110 "SightedMonthsModel" "keptAt" "I" ∈ Cond.fieldLink RX12 110 "SightedMonthsModel" "keptAt" "I" :: wtGB_123)
theorem twGB_123 : ∀ w ∈ wtGB_123, w ∈ wsGB := fun w h => twGB_122 w (List.mem_cons_of_mem (Cond.fieldLink RX12 110 "SightedMonthsModel" "keptAt" "I") h)
theorem mGB_123 : Cond.methodLink RX12 113 yX12_moves ∈ wsGB := twGB_123 _ (List.mem_cons_self : Cond.methodLink RX12 113 yX12_moves ∈ Cond.methodLink RX12 113 yX12_moves :: wtGB_124)
theorem twGB_124 : ∀ w ∈ wtGB_124, w ∈ wsGB := fun w h => twGB_123 w (List.mem_cons_of_mem (Cond.methodLink RX12 113 yX12_moves) h)
theorem mGB_124 : Cond.instanceMethod yX12_moves ∈ wsGB := twGB_124 _ (List.mem_cons_self : Cond.instanceMethod yX12_moves ∈ Cond.instanceMethod yX12_moves :: wtGB_125)
theorem twGB_125 : ∀ w ∈ wtGB_125, w ∈ wsGB := fun w h => twGB_124 w (List.mem_cons_of_mem (Cond.instanceMethod yX12_moves) h)
theorem mGB_125 : Cond.selects RX12 yX12_moves yX12_moves ∈ wsGB := twGB_125 _ (List.mem_cons_self : Cond.selects RX12 yX12_moves yX12_moves ∈ Cond.selects RX12 yX12_moves yX12_moves :: wtGB_126)
theorem twGB_126 : ∀ w ∈ wtGB_126, w ∈ wsGB := fun w h => twGB_125 w (List.mem_cons_of_mem (Cond.selects RX12 yX12_moves yX12_moves) h)
theorem mGB_126 : Cond.code yX12_moves cX12_moves 3 (some .int) ∈ wsGB := twGB_126 _ (List.mem_cons_self : Cond.code yX12_moves cX12_moves 3 (some .int) ∈ Cond.code yX12_moves cX12_moves 3 (some .int) :: wtGB_127)
theorem twGB_127 : ∀ w ∈ wtGB_127, w ∈ wsGB := fun w h => twGB_126 w (List.mem_cons_of_mem (Cond.code yX12_moves cX12_moves 3 (some .int)) h)
theorem mGB_127 : Cond.methodLink RX12 147 yX12_movesRow ∈ wsGB := twGB_127 _ (List.mem_cons_self : Cond.methodLink RX12 147 yX12_movesRow ∈ Cond.methodLink RX12 147 yX12_movesRow :: wtGB_128)
theorem twGB_128 : ∀ w ∈ wtGB_128, w ∈ wsGB := fun w h => twGB_127 w (List.mem_cons_of_mem (Cond.methodLink RX12 147 yX12_movesRow) h)
theorem mGB_128 : Cond.instanceMethod yX12_movesRow ∈ wsGB := twGB_128 _ (List.mem_cons_self : Cond.instanceMethod yX12_movesRow ∈ Cond.instanceMethod yX12_movesRow :: wtGB_129)
theorem twGB_129 : ∀ w ∈ wtGB_129, w ∈ wsGB := fun w h => twGB_128 w (List.mem_cons_of_mem (Cond.instanceMethod yX12_movesRow) h)
theorem mGB_129 : Cond.selects RX12 yX12_movesRow yX12_movesRow ∈ wsGB := twGB_129 _ (List.mem_cons_self : Cond.selects RX12 yX12_movesRow yX12_movesRow ∈ Cond.selects RX12 yX12_movesRow yX12_movesRow :: wtGB_130)
theorem twGB_130 : ∀ w ∈ wtGB_130, w ∈ wsGB := fun w h => twGB_129 w (List.mem_cons_of_mem (Cond.selects RX12 yX12_movesRow yX12_movesRow) h)
theorem mGB_130 : Cond.code yX12_movesRow cX12_movesRow 3 none ∈ wsGB := twGB_130 _ (List.mem_cons_self : Cond.code yX12_movesRow cX12_movesRow 3 none ∈ Cond.code yX12_movesRow cX12_movesRow 3 none :: wtGB_131)
theorem twGB_131 : ∀ w ∈ wtGB_131, w ∈ wsGB := fun w h => twGB_130 w (List.mem_cons_of_mem (Cond.code yX12_movesRow cX12_movesRow 3 none) h)
theorem mGB_131 : Cond.methodLink RX12 198 yX12_next ∈ wsGB := twGB_131 _ (List.mem_cons_self : Cond.methodLink RX12 198 yX12_next ∈ Cond.methodLink RX12 198 yX12_next :: wtGB_132)
theorem twGB_132 : ∀ w ∈ wtGB_132, w ∈ wsGB := fun w h => twGB_131 w (List.mem_cons_of_mem (Cond.methodLink RX12 198 yX12_next) h)
theorem mGB_132 : Cond.instanceMethod yX12_next ∈ wsGB := twGB_132 _ (List.mem_cons_self : Cond.instanceMethod yX12_next ∈ Cond.instanceMethod yX12_next :: wtGB_133)
theorem twGB_133 : ∀ w ∈ wtGB_133, w ∈ wsGB := fun w h => twGB_132 w (List.mem_cons_of_mem (Cond.instanceMethod yX12_next) h)
theorem mGB_133 : Cond.selects RX12 yX12_next yX12_next ∈ wsGB := twGB_133 _ (List.mem_cons_self : Cond.selects RX12 yX12_next yX12_next ∈ Cond.selects RX12 yX12_next yX12_next :: wtGB_134)
theorem twGB_134 : ∀ w ∈ wtGB_134, w ∈ wsGB := fun w h => twGB_133 w (List.mem_cons_of_mem (Cond.selects RX12 yX12_next yX12_next) h)
theorem mGB_134 : Cond.code yX12_next cX12_next 1 none ∈ wsGB := twGB_134 _ (List.mem_cons_self : Cond.code yX12_next cX12_next 1 none ∈ Cond.code yX12_next cX12_next 1 none :: wtGB_135)
theorem twGB_135 : ∀ w ∈ wtGB_135, w ∈ wsGB := fun w h => twGB_134 w (List.mem_cons_of_mem (Cond.code yX12_next cX12_next 1 none) h)
theorem mGB_135 : Cond.fieldLink RX12 158 "SightedMonthsModel" "begin" "I" ∈ wsGB := twGB_135 _ (List.mem_cons_self : Cond.fieldLink RX12 158 "SightedMonthsModel" "begin" "I" ∈ Cond.fieldLink RX12 158 "SightedMonthsModel" "begin" "I" :: wtGB_136)
theorem twGB_136 : ∀ w ∈ wtGB_136, w ∈ wsGB := fun w h => twGB_135 w (List.mem_cons_of_mem (Cond.fieldLink RX12 158 "SightedMonthsModel" "begin" "I") h)
theorem mGB_136 : Cond.fieldLink RX12 161 "SightedMonthsModel" "value" "I" ∈ wsGB := twGB_136 _ (List.mem_cons_self : Cond.fieldLink RX12 161 "SightedMonthsModel" "value" "I" ∈ Cond.fieldLink RX12 161 "SightedMonthsModel" "value" "I" :: wtGB_137)
theorem twGB_137 : ∀ w ∈ wtGB_137, w ∈ wsGB := fun w h => twGB_136 w (List.mem_cons_of_mem (Cond.fieldLink RX12 161 "SightedMonthsModel" "value" "I") h)
theorem mGB_137 : Cond.constant RX12 167 (100000) ∈ wsGB := twGB_137 _ (List.mem_cons_self : Cond.constant RX12 167 (100000) ∈ Cond.constant RX12 167 (100000) :: wtGB_138)
theorem twGB_138 : ∀ w ∈ wtGB_138, w ∈ wsGB := fun w h => twGB_137 w (List.mem_cons_of_mem (Cond.constant RX12 167 (100000)) h)
theorem mGB_138 : Cond.methodLink RX12 168 Lib.Math.min.name ∈ wsGB := twGB_138 _ (List.mem_cons_self : Cond.methodLink RX12 168 Lib.Math.min.name ∈ Cond.methodLink RX12 168 Lib.Math.min.name :: wtGB_139)
theorem twGB_139 : ∀ w ∈ wtGB_139, w ∈ wsGB := fun w h => twGB_138 w (List.mem_cons_of_mem (Cond.methodLink RX12 168 Lib.Math.min.name) h)
theorem mGB_139 : Cond.methodLink RX12 154 yX12_isAt ∈ wsGB := twGB_139 _ (List.mem_cons_self : Cond.methodLink RX12 154 yX12_isAt ∈ Cond.methodLink RX12 154 yX12_isAt :: wtGB_140)
theorem twGB_140 : ∀ w ∈ wtGB_140, w ∈ wsGB := fun w h => twGB_139 w (List.mem_cons_of_mem (Cond.methodLink RX12 154 yX12_isAt) h)
theorem mGB_140 : Cond.instanceMethod yX12_isAt ∈ wsGB := twGB_140 _ (List.mem_cons_self : Cond.instanceMethod yX12_isAt ∈ Cond.instanceMethod yX12_isAt :: wtGB_141)
theorem twGB_141 : ∀ w ∈ wtGB_141, w ∈ wsGB := fun w h => twGB_140 w (List.mem_cons_of_mem (Cond.instanceMethod yX12_isAt) h)
theorem mGB_141 : Cond.selects RX12 yX12_isAt yX12_isAt ∈ wsGB := twGB_141 _ (List.mem_cons_self : Cond.selects RX12 yX12_isAt yX12_isAt ∈ Cond.selects RX12 yX12_isAt yX12_isAt :: wtGB_142)
theorem twGB_142 : ∀ w ∈ wtGB_142, w ∈ wsGB := fun w h => twGB_141 w (List.mem_cons_of_mem (Cond.selects RX12 yX12_isAt yX12_isAt) h)
theorem mGB_142 : Cond.code yX12_isAt cX12_isAt 3 (some .boolean) ∈ wsGB := twGB_142 _ (List.mem_cons_self : Cond.code yX12_isAt cX12_isAt 3 (some .boolean) ∈ Cond.code yX12_isAt cX12_isAt 3 (some .boolean) :: wtGB_143)
theorem twGB_143 : ∀ w ∈ wtGB_143, w ∈ wsGB := fun w h => twGB_142 w (List.mem_cons_of_mem (Cond.code yX12_isAt cX12_isAt 3 (some .boolean)) h)
theorem mGB_143 : Cond.methodLink RX12 286 yX12_readsLine ∈ wsGB := twGB_143 _ (List.mem_cons_self : Cond.methodLink RX12 286 yX12_readsLine ∈ Cond.methodLink RX12 286 yX12_readsLine :: wtGB_144)
theorem twGB_144 : ∀ w ∈ wtGB_144, w ∈ wsGB := fun w h => twGB_143 w (List.mem_cons_of_mem (Cond.methodLink RX12 286 yX12_readsLine) h)
theorem mGB_144 : Cond.instanceMethod yX12_readsLine ∈ wsGB := twGB_144 _ (List.mem_cons_self : Cond.instanceMethod yX12_readsLine ∈ Cond.instanceMethod yX12_readsLine :: wtGB_145)
theorem twGB_145 : ∀ w ∈ wtGB_145, w ∈ wsGB := fun w h => twGB_144 w (List.mem_cons_of_mem (Cond.instanceMethod yX12_readsLine) h)
theorem mGB_145 : Cond.selects RX12 yX12_readsLine yX12_readsLine ∈ wsGB := twGB_145 _ (List.mem_cons_self : Cond.selects RX12 yX12_readsLine yX12_readsLine ∈ Cond.selects RX12 yX12_readsLine yX12_readsLine :: wtGB_146)
theorem twGB_146 : ∀ w ∈ wtGB_146, w ∈ wsGB := fun w h => twGB_145 w (List.mem_cons_of_mem (Cond.selects RX12 yX12_readsLine yX12_readsLine) h)
theorem mGB_146 : Cond.code yX12_readsLine cX12_readsLine 1 none ∈ wsGB := twGB_146 _ (List.mem_cons_self : Cond.code yX12_readsLine cX12_readsLine 1 none ∈ Cond.code yX12_readsLine cX12_readsLine 1 none :: wtGB_147)
theorem twGB_147 : ∀ w ∈ wtGB_147, w ∈ wsGB := fun w h => twGB_146 w (List.mem_cons_of_mem (Cond.code yX12_readsLine cX12_readsLine 1 none) h)
theorem mGB_147 : Cond.methodLink RX12 256 yX12_readsHead ∈ wsGB := twGB_147 _ (List.mem_cons_self : Cond.methodLink RX12 256 yX12_readsHead ∈ Cond.methodLink RX12 256 yX12_readsHead :: wtGB_148)
theorem twGB_148 : ∀ w ∈ wtGB_148, w ∈ wsGB := fun w h => twGB_147 w (List.mem_cons_of_mem (Cond.methodLink RX12 256 yX12_readsHead) h)
theorem mGB_148 : Cond.instanceMethod yX12_readsHead ∈ wsGB := twGB_148 _ (List.mem_cons_self : Cond.instanceMethod yX12_readsHead ∈ Cond.instanceMethod yX12_readsHead :: wtGB_149)
theorem twGB_149 : ∀ w ∈ wtGB_149, w ∈ wsGB := fun w h => twGB_148 w (List.mem_cons_of_mem (Cond.instanceMethod yX12_readsHead) h)
theorem mGB_149 : Cond.selects RX12 yX12_readsHead yX12_readsHead ∈ wsGB := twGB_149 _ (List.mem_cons_self : Cond.selects RX12 yX12_readsHead yX12_readsHead ∈ Cond.selects RX12 yX12_readsHead yX12_readsHead :: wtGB_150)
theorem twGB_150 : ∀ w ∈ wtGB_150, w ∈ wsGB := fun w h => twGB_149 w (List.mem_cons_of_mem (Cond.selects RX12 yX12_readsHead yX12_readsHead) h)
theorem mGB_150 : Cond.code yX12_readsHead cX12_readsHead 1 none ∈ wsGB := twGB_150 _ (List.mem_cons_self : Cond.code yX12_readsHead cX12_readsHead 1 none ∈ Cond.code yX12_readsHead cX12_readsHead 1 none :: wtGB_151)
theorem twGB_151 : ∀ w ∈ wtGB_151, w ∈ wsGB := fun w h => twGB_150 w (List.mem_cons_of_mem (Cond.code yX12_readsHead cX12_readsHead 1 none) h)
theorem mGB_151 : Cond.methodLink RX12 209 yX12_word ∈ wsGB := twGB_151 _ (List.mem_cons_self : Cond.methodLink RX12 209 yX12_word ∈ Cond.methodLink RX12 209 yX12_word :: wtGB_152)
theorem twGB_152 : ∀ w ∈ wtGB_152, w ∈ wsGB := fun w h => twGB_151 w (List.mem_cons_of_mem (Cond.methodLink RX12 209 yX12_word) h)
theorem mGB_152 : Cond.instanceMethod yX12_word ∈ wsGB := twGB_152 _ (List.mem_cons_self : Cond.instanceMethod yX12_word ∈ Cond.instanceMethod yX12_word :: wtGB_153)
theorem twGB_153 : ∀ w ∈ wtGB_153, w ∈ wsGB := fun w h => twGB_152 w (List.mem_cons_of_mem (Cond.instanceMethod yX12_word) h)
theorem mGB_153 : Cond.selects RX12 yX12_word yX12_word ∈ wsGB := twGB_153 _ (List.mem_cons_self : Cond.selects RX12 yX12_word yX12_word ∈ Cond.selects RX12 yX12_word yX12_word :: wtGB_154)
theorem twGB_154 : ∀ w ∈ wtGB_154, w ∈ wsGB := fun w h => twGB_153 w (List.mem_cons_of_mem (Cond.selects RX12 yX12_word yX12_word) h)
theorem mGB_154 : Cond.code yX12_word cX12_word 2 none ∈ wsGB := twGB_154 _ (List.mem_cons_self : Cond.code yX12_word cX12_word 2 none ∈ Cond.code yX12_word cX12_word 2 none :: wtGB_155)
theorem twGB_155 : ∀ w ∈ wtGB_155, w ∈ wsGB := fun w h => twGB_154 w (List.mem_cons_of_mem (Cond.code yX12_word cX12_word 2 none) h)
theorem mGB_155 : Cond.methodLink RX12 201 yX12_isWord ∈ wsGB := twGB_155 _ (List.mem_cons_self : Cond.methodLink RX12 201 yX12_isWord ∈ Cond.methodLink RX12 201 yX12_isWord :: wtGB_156)
theorem twGB_156 : ∀ w ∈ wtGB_156, w ∈ wsGB := fun w h => twGB_155 w (List.mem_cons_of_mem (Cond.methodLink RX12 201 yX12_isWord) h)
theorem mGB_156 : Cond.instanceMethod yX12_isWord ∈ wsGB := twGB_156 _ (List.mem_cons_self : Cond.instanceMethod yX12_isWord ∈ Cond.instanceMethod yX12_isWord :: wtGB_157)
theorem twGB_157 : ∀ w ∈ wtGB_157, w ∈ wsGB := fun w h => twGB_156 w (List.mem_cons_of_mem (Cond.instanceMethod yX12_isWord) h)
theorem mGB_157 : Cond.selects RX12 yX12_isWord yX12_isWord ∈ wsGB := twGB_157 _ (List.mem_cons_self : Cond.selects RX12 yX12_isWord yX12_isWord ∈ Cond.selects RX12 yX12_isWord yX12_isWord :: wtGB_158)
theorem twGB_158 : ∀ w ∈ wtGB_158, w ∈ wsGB := fun w h => twGB_157 w (List.mem_cons_of_mem (Cond.selects RX12 yX12_isWord yX12_isWord) h)
theorem mGB_158 : Cond.code yX12_isWord cX12_isWord 4 (some .boolean) ∈ wsGB := twGB_158 _ (List.mem_cons_self : Cond.code yX12_isWord cX12_isWord 4 (some .boolean) ∈ Cond.code yX12_isWord cX12_isWord 4 (some .boolean) :: wtGB_159)
theorem twGB_159 : ∀ w ∈ wtGB_159, w ∈ wsGB := fun w h => twGB_158 w (List.mem_cons_of_mem (Cond.code yX12_isWord cX12_isWord 4 (some .boolean)) h)
theorem mGB_159 : Cond.methodLink RX12 184 yJ0_length_8abf5 ∈ wsGB := twGB_159 _ (List.mem_cons_self : Cond.methodLink RX12 184 yJ0_length_8abf5 ∈ Cond.methodLink RX12 184 yJ0_length_8abf5 :: wtGB_160)
theorem twGB_160 : ∀ w ∈ wtGB_160, w ∈ wsGB := fun w h => twGB_159 w (List.mem_cons_of_mem (Cond.methodLink RX12 184 yJ0_length_8abf5) h)
theorem mGB_160 : Cond.methodLink RX12 190 yJ0_charAt_5068e ∈ wsGB := twGB_160 _ (List.mem_cons_self : Cond.methodLink RX12 190 yJ0_charAt_5068e ∈ Cond.methodLink RX12 190 yJ0_charAt_5068e :: wtGB_161)
theorem twGB_161 : ∀ w ∈ wtGB_161, w ∈ wsGB := fun w h => twGB_160 w (List.mem_cons_of_mem (Cond.methodLink RX12 190 yJ0_charAt_5068e) h)
theorem mGB_161 : Cond.methodLink RX12 205 yX12_passes ∈ wsGB := twGB_161 _ (List.mem_cons_self : Cond.methodLink RX12 205 yX12_passes ∈ Cond.methodLink RX12 205 yX12_passes :: wtGB_162)
theorem twGB_162 : ∀ w ∈ wtGB_162, w ∈ wsGB := fun w h => twGB_161 w (List.mem_cons_of_mem (Cond.methodLink RX12 205 yX12_passes) h)
theorem mGB_162 : Cond.instanceMethod yX12_passes ∈ wsGB := twGB_162 _ (List.mem_cons_self : Cond.instanceMethod yX12_passes ∈ Cond.instanceMethod yX12_passes :: wtGB_163)
theorem twGB_163 : ∀ w ∈ wtGB_163, w ∈ wsGB := fun w h => twGB_162 w (List.mem_cons_of_mem (Cond.instanceMethod yX12_passes) h)
theorem mGB_163 : Cond.selects RX12 yX12_passes yX12_passes ∈ wsGB := twGB_163 _ (List.mem_cons_self : Cond.selects RX12 yX12_passes yX12_passes ∈ Cond.selects RX12 yX12_passes yX12_passes :: wtGB_164)
theorem twGB_164 : ∀ w ∈ wtGB_164, w ∈ wsGB := fun w h => twGB_163 w (List.mem_cons_of_mem (Cond.selects RX12 yX12_passes yX12_passes) h)
theorem mGB_164 : Cond.code yX12_passes cX12_passes 2 none ∈ wsGB := twGB_164 _ (List.mem_cons_self : Cond.code yX12_passes cX12_passes 2 none ∈ Cond.code yX12_passes cX12_passes 2 none :: wtGB_165)
theorem twGB_165 : ∀ w ∈ wtGB_165, w ∈ wsGB := fun w h => twGB_164 w (List.mem_cons_of_mem (Cond.code yX12_passes cX12_passes 2 none) h)
theorem mGB_165 : Cond.methodLink RX12 194 yX12_faults ∈ wsGB := twGB_165 _ (List.mem_cons_self : Cond.methodLink RX12 194 yX12_faults ∈ Cond.methodLink RX12 194 yX12_faults :: wtGB_166)
theorem twGB_166 : ∀ w ∈ wtGB_166, w ∈ wsGB := fun w h => twGB_165 w (List.mem_cons_of_mem (Cond.methodLink RX12 194 yX12_faults) h)
theorem mGB_166 : Cond.instanceMethod yX12_faults ∈ wsGB := twGB_166 _ (List.mem_cons_self : Cond.instanceMethod yX12_faults ∈ Cond.instanceMethod yX12_faults :: wtGB_167)
theorem twGB_167 : ∀ w ∈ wtGB_167, w ∈ wsGB := fun w h => twGB_166 w (List.mem_cons_of_mem (Cond.instanceMethod yX12_faults) h)
theorem mGB_167 : Cond.selects RX12 yX12_faults yX12_faults ∈ wsGB := twGB_167 _ (List.mem_cons_self : Cond.selects RX12 yX12_faults yX12_faults ∈ Cond.selects RX12 yX12_faults yX12_faults :: wtGB_168)
theorem twGB_168 : ∀ w ∈ wtGB_168, w ∈ wsGB := fun w h => twGB_167 w (List.mem_cons_of_mem (Cond.selects RX12 yX12_faults yX12_faults) h)
theorem mGB_168 : Cond.code yX12_faults cX12_faults 2 none ∈ wsGB := twGB_168 _ (List.mem_cons_self : Cond.code yX12_faults cX12_faults 2 none ∈ Cond.code yX12_faults cX12_faults 2 none :: wtGB_169)
theorem twGB_169 : ∀ w ∈ wtGB_169, w ∈ wsGB := fun w h => twGB_168 w (List.mem_cons_of_mem (Cond.code yX12_faults cX12_faults 2 none) h)
theorem mGB_169 : Cond.methodLink RX12 180 yX12_faultsAt ∈ wsGB := twGB_169 _ (List.mem_cons_self : Cond.methodLink RX12 180 yX12_faultsAt ∈ Cond.methodLink RX12 180 yX12_faultsAt :: wtGB_170)
theorem twGB_170 : ∀ w ∈ wtGB_170, w ∈ wsGB := fun w h => twGB_169 w (List.mem_cons_of_mem (Cond.methodLink RX12 180 yX12_faultsAt) h)
theorem mGB_170 : Cond.instanceMethod yX12_faultsAt ∈ wsGB := twGB_170 _ (List.mem_cons_self : Cond.instanceMethod yX12_faultsAt ∈ Cond.instanceMethod yX12_faultsAt :: wtGB_171)
theorem twGB_171 : ∀ w ∈ wtGB_171, w ∈ wsGB := fun w h => twGB_170 w (List.mem_cons_of_mem (Cond.instanceMethod yX12_faultsAt) h)
theorem mGB_171 : Cond.selects RX12 yX12_faultsAt yX12_faultsAt ∈ wsGB := twGB_171 _ (List.mem_cons_self : Cond.selects RX12 yX12_faultsAt yX12_faultsAt ∈ Cond.selects RX12 yX12_faultsAt yX12_faultsAt :: wtGB_172)
theorem twGB_172 : ∀ w ∈ wtGB_172, w ∈ wsGB := fun w h => twGB_171 w (List.mem_cons_of_mem (Cond.selects RX12 yX12_faultsAt yX12_faultsAt) h)
theorem mGB_172 : Cond.code yX12_faultsAt cX12_faultsAt 3 none ∈ wsGB := twGB_172 _ (List.mem_cons_self : Cond.code yX12_faultsAt cX12_faultsAt 3 none ∈ Cond.code yX12_faultsAt cX12_faultsAt 3 none :: wtGB_173)
theorem twGB_173 : ∀ w ∈ wtGB_173, w ∈ wsGB := fun w h => twGB_172 w (List.mem_cons_of_mem (Cond.code yX12_faultsAt cX12_faultsAt 3 none) h)
theorem mGB_173 : Cond.methodLink RX12 223 yX12_numberBehind ∈ wsGB := twGB_173 _ (List.mem_cons_self : Cond.methodLink RX12 223 yX12_numberBehind ∈ Cond.methodLink RX12 223 yX12_numberBehind :: wtGB_174)
theorem twGB_174 : ∀ w ∈ wtGB_174, w ∈ wsGB := fun w h => twGB_173 w (List.mem_cons_of_mem (Cond.methodLink RX12 223 yX12_numberBehind) h)
theorem mGB_174 : Cond.instanceMethod yX12_numberBehind ∈ wsGB := twGB_174 _ (List.mem_cons_self : Cond.instanceMethod yX12_numberBehind ∈ Cond.instanceMethod yX12_numberBehind :: wtGB_175)
theorem twGB_175 : ∀ w ∈ wtGB_175, w ∈ wsGB := fun w h => twGB_174 w (List.mem_cons_of_mem (Cond.instanceMethod yX12_numberBehind) h)
theorem mGB_175 : Cond.selects RX12 yX12_numberBehind yX12_numberBehind ∈ wsGB := twGB_175 _ (List.mem_cons_self : Cond.selects RX12 yX12_numberBehind yX12_numberBehind ∈ Cond.selects RX12 yX12_numberBehind yX12_numberBehind :: wtGB_176)
theorem twGB_176 : ∀ w ∈ wtGB_176, w ∈ wsGB := fun w h => twGB_175 w (List.mem_cons_of_mem (Cond.selects RX12 yX12_numberBehind yX12_numberBehind) h)
theorem mGB_176 : Cond.code yX12_numberBehind cX12_numberBehind 4 (some .int) ∈ wsGB := twGB_176 _ (List.mem_cons_self : Cond.code yX12_numberBehind cX12_numberBehind 4 (some .int) ∈ Cond.code yX12_numberBehind cX12_numberBehind 4 (some .int) :: wtGB_177)
theorem twGB_177 : ∀ w ∈ wtGB_177, w ∈ wsGB := fun w h => twGB_176 w (List.mem_cons_of_mem (Cond.code yX12_numberBehind cX12_numberBehind 4 (some .int)) h)
theorem mGB_177 : Cond.methodLink RX12 213 yX12_number ∈ wsGB := twGB_177 _ (List.mem_cons_self : Cond.methodLink RX12 213 yX12_number ∈ Cond.methodLink RX12 213 yX12_number :: wtGB_178)
theorem twGB_178 : ∀ w ∈ wtGB_178, w ∈ wsGB := fun w h => twGB_177 w (List.mem_cons_of_mem (Cond.methodLink RX12 213 yX12_number) h)
theorem mGB_178 : Cond.instanceMethod yX12_number ∈ wsGB := twGB_178 _ (List.mem_cons_self : Cond.instanceMethod yX12_number ∈ Cond.instanceMethod yX12_number :: wtGB_179)
theorem twGB_179 : ∀ w ∈ wtGB_179, w ∈ wsGB := fun w h => twGB_178 w (List.mem_cons_of_mem (Cond.instanceMethod yX12_number) h)
theorem mGB_179 : Cond.selects RX12 yX12_number yX12_number ∈ wsGB := twGB_179 _ (List.mem_cons_self : Cond.selects RX12 yX12_number yX12_number ∈ Cond.selects RX12 yX12_number yX12_number :: wtGB_180)
theorem twGB_180 : ∀ w ∈ wtGB_180, w ∈ wsGB := fun w h => twGB_179 w (List.mem_cons_of_mem (Cond.selects RX12 yX12_number yX12_number) h)
theorem mGB_180 : Cond.code yX12_number cX12_number 4 (some .int) ∈ wsGB := twGB_180 _ (List.mem_cons_self : Cond.code yX12_number cX12_number 4 (some .int) ∈ Cond.code yX12_number cX12_number 4 (some .int) :: wtGB_181)
theorem twGB_181 : ∀ w ∈ wtGB_181, w ∈ wsGB := fun w h => twGB_180 w (List.mem_cons_of_mem (Cond.code yX12_number cX12_number 4 (some .int)) h)
theorem mGB_181 : Cond.methodLink RX12 261 yX12_readsMoon ∈ wsGB := twGB_181 _ (List.mem_cons_self : Cond.methodLink RX12 261 yX12_readsMoon ∈ Cond.methodLink RX12 261 yX12_readsMoon :: wtGB_182)
theorem twGB_182 : ∀ w ∈ wtGB_182, w ∈ wsGB := fun w h => twGB_181 w (List.mem_cons_of_mem (Cond.methodLink RX12 261 yX12_readsMoon) h)
theorem mGB_182 : Cond.instanceMethod yX12_readsMoon ∈ wsGB := twGB_182 _ (List.mem_cons_self : Cond.instanceMethod yX12_readsMoon ∈ Cond.instanceMethod yX12_readsMoon :: wtGB_183)
theorem twGB_183 : ∀ w ∈ wtGB_183, w ∈ wsGB := fun w h => twGB_182 w (List.mem_cons_of_mem (Cond.instanceMethod yX12_readsMoon) h)
theorem mGB_183 : Cond.selects RX12 yX12_readsMoon yX12_readsMoon ∈ wsGB := twGB_183 _ (List.mem_cons_self : Cond.selects RX12 yX12_readsMoon yX12_readsMoon ∈ Cond.selects RX12 yX12_readsMoon yX12_readsMoon :: wtGB_184)
theorem twGB_184 : ∀ w ∈ wtGB_184, w ∈ wsGB := fun w h => twGB_183 w (List.mem_cons_of_mem (Cond.selects RX12 yX12_readsMoon yX12_readsMoon) h)
theorem mGB_184 : Cond.code yX12_readsMoon cX12_readsMoon 1 none ∈ wsGB := twGB_184 _ (List.mem_cons_self : Cond.code yX12_readsMoon cX12_readsMoon 1 none ∈ Cond.code yX12_readsMoon cX12_readsMoon 1 none :: wtGB_185)
theorem twGB_185 : ∀ w ∈ wtGB_185, w ∈ wsGB := fun w h => twGB_184 w (List.mem_cons_of_mem (Cond.code yX12_readsMoon cX12_readsMoon 1 none) h)
theorem mGB_185 : Cond.constant RX12 247 (99999) ∈ wsGB := twGB_185 _ (List.mem_cons_self : Cond.constant RX12 247 (99999) ∈ Cond.constant RX12 247 (99999) :: wtGB_186)
theorem twGB_186 : ∀ w ∈ wtGB_186, w ∈ wsGB := fun w h => twGB_185 w (List.mem_cons_of_mem (Cond.constant RX12 247 (99999)) h)
theorem mGB_186 : Cond.methodLink RX12 266 yX12_readsPlace ∈ wsGB := twGB_186 _ (List.mem_cons_self : Cond.methodLink RX12 266 yX12_readsPlace ∈ Cond.methodLink RX12 266 yX12_readsPlace :: wtGB_187)
theorem twGB_187 : ∀ w ∈ wtGB_187, w ∈ wsGB := fun w h => twGB_186 w (List.mem_cons_of_mem (Cond.methodLink RX12 266 yX12_readsPlace) h)
theorem mGB_187 : Cond.instanceMethod yX12_readsPlace ∈ wsGB := twGB_187 _ (List.mem_cons_self : Cond.instanceMethod yX12_readsPlace ∈ Cond.instanceMethod yX12_readsPlace :: wtGB_188)
theorem twGB_188 : ∀ w ∈ wtGB_188, w ∈ wsGB := fun w h => twGB_187 w (List.mem_cons_of_mem (Cond.instanceMethod yX12_readsPlace) h)
theorem mGB_188 : Cond.selects RX12 yX12_readsPlace yX12_readsPlace ∈ wsGB := twGB_188 _ (List.mem_cons_self : Cond.selects RX12 yX12_readsPlace yX12_readsPlace ∈ Cond.selects RX12 yX12_readsPlace yX12_readsPlace :: wtGB_189)
theorem twGB_189 : ∀ w ∈ wtGB_189, w ∈ wsGB := fun w h => twGB_188 w (List.mem_cons_of_mem (Cond.selects RX12 yX12_readsPlace yX12_readsPlace) h)
theorem mGB_189 : Cond.code yX12_readsPlace cX12_readsPlace 2 none ∈ wsGB := twGB_189 _ (List.mem_cons_self : Cond.code yX12_readsPlace cX12_readsPlace 2 none ∈ Cond.code yX12_readsPlace cX12_readsPlace 2 none :: wtGB_190)
theorem twGB_190 : ∀ w ∈ wtGB_190, w ∈ wsGB := fun w h => twGB_189 w (List.mem_cons_of_mem (Cond.code yX12_readsPlace cX12_readsPlace 2 none) h)
theorem mGB_190 : Cond.methodLink RX12 216 yX12_named ∈ wsGB := twGB_190 _ (List.mem_cons_self : Cond.methodLink RX12 216 yX12_named ∈ Cond.methodLink RX12 216 yX12_named :: wtGB_191)
theorem twGB_191 : ∀ w ∈ wtGB_191, w ∈ wsGB := fun w h => twGB_190 w (List.mem_cons_of_mem (Cond.methodLink RX12 216 yX12_named) h)
theorem mGB_191 : Cond.instanceMethod yX12_named ∈ wsGB := twGB_191 _ (List.mem_cons_self : Cond.instanceMethod yX12_named ∈ Cond.instanceMethod yX12_named :: wtGB_192)
theorem twGB_192 : ∀ w ∈ wtGB_192, w ∈ wsGB := fun w h => twGB_191 w (List.mem_cons_of_mem (Cond.instanceMethod yX12_named) h)
theorem mGB_192 : Cond.selects RX12 yX12_named yX12_named ∈ wsGB := twGB_192 _ (List.mem_cons_self : Cond.selects RX12 yX12_named yX12_named ∈ Cond.selects RX12 yX12_named yX12_named :: wtGB_193)
theorem twGB_193 : ∀ w ∈ wtGB_193, w ∈ wsGB := fun w h => twGB_192 w (List.mem_cons_of_mem (Cond.selects RX12 yX12_named yX12_named) h)
theorem mGB_193 : Cond.code yX12_named cX12_named 4 (some .int) ∈ wsGB := twGB_193 _ (List.mem_cons_self : Cond.code yX12_named cX12_named 4 (some .int) ∈ Cond.code yX12_named cX12_named 4 (some .int) :: wtGB_194)
theorem twGB_194 : ∀ w ∈ wtGB_194, w ∈ wsGB := fun w h => twGB_193 w (List.mem_cons_of_mem (Cond.code yX12_named cX12_named 4 (some .int)) h)
theorem mGB_194 : Cond.methodLink RX12 275 yX12_readsReport ∈ wsGB := twGB_194 _ (List.mem_cons_self : Cond.methodLink RX12 275 yX12_readsReport ∈ Cond.methodLink RX12 275 yX12_readsReport :: wtGB_195)
theorem twGB_195 : ∀ w ∈ wtGB_195, w ∈ wsGB := fun w h => twGB_194 w (List.mem_cons_of_mem (Cond.methodLink RX12 275 yX12_readsReport) h)
theorem mGB_195 : Cond.instanceMethod yX12_readsReport ∈ wsGB := twGB_195 _ (List.mem_cons_self : Cond.instanceMethod yX12_readsReport ∈ Cond.instanceMethod yX12_readsReport :: wtGB_196)
theorem twGB_196 : ∀ w ∈ wtGB_196, w ∈ wsGB := fun w h => twGB_195 w (List.mem_cons_of_mem (Cond.instanceMethod yX12_readsReport) h)
theorem mGB_196 : Cond.selects RX12 yX12_readsReport yX12_readsReport ∈ wsGB := twGB_196 _ (List.mem_cons_self : Cond.selects RX12 yX12_readsReport yX12_readsReport ∈ Cond.selects RX12 yX12_readsReport yX12_readsReport :: wtGB_197)
theorem twGB_197 : ∀ w ∈ wtGB_197, w ∈ wsGB := fun w h => twGB_196 w (List.mem_cons_of_mem (Cond.selects RX12 yX12_readsReport yX12_readsReport) h)
theorem mGB_197 : Cond.code yX12_readsReport cX12_readsReport 6 none ∈ wsGB := twGB_197 _ (List.mem_cons_self : Cond.code yX12_readsReport cX12_readsReport 6 none ∈ Cond.code yX12_readsReport cX12_readsReport 6 none :: wtGB_198)
theorem twGB_198 : ∀ w ∈ wtGB_198, w ∈ wsGB := fun w h => twGB_197 w (List.mem_cons_of_mem (Cond.code yX12_readsReport cX12_readsReport 6 none) h)
theorem mGB_198 : Cond.methodLink RX12 227 yX12_placeHere ∈ wsGB := twGB_198 _ (List.mem_cons_self : Cond.methodLink RX12 227 yX12_placeHere ∈ Cond.methodLink RX12 227 yX12_placeHere :: wtGB_199)
theorem twGB_199 : ∀ w ∈ wtGB_199, w ∈ wsGB := fun w h => twGB_198 w (List.mem_cons_of_mem (Cond.methodLink RX12 227 yX12_placeHere) h)
theorem mGB_199 : Cond.instanceMethod yX12_placeHere ∈ wsGB := twGB_199 _ (List.mem_cons_self : Cond.instanceMethod yX12_placeHere ∈ Cond.instanceMethod yX12_placeHere :: wtGB_200)
theorem twGB_200 : ∀ w ∈ wtGB_200, w ∈ wsGB := fun w h => twGB_199 w (List.mem_cons_of_mem (Cond.instanceMethod yX12_placeHere) h)
theorem mGB_200 : Cond.selects RX12 yX12_placeHere yX12_placeHere ∈ wsGB := twGB_200 _ (List.mem_cons_self : Cond.selects RX12 yX12_placeHere yX12_placeHere ∈ Cond.selects RX12 yX12_placeHere yX12_placeHere :: wtGB_201)
theorem twGB_201 : ∀ w ∈ wtGB_201, w ∈ wsGB := fun w h => twGB_200 w (List.mem_cons_of_mem (Cond.selects RX12 yX12_placeHere yX12_placeHere) h)
theorem mGB_201 : Cond.code yX12_placeHere cX12_placeHere 2 (some .int) ∈ wsGB := twGB_201 _ (List.mem_cons_self : Cond.code yX12_placeHere cX12_placeHere 2 (some .int) ∈ Cond.code yX12_placeHere cX12_placeHere 2 (some .int) :: wtGB_202)
theorem twGB_202 : ∀ w ∈ wtGB_202, w ∈ wsGB := fun w h => twGB_201 w (List.mem_cons_of_mem (Cond.code yX12_placeHere cX12_placeHere 2 (some .int)) h)
theorem mGB_202 : Cond.methodLink RX12 219 Lib.Math.max.name ∈ wsGB := twGB_202 _ (List.mem_cons_self : Cond.methodLink RX12 219 Lib.Math.max.name ∈ Cond.methodLink RX12 219 Lib.Math.max.name :: wtGB_203)
theorem twGB_203 : ∀ w ∈ wtGB_203, w ∈ wsGB := fun w h => twGB_202 w (List.mem_cons_of_mem (Cond.methodLink RX12 219 Lib.Math.max.name) h)
theorem mGB_203 : Cond.static Lib.Math.max.name ∈ wsGB := twGB_203 _ (List.mem_cons_self : Cond.static Lib.Math.max.name ∈ Cond.static Lib.Math.max.name :: wtGB_204)
theorem twGB_204 : ∀ w ∈ wtGB_204, w ∈ wsGB := fun w h => twGB_203 w (List.mem_cons_of_mem (Cond.static Lib.Math.max.name) h)
theorem mGB_204 : Cond.code Lib.Math.max.name Lib.Math.max.code 2 (some .int) ∈ wsGB := twGB_204 _ (List.mem_cons_self : Cond.code Lib.Math.max.name Lib.Math.max.code 2 (some .int) ∈ Cond.code Lib.Math.max.name Lib.Math.max.code 2 (some .int) :: wtGB_205)
theorem twGB_205 : ∀ w ∈ wtGB_205, w ∈ wsGB := fun w h => twGB_204 w (List.mem_cons_of_mem (Cond.code Lib.Math.max.name Lib.Math.max.code 2 (some .int)) h)
theorem mGB_205 : Cond.methodLink RX12 236 yX12_lays ∈ wsGB := twGB_205 _ (List.mem_cons_self : Cond.methodLink RX12 236 yX12_lays ∈ Cond.methodLink RX12 236 yX12_lays :: wtGB_206)
theorem twGB_206 : ∀ w ∈ wtGB_206, w ∈ wsGB := fun w h => twGB_205 w (List.mem_cons_of_mem (Cond.methodLink RX12 236 yX12_lays) h)
theorem mGB_206 : Cond.instanceMethod yX12_lays ∈ wsGB := twGB_206 _ (List.mem_cons_self : Cond.instanceMethod yX12_lays ∈ Cond.instanceMethod yX12_lays :: wtGB_207)
theorem twGB_207 : ∀ w ∈ wtGB_207, w ∈ wsGB := fun w h => twGB_206 w (List.mem_cons_of_mem (Cond.instanceMethod yX12_lays) h)
theorem mGB_207 : Cond.selects RX12 yX12_lays yX12_lays ∈ wsGB := twGB_207 _ (List.mem_cons_self : Cond.selects RX12 yX12_lays yX12_lays ∈ Cond.selects RX12 yX12_lays yX12_lays :: wtGB_208)
theorem twGB_208 : ∀ w ∈ wtGB_208, w ∈ wsGB := fun w h => twGB_207 w (List.mem_cons_of_mem (Cond.selects RX12 yX12_lays yX12_lays) h)
theorem mGB_208 : Cond.code yX12_lays cX12_lays 6 none ∈ wsGB := twGB_208 _ (List.mem_cons_self : Cond.code yX12_lays cX12_lays 6 none ∈ Cond.code yX12_lays cX12_lays 6 none :: wtGB_209)
theorem twGB_209 : ∀ w ∈ wtGB_209, w ∈ wsGB := fun w h => twGB_208 w (List.mem_cons_of_mem (Cond.code yX12_lays cX12_lays 6 none) h)
theorem mGB_209 : Cond.methodLink RX12 280 yX12_readsDeed ∈ wsGB := twGB_209 _ (List.mem_cons_self : Cond.methodLink RX12 280 yX12_readsDeed ∈ Cond.methodLink RX12 280 yX12_readsDeed :: wtGB_210)
theorem twGB_210 : ∀ w ∈ wtGB_210, w ∈ wsGB := fun w h => twGB_209 w (List.mem_cons_of_mem (Cond.methodLink RX12 280 yX12_readsDeed) h)
theorem mGB_210 : Cond.instanceMethod yX12_readsDeed ∈ wsGB := twGB_210 _ (List.mem_cons_self : Cond.instanceMethod yX12_readsDeed ∈ Cond.instanceMethod yX12_readsDeed :: wtGB_211)
theorem twGB_211 : ∀ w ∈ wtGB_211, w ∈ wsGB := fun w h => twGB_210 w (List.mem_cons_of_mem (Cond.instanceMethod yX12_readsDeed) h)
theorem mGB_211 : Cond.selects RX12 yX12_readsDeed yX12_readsDeed ∈ wsGB := twGB_211 _ (List.mem_cons_self : Cond.selects RX12 yX12_readsDeed yX12_readsDeed ∈ Cond.selects RX12 yX12_readsDeed yX12_readsDeed :: wtGB_212)
theorem twGB_212 : ∀ w ∈ wtGB_212, w ∈ wsGB := fun w h => twGB_211 w (List.mem_cons_of_mem (Cond.selects RX12 yX12_readsDeed yX12_readsDeed) h)
theorem mGB_212 : Cond.code yX12_readsDeed cX12_readsDeed 6 none ∈ wsGB := twGB_212 _ (List.mem_cons_self : Cond.code yX12_readsDeed cX12_readsDeed 6 none ∈ Cond.code yX12_readsDeed cX12_readsDeed 6 none :: wtGB_213)
theorem twGB_213 : ∀ w ∈ wtGB_213, w ∈ wsGB := fun w h => twGB_212 w (List.mem_cons_of_mem (Cond.code yX12_readsDeed cX12_readsDeed 6 none) h)
theorem mGB_213 : Cond.instanceMethod yX12_fault ∈ wsGB := twGB_213 _ (List.mem_cons_self : Cond.instanceMethod yX12_fault ∈ Cond.instanceMethod yX12_fault :: wtGB_214)
theorem twGB_214 : ∀ w ∈ wtGB_214, w ∈ wsGB := fun w h => twGB_213 w (List.mem_cons_of_mem (Cond.instanceMethod yX12_fault) h)
theorem mGB_214 : Cond.selects RX12 yX12_fault yX12_fault ∈ wsGB := twGB_214 _ (List.mem_cons_self : Cond.selects RX12 yX12_fault yX12_fault ∈ Cond.selects RX12 yX12_fault yX12_fault :: wtGB_215)
theorem twGB_215 : ∀ w ∈ wtGB_215, w ∈ wsGB := fun w h => twGB_214 w (List.mem_cons_of_mem (Cond.selects RX12 yX12_fault yX12_fault) h)
theorem mGB_215 : Cond.code yX12_fault cX12_fault 2 (some .int) ∈ wsGB := twGB_215 _ (List.mem_cons_self : Cond.code yX12_fault cX12_fault 2 (some .int) ∈ Cond.code yX12_fault cX12_fault 2 (some .int) :: wtGB_216)
theorem twGB_216 : ∀ w ∈ wtGB_216, w ∈ wsGB := fun w h => twGB_215 w (List.mem_cons_of_mem (Cond.code yX12_fault cX12_fault 2 (some .int)) h)
theorem mGB_216 : Cond.instanceMethod yX12_count ∈ wsGB := twGB_216 _ (List.mem_cons_self : Cond.instanceMethod yX12_count ∈ Cond.instanceMethod yX12_count :: wtGB_217)
theorem twGB_217 : ∀ w ∈ wtGB_217, w ∈ wsGB := fun w h => twGB_216 w (List.mem_cons_of_mem (Cond.instanceMethod yX12_count) h)
theorem mGB_217 : Cond.selects RX12 yX12_count yX12_count ∈ wsGB := twGB_217 _ (List.mem_cons_self : Cond.selects RX12 yX12_count yX12_count ∈ Cond.selects RX12 yX12_count yX12_count :: wtGB_218)
theorem twGB_218 : ∀ w ∈ wtGB_218, w ∈ wsGB := fun w h => twGB_217 w (List.mem_cons_of_mem (Cond.selects RX12 yX12_count yX12_count) h)
theorem mGB_218 : Cond.code yX12_count cX12_count 2 (some .int) ∈ wsGB := twGB_218 _ (List.mem_cons_self : Cond.code yX12_count cX12_count 2 (some .int) ∈ Cond.code yX12_count cX12_count 2 (some .int) :: wtGB_219)
theorem twGB_219 : ∀ w ∈ wtGB_219, w ∈ wsGB := fun w h => twGB_218 w (List.mem_cons_of_mem (Cond.code yX12_count cX12_count 2 (some .int)) h)
theorem mGB_219 : Cond.fieldLink RX12 289 "SightedMonthsModel" "outs" "I" ∈ wsGB := twGB_219 _ (List.mem_cons_self : Cond.fieldLink RX12 289 "SightedMonthsModel" "outs" "I" ∈ Cond.fieldLink RX12 289 "SightedMonthsModel" "outs" "I" :: wtGB_220)
theorem twGB_220 : ∀ w ∈ wtGB_220, w ∈ wsGB := fun w h => twGB_219 w (List.mem_cons_of_mem (Cond.fieldLink RX12 289 "SightedMonthsModel" "outs" "I") h)
theorem mGB_220 : Cond.instanceMethod yX12_place ∈ wsGB := twGB_220 _ (List.mem_cons_self : Cond.instanceMethod yX12_place ∈ Cond.instanceMethod yX12_place :: wtGB_221)
theorem twGB_221 : ∀ w ∈ wtGB_221, w ∈ wsGB := fun w h => twGB_220 w (List.mem_cons_of_mem (Cond.instanceMethod yX12_place) h)
theorem mGB_221 : Cond.selects RX12 yX12_place yX12_place ∈ wsGB := twGB_221 _ (List.mem_cons_self : Cond.selects RX12 yX12_place yX12_place ∈ Cond.selects RX12 yX12_place yX12_place :: wtGB_222)
theorem twGB_222 : ∀ w ∈ wtGB_222, w ∈ wsGB := fun w h => twGB_221 w (List.mem_cons_of_mem (Cond.selects RX12 yX12_place yX12_place) h)
theorem mGB_222 : Cond.code yX12_place cX12_place 6 (some .int) ∈ wsGB := twGB_222 _ (List.mem_cons_self : Cond.code yX12_place cX12_place 6 (some .int) ∈ Cond.code yX12_place cX12_place 6 (some .int) :: wtGB_223)
theorem twGB_223 : ∀ w ∈ wtGB_223, w ∈ wsGB := fun w h => twGB_222 w (List.mem_cons_of_mem (Cond.code yX12_place cX12_place 6 (some .int)) h)
theorem mGB_223 : Cond.constantLong RX12 298 (2) ∈ wsGB := twGB_223 _ (List.mem_cons_self : Cond.constantLong RX12 298 (2) ∈ Cond.constantLong RX12 298 (2) :: wtGB_224)
theorem twGB_224 : ∀ w ∈ wtGB_224, w ∈ wsGB := fun w h => twGB_223 w (List.mem_cons_of_mem (Cond.constantLong RX12 298 (2)) h)
theorem mGB_224 : Cond.methodLink RX12 294 yX12_isPlace ∈ wsGB := twGB_224 _ (List.mem_cons_self : Cond.methodLink RX12 294 yX12_isPlace ∈ Cond.methodLink RX12 294 yX12_isPlace :: wtGB_225)
theorem twGB_225 : ∀ w ∈ wtGB_225, w ∈ wsGB := fun w h => twGB_224 w (List.mem_cons_of_mem (Cond.methodLink RX12 294 yX12_isPlace) h)
theorem mGB_225 : Cond.instanceMethod yX12_isPlace ∈ wsGB := twGB_225 _ (List.mem_cons_self : Cond.instanceMethod yX12_isPlace ∈ Cond.instanceMethod yX12_isPlace :: wtGB_226)
theorem twGB_226 : ∀ w ∈ wtGB_226, w ∈ wsGB := fun w h => twGB_225 w (List.mem_cons_of_mem (Cond.instanceMethod yX12_isPlace) h)
theorem mGB_226 : Cond.selects RX12 yX12_isPlace yX12_isPlace ∈ wsGB := twGB_226 _ (List.mem_cons_self : Cond.selects RX12 yX12_isPlace yX12_isPlace ∈ Cond.selects RX12 yX12_isPlace yX12_isPlace :: wtGB_227)
theorem twGB_227 : ∀ w ∈ wtGB_227, w ∈ wsGB := fun w h => twGB_226 w (List.mem_cons_of_mem (Cond.selects RX12 yX12_isPlace yX12_isPlace) h)
theorem mGB_227 : Cond.code yX12_isPlace cX12_isPlace 2 (some .boolean) ∈ wsGB := twGB_227 _ (List.mem_cons_self : Cond.code yX12_isPlace cX12_isPlace 2 (some .boolean) ∈ Cond.code yX12_isPlace cX12_isPlace 2 (some .boolean) :: wtGB_228)
theorem twGB_228 : ∀ w ∈ wtGB_228, w ∈ wsGB := fun w h => twGB_227 w (List.mem_cons_of_mem (Cond.code yX12_isPlace cX12_isPlace 2 (some .boolean)) h)
theorem mGB_228 : Cond.methodLink RX12 300 yX12_isNameAhead ∈ wsGB := twGB_228 _ (List.mem_cons_self : Cond.methodLink RX12 300 yX12_isNameAhead ∈ Cond.methodLink RX12 300 yX12_isNameAhead :: wtGB_229)
theorem twGB_229 : ∀ w ∈ wtGB_229, w ∈ wsGB := fun w h => twGB_228 w (List.mem_cons_of_mem (Cond.methodLink RX12 300 yX12_isNameAhead) h)
theorem mGB_229 : Cond.instanceMethod yX12_isNameAhead ∈ wsGB := twGB_229 _ (List.mem_cons_self : Cond.instanceMethod yX12_isNameAhead ∈ Cond.instanceMethod yX12_isNameAhead :: wtGB_230)
theorem twGB_230 : ∀ w ∈ wtGB_230, w ∈ wsGB := fun w h => twGB_229 w (List.mem_cons_of_mem (Cond.instanceMethod yX12_isNameAhead) h)
theorem mGB_230 : Cond.selects RX12 yX12_isNameAhead yX12_isNameAhead ∈ wsGB := twGB_230 _ (List.mem_cons_self : Cond.selects RX12 yX12_isNameAhead yX12_isNameAhead ∈ Cond.selects RX12 yX12_isNameAhead yX12_isNameAhead :: wtGB_231)
theorem twGB_231 : ∀ w ∈ wtGB_231, w ∈ wsGB := fun w h => twGB_230 w (List.mem_cons_of_mem (Cond.selects RX12 yX12_isNameAhead yX12_isNameAhead) h)
theorem mGB_231 : Cond.code yX12_isNameAhead cX12_isNameAhead 6 (some .boolean) ∈ wsGB := twGB_231 _ (List.mem_cons_self : Cond.code yX12_isNameAhead cX12_isNameAhead 6 (some .boolean) ∈ Cond.code yX12_isNameAhead cX12_isNameAhead 6 (some .boolean) :: wtGB_232)
theorem twGB_232 : ∀ w ∈ wtGB_232, w ∈ wsGB := fun w h => twGB_231 w (List.mem_cons_of_mem (Cond.code yX12_isNameAhead cX12_isNameAhead 6 (some .boolean)) h)
theorem mGB_232 : Cond.instanceMethod yX12_report ∈ wsGB := twGB_232 _ (List.mem_cons_self : Cond.instanceMethod yX12_report ∈ Cond.instanceMethod yX12_report :: wtGB_233)
theorem twGB_233 : ∀ w ∈ wtGB_233, w ∈ wsGB := fun w h => twGB_232 w (List.mem_cons_of_mem (Cond.instanceMethod yX12_report) h)
theorem mGB_233 : Cond.selects RX12 yX12_report yX12_report ∈ wsGB := twGB_233 _ (List.mem_cons_self : Cond.selects RX12 yX12_report yX12_report ∈ Cond.selects RX12 yX12_report yX12_report :: wtGB_234)
theorem twGB_234 : ∀ w ∈ wtGB_234, w ∈ wsGB := fun w h => twGB_233 w (List.mem_cons_of_mem (Cond.selects RX12 yX12_report yX12_report) h)
theorem mGB_234 : Cond.code yX12_report cX12_report 3 (some .int) ∈ wsGB := twGB_234 _ (List.mem_cons_self : Cond.code yX12_report cX12_report 3 (some .int) ∈ Cond.code yX12_report cX12_report 3 (some .int) :: wtGB_235)
theorem twGB_235 : ∀ w ∈ wtGB_235, w ∈ wsGB := fun w h => twGB_234 w (List.mem_cons_of_mem (Cond.code yX12_report cX12_report 3 (some .int)) h)
theorem mGB_235 : Cond.methodLink RX12 303 yX12_isReport ∈ wsGB := twGB_235 _ (List.mem_cons_self : Cond.methodLink RX12 303 yX12_isReport ∈ Cond.methodLink RX12 303 yX12_isReport :: wtGB_236)
theorem twGB_236 : ∀ w ∈ wtGB_236, w ∈ wsGB := fun w h => twGB_235 w (List.mem_cons_of_mem (Cond.methodLink RX12 303 yX12_isReport) h)
theorem mGB_236 : Cond.instanceMethod yX12_isReport ∈ wsGB := twGB_236 _ (List.mem_cons_self : Cond.instanceMethod yX12_isReport ∈ Cond.instanceMethod yX12_isReport :: wtGB_237)
theorem twGB_237 : ∀ w ∈ wtGB_237, w ∈ wsGB := fun w h => twGB_236 w (List.mem_cons_of_mem (Cond.instanceMethod yX12_isReport) h)
theorem mGB_237 : Cond.selects RX12 yX12_isReport yX12_isReport ∈ wsGB := twGB_237 _ (List.mem_cons_self : Cond.selects RX12 yX12_isReport yX12_isReport ∈ Cond.selects RX12 yX12_isReport yX12_isReport :: wtGB_238)
theorem twGB_238 : ∀ w ∈ wtGB_238, w ∈ wsGB := fun w h => twGB_237 w (List.mem_cons_of_mem (Cond.selects RX12 yX12_isReport yX12_isReport) h)
theorem mGB_238 : Cond.code yX12_isReport cX12_isReport 2 (some .boolean) ∈ wsGB := twGB_238 _ (List.mem_cons_self : Cond.code yX12_isReport cX12_isReport 2 (some .boolean) ∈ Cond.code yX12_isReport cX12_isReport 2 (some .boolean) :: wtGB_239)
theorem twGB_239 : ∀ w ∈ wtGB_239, w ∈ wsGB := fun w h => twGB_238 w (List.mem_cons_of_mem (Cond.code yX12_isReport cX12_isReport 2 (some .boolean)) h)
theorem mGB_239 : Cond.instanceMethod yX12_deed ∈ wsGB := twGB_239 _ (List.mem_cons_self : Cond.instanceMethod yX12_deed ∈ Cond.instanceMethod yX12_deed :: wtGB_240)
theorem twGB_240 : ∀ w ∈ wtGB_240, w ∈ wsGB := fun w h => twGB_239 w (List.mem_cons_of_mem (Cond.instanceMethod yX12_deed) h)
theorem mGB_240 : Cond.selects RX12 yX12_deed yX12_deed ∈ wsGB := twGB_240 _ (List.mem_cons_self : Cond.selects RX12 yX12_deed yX12_deed ∈ Cond.selects RX12 yX12_deed yX12_deed :: wtGB_241)
theorem twGB_241 : ∀ w ∈ wtGB_241, w ∈ wsGB := fun w h => twGB_240 w (List.mem_cons_of_mem (Cond.selects RX12 yX12_deed yX12_deed) h)
theorem mGB_241 : Cond.code yX12_deed cX12_deed 3 (some .int) ∈ wsGB := twGB_241 _ (List.mem_cons_self : Cond.code yX12_deed cX12_deed 3 (some .int) ∈ Cond.code yX12_deed cX12_deed 3 (some .int) :: wtGB_242)
theorem twGB_242 : ∀ w ∈ wtGB_242, w ∈ wsGB := fun w h => twGB_241 w (List.mem_cons_of_mem (Cond.code yX12_deed cX12_deed 3 (some .int)) h)
theorem mGB_242 : Cond.methodLink RX12 306 yX12_isDeed ∈ wsGB := twGB_242 _ (List.mem_cons_self : Cond.methodLink RX12 306 yX12_isDeed ∈ Cond.methodLink RX12 306 yX12_isDeed :: wtGB_243)
theorem twGB_243 : ∀ w ∈ wtGB_243, w ∈ wsGB := fun w h => twGB_242 w (List.mem_cons_of_mem (Cond.methodLink RX12 306 yX12_isDeed) h)
theorem mGB_243 : Cond.instanceMethod yX12_isDeed ∈ wsGB := twGB_243 _ (List.mem_cons_self : Cond.instanceMethod yX12_isDeed ∈ Cond.instanceMethod yX12_isDeed :: wtGB_244)
theorem twGB_244 : ∀ w ∈ wtGB_244, w ∈ wsGB := fun w h => twGB_243 w (List.mem_cons_of_mem (Cond.instanceMethod yX12_isDeed) h)
theorem mGB_244 : Cond.selects RX12 yX12_isDeed yX12_isDeed ∈ wsGB := twGB_244 _ (List.mem_cons_self : Cond.selects RX12 yX12_isDeed yX12_isDeed ∈ Cond.selects RX12 yX12_isDeed yX12_isDeed :: wtGB_245)
theorem twGB_245 : ∀ w ∈ wtGB_245, w ∈ wsGB := fun w h => twGB_244 w (List.mem_cons_of_mem (Cond.selects RX12 yX12_isDeed yX12_isDeed) h)
theorem mGB_245 : Cond.code yX12_isDeed cX12_isDeed 2 (some .boolean) ∈ wsGB := twGB_245 _ (List.mem_cons_self : Cond.code yX12_isDeed cX12_isDeed 2 (some .boolean) ∈ Cond.code yX12_isDeed cX12_isDeed 2 (some .boolean) :: wtGB_246)
theorem twGB_246 : ∀ w ∈ wtGB_246, w ∈ wsGB := fun w h => twGB_245 w (List.mem_cons_of_mem (Cond.code yX12_isDeed cX12_isDeed 2 (some .boolean)) h)
theorem mGB_246 : Cond.instanceMethod yX12_early ∈ wsGB := twGB_246 _ (List.mem_cons_self : Cond.instanceMethod yX12_early ∈ Cond.instanceMethod yX12_early :: wtGB_247)
theorem twGB_247 : ∀ w ∈ wtGB_247, w ∈ wsGB := fun w h => twGB_246 w (List.mem_cons_of_mem (Cond.instanceMethod yX12_early) h)
theorem mGB_247 : Cond.selects RX12 yX12_early yX12_early ∈ wsGB := twGB_247 _ (List.mem_cons_self : Cond.selects RX12 yX12_early yX12_early ∈ Cond.selects RX12 yX12_early yX12_early :: wtGB_248)
theorem twGB_248 : ∀ w ∈ wtGB_248, w ∈ wsGB := fun w h => twGB_247 w (List.mem_cons_of_mem (Cond.selects RX12 yX12_early yX12_early) h)
theorem mGB_248 : Cond.code yX12_early cX12_early 2 (some .int) ∈ wsGB := twGB_248 _ (List.mem_cons_self : Cond.code yX12_early cX12_early 2 (some .int) ∈ Cond.code yX12_early cX12_early 2 (some .int) :: wtGB_249)
theorem twGB_249 : ∀ w ∈ wtGB_249, w ∈ wsGB := fun w h => twGB_248 w (List.mem_cons_of_mem (Cond.code yX12_early cX12_early 2 (some .int)) h)
theorem mGB_249 : Cond.methodLink RX12 309 yX12_earlyOf ∈ wsGB := twGB_249 _ (List.mem_cons_self : Cond.methodLink RX12 309 yX12_earlyOf ∈ Cond.methodLink RX12 309 yX12_earlyOf :: wtGB_250)
theorem twGB_250 : ∀ w ∈ wtGB_250, w ∈ wsGB := fun w h => twGB_249 w (List.mem_cons_of_mem (Cond.methodLink RX12 309 yX12_earlyOf) h)
theorem mGB_250 : Cond.instanceMethod yX12_earlyOf ∈ wsGB := twGB_250 _ (List.mem_cons_self : Cond.instanceMethod yX12_earlyOf ∈ Cond.instanceMethod yX12_earlyOf :: wtGB_251)
theorem twGB_251 : ∀ w ∈ wtGB_251, w ∈ wsGB := fun w h => twGB_250 w (List.mem_cons_of_mem (Cond.instanceMethod yX12_earlyOf) h)
theorem mGB_251 : Cond.selects RX12 yX12_earlyOf yX12_earlyOf ∈ wsGB := twGB_251 _ (List.mem_cons_self : Cond.selects RX12 yX12_earlyOf yX12_earlyOf ∈ Cond.selects RX12 yX12_earlyOf yX12_earlyOf :: wtGB_252)
theorem twGB_252 : ∀ w ∈ wtGB_252, w ∈ wsGB := fun w h => twGB_251 w (List.mem_cons_of_mem (Cond.selects RX12 yX12_earlyOf yX12_earlyOf) h)
theorem mGB_252 : Cond.code yX12_earlyOf cX12_earlyOf 2 (some .int) ∈ wsGB := twGB_252 _ (List.mem_cons_self : Cond.code yX12_earlyOf cX12_earlyOf 2 (some .int) ∈ Cond.code yX12_earlyOf cX12_earlyOf 2 (some .int) :: wtGB_253)
theorem twGB_253 : ∀ w ∈ wtGB_253, w ∈ wsGB := fun w h => twGB_252 w (List.mem_cons_of_mem (Cond.code yX12_earlyOf cX12_earlyOf 2 (some .int)) h)
theorem mGB_253 : Cond.instanceMethod yX12_judged ∈ wsGB := twGB_253 _ (List.mem_cons_self : Cond.instanceMethod yX12_judged ∈ Cond.instanceMethod yX12_judged :: wtGB_254)
theorem twGB_254 : ∀ w ∈ wtGB_254, w ∈ wsGB := fun w h => twGB_253 w (List.mem_cons_of_mem (Cond.instanceMethod yX12_judged) h)
theorem mGB_254 : Cond.selects RX12 yX12_judged yX12_judged ∈ wsGB := twGB_254 _ (List.mem_cons_self : Cond.selects RX12 yX12_judged yX12_judged ∈ Cond.selects RX12 yX12_judged yX12_judged :: wtGB_255)
theorem twGB_255 : ∀ w ∈ wtGB_255, w ∈ wsGB := fun w h => twGB_254 w (List.mem_cons_of_mem (Cond.selects RX12 yX12_judged yX12_judged) h)
theorem mGB_255 : Cond.code yX12_judged cX12_judged 3 (some .int) ∈ wsGB := twGB_255 _ (List.mem_cons_self : Cond.code yX12_judged cX12_judged 3 (some .int) ∈ Cond.code yX12_judged cX12_judged 3 (some .int) :: wtGB_256)
theorem twGB_256 : ∀ w ∈ wtGB_256, w ∈ wsGB := fun w h => twGB_255 w (List.mem_cons_of_mem (Cond.code yX12_judged cX12_judged 3 (some .int)) h)
theorem mGB_256 : Cond.methodLink RX12 359 yX12_isTime ∈ wsGB := twGB_256 _ (List.mem_cons_self : Cond.methodLink RX12 359 yX12_isTime ∈ Cond.methodLink RX12 359 yX12_isTime :: wtGB_257)
theorem twGB_257 : ∀ w ∈ wtGB_257, w ∈ wsGB := fun w h => twGB_256 w (List.mem_cons_of_mem (Cond.methodLink RX12 359 yX12_isTime) h)
theorem mGB_257 : Cond.instanceMethod yX12_isTime ∈ wsGB := twGB_257 _ (List.mem_cons_self : Cond.instanceMethod yX12_isTime ∈ Cond.instanceMethod yX12_isTime :: wtGB_258)
theorem twGB_258 : ∀ w ∈ wtGB_258, w ∈ wsGB := fun w h => twGB_257 w (List.mem_cons_of_mem (Cond.instanceMethod yX12_isTime) h)
theorem mGB_258 : Cond.selects RX12 yX12_isTime yX12_isTime ∈ wsGB := twGB_258 _ (List.mem_cons_self : Cond.selects RX12 yX12_isTime yX12_isTime ∈ Cond.selects RX12 yX12_isTime yX12_isTime :: wtGB_259)
theorem twGB_259 : ∀ w ∈ wtGB_259, w ∈ wsGB := fun w h => twGB_258 w (List.mem_cons_of_mem (Cond.selects RX12 yX12_isTime yX12_isTime) h)
theorem mGB_259 : Cond.code yX12_isTime cX12_isTime 2 (some .boolean) ∈ wsGB := twGB_259 _ (List.mem_cons_self : Cond.code yX12_isTime cX12_isTime 2 (some .boolean) ∈ Cond.code yX12_isTime cX12_isTime 2 (some .boolean) :: wtGB_260)
theorem twGB_260 : ∀ w ∈ wtGB_260, w ∈ wsGB := fun w h => twGB_259 w (List.mem_cons_of_mem (Cond.code yX12_isTime cX12_isTime 2 (some .boolean)) h)
theorem mGB_260 : Cond.constantLong RX12 292 (999) ∈ wsGB := twGB_260 _ (List.mem_cons_self : Cond.constantLong RX12 292 (999) ∈ Cond.constantLong RX12 292 (999) :: wtGB_261)
theorem twGB_261 : ∀ w ∈ wtGB_261, w ∈ wsGB := fun w h => twGB_260 w (List.mem_cons_of_mem (Cond.constantLong RX12 292 (999)) h)
theorem mGB_261 : Cond.methodLink RX12 362 yX12_judgesAll ∈ wsGB := twGB_261 _ (List.mem_cons_self : Cond.methodLink RX12 362 yX12_judgesAll ∈ Cond.methodLink RX12 362 yX12_judgesAll :: wtGB_262)
theorem twGB_262 : ∀ w ∈ wtGB_262, w ∈ wsGB := fun w h => twGB_261 w (List.mem_cons_of_mem (Cond.methodLink RX12 362 yX12_judgesAll) h)
theorem mGB_262 : Cond.instanceMethod yX12_judgesAll ∈ wsGB := twGB_262 _ (List.mem_cons_self : Cond.instanceMethod yX12_judgesAll ∈ Cond.instanceMethod yX12_judgesAll :: wtGB_263)
theorem twGB_263 : ∀ w ∈ wtGB_263, w ∈ wsGB := fun w h => twGB_262 w (List.mem_cons_of_mem (Cond.instanceMethod yX12_judgesAll) h)
theorem mGB_263 : Cond.selects RX12 yX12_judgesAll yX12_judgesAll ∈ wsGB := twGB_263 _ (List.mem_cons_self : Cond.selects RX12 yX12_judgesAll yX12_judgesAll ∈ Cond.selects RX12 yX12_judgesAll yX12_judgesAll :: wtGB_264)
theorem twGB_264 : ∀ w ∈ wtGB_264, w ∈ wsGB := fun w h => twGB_263 w (List.mem_cons_of_mem (Cond.selects RX12 yX12_judgesAll yX12_judgesAll) h)
theorem mGB_264 : Cond.code yX12_judgesAll cX12_judgesAll 3 none ∈ wsGB := twGB_264 _ (List.mem_cons_self : Cond.code yX12_judgesAll cX12_judgesAll 3 none ∈ Cond.code yX12_judgesAll cX12_judgesAll 3 none :: wtGB_265)
theorem twGB_265 : ∀ w ∈ wtGB_265, w ∈ wsGB := fun w h => twGB_264 w (List.mem_cons_of_mem (Cond.code yX12_judgesAll cX12_judgesAll 3 none) h)
theorem mGB_265 : Cond.fieldLink RX12 338 "SightedMonthsModel" "rowMany" "I" ∈ wsGB := twGB_265 _ (List.mem_cons_self : Cond.fieldLink RX12 338 "SightedMonthsModel" "rowMany" "I" ∈ Cond.fieldLink RX12 338 "SightedMonthsModel" "rowMany" "I" :: wtGB_266)
theorem twGB_266 : ∀ w ∈ wtGB_266, w ∈ wsGB := fun w h => twGB_265 w (List.mem_cons_of_mem (Cond.fieldLink RX12 338 "SightedMonthsModel" "rowMany" "I") h)
theorem mGB_266 : Cond.methodLink RX12 350 yX12_frees ∈ wsGB := twGB_266 _ (List.mem_cons_self : Cond.methodLink RX12 350 yX12_frees ∈ Cond.methodLink RX12 350 yX12_frees :: wtGB_267)
theorem twGB_267 : ∀ w ∈ wtGB_267, w ∈ wsGB := fun w h => twGB_266 w (List.mem_cons_of_mem (Cond.methodLink RX12 350 yX12_frees) h)
theorem mGB_267 : Cond.instanceMethod yX12_frees ∈ wsGB := twGB_267 _ (List.mem_cons_self : Cond.instanceMethod yX12_frees ∈ Cond.instanceMethod yX12_frees :: wtGB_268)
theorem twGB_268 : ∀ w ∈ wtGB_268, w ∈ wsGB := fun w h => twGB_267 w (List.mem_cons_of_mem (Cond.instanceMethod yX12_frees) h)
theorem mGB_268 : Cond.selects RX12 yX12_frees yX12_frees ∈ wsGB := twGB_268 _ (List.mem_cons_self : Cond.selects RX12 yX12_frees yX12_frees ∈ Cond.selects RX12 yX12_frees yX12_frees :: wtGB_269)
theorem twGB_269 : ∀ w ∈ wtGB_269, w ∈ wsGB := fun w h => twGB_268 w (List.mem_cons_of_mem (Cond.selects RX12 yX12_frees yX12_frees) h)
theorem mGB_269 : Cond.code yX12_frees cX12_frees 2 none ∈ wsGB := twGB_269 _ (List.mem_cons_self : Cond.code yX12_frees cX12_frees 2 none ∈ Cond.code yX12_frees cX12_frees 2 none :: wtGB_270)
theorem twGB_270 : ∀ w ∈ wtGB_270, w ∈ wsGB := fun w h => twGB_269 w (List.mem_cons_of_mem (Cond.code yX12_frees cX12_frees 2 none) h)
theorem mGB_270 : Cond.fieldLink RX12 312 "SightedMonthsModel" "isBroken" "Z" ∈ wsGB := twGB_270 _ (List.mem_cons_self : Cond.fieldLink RX12 312 "SightedMonthsModel" "isBroken" "Z" ∈ Cond.fieldLink RX12 312 "SightedMonthsModel" "isBroken" "Z" :: wtGB_271)
theorem twGB_271 : ∀ w ∈ wtGB_271, w ∈ wsGB := fun w h => twGB_270 w (List.mem_cons_of_mem (Cond.fieldLink RX12 312 "SightedMonthsModel" "isBroken" "Z") h)
theorem mGB_271 : Cond.methodLink RX12 315 yX12_unpins ∈ wsGB := twGB_271 _ (List.mem_cons_self : Cond.methodLink RX12 315 yX12_unpins ∈ Cond.methodLink RX12 315 yX12_unpins :: wtGB_272)
theorem twGB_272 : ∀ w ∈ wtGB_272, w ∈ wsGB := fun w h => twGB_271 w (List.mem_cons_of_mem (Cond.methodLink RX12 315 yX12_unpins) h)
theorem mGB_272 : Cond.instanceMethod yX12_unpins ∈ wsGB := twGB_272 _ (List.mem_cons_self : Cond.instanceMethod yX12_unpins ∈ Cond.instanceMethod yX12_unpins :: wtGB_273)
theorem twGB_273 : ∀ w ∈ wtGB_273, w ∈ wsGB := fun w h => twGB_272 w (List.mem_cons_of_mem (Cond.instanceMethod yX12_unpins) h)
theorem mGB_273 : Cond.selects RX12 yX12_unpins yX12_unpins ∈ wsGB := twGB_273 _ (List.mem_cons_self : Cond.selects RX12 yX12_unpins yX12_unpins ∈ Cond.selects RX12 yX12_unpins yX12_unpins :: wtGB_274)
theorem twGB_274 : ∀ w ∈ wtGB_274, w ∈ wsGB := fun w h => twGB_273 w (List.mem_cons_of_mem (Cond.selects RX12 yX12_unpins yX12_unpins) h)
theorem mGB_274 : Cond.code yX12_unpins cX12_unpins 2 none ∈ wsGB := twGB_274 _ (List.mem_cons_self : Cond.code yX12_unpins cX12_unpins 2 none ∈ Cond.code yX12_unpins cX12_unpins 2 none :: wtGB_275)
theorem twGB_275 : ∀ w ∈ wtGB_275, w ∈ wsGB := fun w h => twGB_274 w (List.mem_cons_of_mem (Cond.code yX12_unpins cX12_unpins 2 none) h)
theorem mGB_275 : Cond.methodLink RX12 353 yX12_laysRow ∈ wsGB := twGB_275 _ (List.mem_cons_self : Cond.methodLink RX12 353 yX12_laysRow ∈ Cond.methodLink RX12 353 yX12_laysRow :: wtGB_276)
theorem twGB_276 : ∀ w ∈ wtGB_276, w ∈ wsGB := fun w h => twGB_275 w (List.mem_cons_of_mem (Cond.methodLink RX12 353 yX12_laysRow) h)
theorem mGB_276 : Cond.instanceMethod yX12_laysRow ∈ wsGB := twGB_276 _ (List.mem_cons_self : Cond.instanceMethod yX12_laysRow ∈ Cond.instanceMethod yX12_laysRow :: wtGB_277)
theorem twGB_277 : ∀ w ∈ wtGB_277, w ∈ wsGB := fun w h => twGB_276 w (List.mem_cons_of_mem (Cond.instanceMethod yX12_laysRow) h)
theorem mGB_277 : Cond.selects RX12 yX12_laysRow yX12_laysRow ∈ wsGB := twGB_277 _ (List.mem_cons_self : Cond.selects RX12 yX12_laysRow yX12_laysRow ∈ Cond.selects RX12 yX12_laysRow yX12_laysRow :: wtGB_278)
theorem twGB_278 : ∀ w ∈ wtGB_278, w ∈ wsGB := fun w h => twGB_277 w (List.mem_cons_of_mem (Cond.selects RX12 yX12_laysRow yX12_laysRow) h)
theorem mGB_278 : Cond.code yX12_laysRow cX12_laysRow 4 none ∈ wsGB := twGB_278 _ (List.mem_cons_self : Cond.code yX12_laysRow cX12_laysRow 4 none ∈ Cond.code yX12_laysRow cX12_laysRow 4 none :: wtGB_279)
theorem twGB_279 : ∀ w ∈ wtGB_279, w ∈ wsGB := fun w h => twGB_278 w (List.mem_cons_of_mem (Cond.code yX12_laysRow cX12_laysRow 4 none) h)
theorem mGB_279 : Cond.methodLink RX12 341 yX12_isKnown ∈ wsGB := twGB_279 _ (List.mem_cons_self : Cond.methodLink RX12 341 yX12_isKnown ∈ Cond.methodLink RX12 341 yX12_isKnown :: wtGB_280)
theorem twGB_280 : ∀ w ∈ wtGB_280, w ∈ wsGB := fun w h => twGB_279 w (List.mem_cons_of_mem (Cond.methodLink RX12 341 yX12_isKnown) h)
theorem mGB_280 : Cond.instanceMethod yX12_isKnown ∈ wsGB := twGB_280 _ (List.mem_cons_self : Cond.instanceMethod yX12_isKnown ∈ Cond.instanceMethod yX12_isKnown :: wtGB_281)
theorem twGB_281 : ∀ w ∈ wtGB_281, w ∈ wsGB := fun w h => twGB_280 w (List.mem_cons_of_mem (Cond.instanceMethod yX12_isKnown) h)
theorem mGB_281 : Cond.selects RX12 yX12_isKnown yX12_isKnown ∈ wsGB := twGB_281 _ (List.mem_cons_self : Cond.selects RX12 yX12_isKnown yX12_isKnown ∈ Cond.selects RX12 yX12_isKnown yX12_isKnown :: wtGB_282)
theorem twGB_282 : ∀ w ∈ wtGB_282, w ∈ wsGB := fun w h => twGB_281 w (List.mem_cons_of_mem (Cond.selects RX12 yX12_isKnown yX12_isKnown) h)
theorem mGB_282 : Cond.code yX12_isKnown cX12_isKnown 3 (some .boolean) ∈ wsGB := twGB_282 _ (List.mem_cons_self : Cond.code yX12_isKnown cX12_isKnown 3 (some .boolean) ∈ Cond.code yX12_isKnown cX12_isKnown 3 (some .boolean) :: wtGB_283)
theorem twGB_283 : ∀ w ∈ wtGB_283, w ∈ wsGB := fun w h => twGB_282 w (List.mem_cons_of_mem (Cond.code yX12_isKnown cX12_isKnown 3 (some .boolean)) h)
theorem mGB_283 : Cond.methodLink RX12 344 yX12_isAhead ∈ wsGB := twGB_283 _ (List.mem_cons_self : Cond.methodLink RX12 344 yX12_isAhead ∈ Cond.methodLink RX12 344 yX12_isAhead :: wtGB_284)
theorem twGB_284 : ∀ w ∈ wtGB_284, w ∈ wsGB := fun w h => twGB_283 w (List.mem_cons_of_mem (Cond.methodLink RX12 344 yX12_isAhead) h)
theorem mGB_284 : Cond.instanceMethod yX12_isAhead ∈ wsGB := twGB_284 _ (List.mem_cons_self : Cond.instanceMethod yX12_isAhead ∈ Cond.instanceMethod yX12_isAhead :: wtGB_285)
theorem twGB_285 : ∀ w ∈ wtGB_285, w ∈ wsGB := fun w h => twGB_284 w (List.mem_cons_of_mem (Cond.instanceMethod yX12_isAhead) h)
theorem mGB_285 : Cond.selects RX12 yX12_isAhead yX12_isAhead ∈ wsGB := twGB_285 _ (List.mem_cons_self : Cond.selects RX12 yX12_isAhead yX12_isAhead ∈ Cond.selects RX12 yX12_isAhead yX12_isAhead :: wtGB_286)
theorem twGB_286 : ∀ w ∈ wtGB_286, w ∈ wsGB := fun w h => twGB_285 w (List.mem_cons_of_mem (Cond.selects RX12 yX12_isAhead yX12_isAhead) h)
theorem mGB_286 : Cond.code yX12_isAhead cX12_isAhead 5 (some .boolean) ∈ wsGB := twGB_286 _ (List.mem_cons_self : Cond.code yX12_isAhead cX12_isAhead 5 (some .boolean) ∈ Cond.code yX12_isAhead cX12_isAhead 5 (some .boolean) :: wtGB_287)
theorem twGB_287 : ∀ w ∈ wtGB_287, w ∈ wsGB := fun w h => twGB_286 w (List.mem_cons_of_mem (Cond.code yX12_isAhead cX12_isAhead 5 (some .boolean)) h)
theorem mGB_287 : Cond.methodLink RX12 335 yX12_trustOf ∈ wsGB := twGB_287 _ (List.mem_cons_self : Cond.methodLink RX12 335 yX12_trustOf ∈ Cond.methodLink RX12 335 yX12_trustOf :: wtGB_288)
theorem twGB_288 : ∀ w ∈ wtGB_288, w ∈ wsGB := fun w h => twGB_287 w (List.mem_cons_of_mem (Cond.methodLink RX12 335 yX12_trustOf) h)
theorem mGB_288 : Cond.instanceMethod yX12_trustOf ∈ wsGB := twGB_288 _ (List.mem_cons_self : Cond.instanceMethod yX12_trustOf ∈ Cond.instanceMethod yX12_trustOf :: wtGB_289)
theorem twGB_289 : ∀ w ∈ wtGB_289, w ∈ wsGB := fun w h => twGB_288 w (List.mem_cons_of_mem (Cond.instanceMethod yX12_trustOf) h)
theorem mGB_289 : Cond.selects RX12 yX12_trustOf yX12_trustOf ∈ wsGB := twGB_289 _ (List.mem_cons_self : Cond.selects RX12 yX12_trustOf yX12_trustOf ∈ Cond.selects RX12 yX12_trustOf yX12_trustOf :: wtGB_290)
theorem twGB_290 : ∀ w ∈ wtGB_290, w ∈ wsGB := fun w h => twGB_289 w (List.mem_cons_of_mem (Cond.selects RX12 yX12_trustOf yX12_trustOf) h)
theorem mGB_290 : Cond.code yX12_trustOf cX12_trustOf 2 (some .int) ∈ wsGB := twGB_290 _ (List.mem_cons_self : Cond.code yX12_trustOf cX12_trustOf 2 (some .int) ∈ Cond.code yX12_trustOf cX12_trustOf 2 (some .int) :: wtGB_291)
theorem twGB_291 : ∀ w ∈ wtGB_291, w ∈ wsGB := fun w h => twGB_290 w (List.mem_cons_of_mem (Cond.code yX12_trustOf cX12_trustOf 2 (some .int)) h)
theorem mGB_291 : Cond.methodLink RX12 356 yX12_judges ∈ wsGB := twGB_291 _ (List.mem_cons_self : Cond.methodLink RX12 356 yX12_judges ∈ Cond.methodLink RX12 356 yX12_judges :: wtGB_292)
theorem twGB_292 : ∀ w ∈ wtGB_292, w ∈ wsGB := fun w h => twGB_291 w (List.mem_cons_of_mem (Cond.methodLink RX12 356 yX12_judges) h)
theorem mGB_292 : Cond.instanceMethod yX12_judges ∈ wsGB := twGB_292 _ (List.mem_cons_self : Cond.instanceMethod yX12_judges ∈ Cond.instanceMethod yX12_judges :: wtGB_293)
theorem twGB_293 : ∀ w ∈ wtGB_293, w ∈ wsGB := fun w h => twGB_292 w (List.mem_cons_of_mem (Cond.instanceMethod yX12_judges) h)
theorem mGB_293 : Cond.selects RX12 yX12_judges yX12_judges ∈ wsGB := twGB_293 _ (List.mem_cons_self : Cond.selects RX12 yX12_judges yX12_judges ∈ Cond.selects RX12 yX12_judges yX12_judges :: wtGB_294)
theorem twGB_294 : ∀ w ∈ wtGB_294, w ∈ wsGB := fun w h => twGB_293 w (List.mem_cons_of_mem (Cond.selects RX12 yX12_judges yX12_judges) h)
theorem mGB_294 : Cond.code yX12_judges cX12_judges 5 (some .int) ∈ wsGB := twGB_294 _ (List.mem_cons_self : Cond.code yX12_judges cX12_judges 5 (some .int) ∈ Cond.code yX12_judges cX12_judges 5 (some .int) :: wtGB_295)
theorem twGB_295 : ∀ w ∈ wtGB_295, w ∈ wsGB := fun w h => twGB_294 w (List.mem_cons_of_mem (Cond.code yX12_judges cX12_judges 5 (some .int)) h)
theorem mGB_295 : Cond.methodLink RX12 347 yX12_holds ∈ wsGB := twGB_295 _ (List.mem_cons_self : Cond.methodLink RX12 347 yX12_holds ∈ Cond.methodLink RX12 347 yX12_holds :: wtGB_296)
theorem twGB_296 : ∀ w ∈ wtGB_296, w ∈ wsGB := fun w h => twGB_295 w (List.mem_cons_of_mem (Cond.methodLink RX12 347 yX12_holds) h)
theorem mGB_296 : Cond.instanceMethod yX12_holds ∈ wsGB := twGB_296 _ (List.mem_cons_self : Cond.instanceMethod yX12_holds ∈ Cond.instanceMethod yX12_holds :: wtGB_297)
theorem twGB_297 : ∀ w ∈ wtGB_297, w ∈ wsGB := fun w h => twGB_296 w (List.mem_cons_of_mem (Cond.instanceMethod yX12_holds) h)
theorem mGB_297 : Cond.selects RX12 yX12_holds yX12_holds ∈ wsGB := twGB_297 _ (List.mem_cons_self : Cond.selects RX12 yX12_holds yX12_holds ∈ Cond.selects RX12 yX12_holds yX12_holds :: wtGB_298)
theorem twGB_298 : ∀ w ∈ wtGB_298, w ∈ wsGB := fun w h => twGB_297 w (List.mem_cons_of_mem (Cond.selects RX12 yX12_holds yX12_holds) h)
theorem mGB_298 : Cond.code yX12_holds cX12_holds 4 none ∈ wsGB := twGB_298 _ (List.mem_cons_self : Cond.code yX12_holds cX12_holds 4 none ∈ Cond.code yX12_holds cX12_holds 4 none :: wtGB_299)
theorem twGB_299 : ∀ w ∈ wtGB_299, w ∈ wsGB := fun w h => twGB_298 w (List.mem_cons_of_mem (Cond.code yX12_holds cX12_holds 4 none) h)
theorem mGB_299 : Cond.methodLink RX12 332 yX12_counts ∈ wsGB := twGB_299 _ (List.mem_cons_self : Cond.methodLink RX12 332 yX12_counts ∈ Cond.methodLink RX12 332 yX12_counts :: wtGB_300)
theorem twGB_300 : ∀ w ∈ wtGB_300, w ∈ wsGB := fun w h => twGB_299 w (List.mem_cons_of_mem (Cond.methodLink RX12 332 yX12_counts) h)
theorem mGB_300 : Cond.instanceMethod yX12_counts ∈ wsGB := twGB_300 _ (List.mem_cons_self : Cond.instanceMethod yX12_counts ∈ Cond.instanceMethod yX12_counts :: wtGB_301)
theorem twGB_301 : ∀ w ∈ wtGB_301, w ∈ wsGB := fun w h => twGB_300 w (List.mem_cons_of_mem (Cond.instanceMethod yX12_counts) h)
theorem mGB_301 : Cond.selects RX12 yX12_counts yX12_counts ∈ wsGB := twGB_301 _ (List.mem_cons_self : Cond.selects RX12 yX12_counts yX12_counts ∈ Cond.selects RX12 yX12_counts yX12_counts :: wtGB_302)
theorem twGB_302 : ∀ w ∈ wtGB_302, w ∈ wsGB := fun w h => twGB_301 w (List.mem_cons_of_mem (Cond.selects RX12 yX12_counts yX12_counts) h)
theorem mGB_302 : Cond.code yX12_counts cX12_counts 6 (some .int) ∈ wsGB := twGB_302 _ (List.mem_cons_self : Cond.code yX12_counts cX12_counts 6 (some .int) ∈ Cond.code yX12_counts cX12_counts 6 (some .int) :: wtGB_303)
theorem twGB_303 : ∀ w ∈ wtGB_303, w ∈ wsGB := fun w h => twGB_302 w (List.mem_cons_of_mem (Cond.code yX12_counts cX12_counts 6 (some .int)) h)
theorem mGB_303 : Cond.methodLink RX12 325 yX12_isOpen ∈ wsGB := twGB_303 _ (List.mem_cons_self : Cond.methodLink RX12 325 yX12_isOpen ∈ Cond.methodLink RX12 325 yX12_isOpen :: wtGB_304)
theorem twGB_304 : ∀ w ∈ wtGB_304, w ∈ wsGB := fun w h => twGB_303 w (List.mem_cons_of_mem (Cond.methodLink RX12 325 yX12_isOpen) h)
theorem mGB_304 : Cond.instanceMethod yX12_isOpen ∈ wsGB := twGB_304 _ (List.mem_cons_self : Cond.instanceMethod yX12_isOpen ∈ Cond.instanceMethod yX12_isOpen :: wtGB_305)
theorem twGB_305 : ∀ w ∈ wtGB_305, w ∈ wsGB := fun w h => twGB_304 w (List.mem_cons_of_mem (Cond.instanceMethod yX12_isOpen) h)
theorem mGB_305 : Cond.selects RX12 yX12_isOpen yX12_isOpen ∈ wsGB := twGB_305 _ (List.mem_cons_self : Cond.selects RX12 yX12_isOpen yX12_isOpen ∈ Cond.selects RX12 yX12_isOpen yX12_isOpen :: wtGB_306)
theorem twGB_306 : ∀ w ∈ wtGB_306, w ∈ wsGB := fun w h => twGB_305 w (List.mem_cons_of_mem (Cond.selects RX12 yX12_isOpen yX12_isOpen) h)
theorem mGB_306 : Cond.code yX12_isOpen cX12_isOpen 3 (some .boolean) ∈ wsGB := twGB_306 _ (List.mem_cons_self : Cond.code yX12_isOpen cX12_isOpen 3 (some .boolean) ∈ Cond.code yX12_isOpen cX12_isOpen 3 (some .boolean) :: wtGB_307)
theorem twGB_307 : ∀ w ∈ wtGB_307, w ∈ wsGB := fun w h => twGB_306 w (List.mem_cons_of_mem (Cond.code yX12_isOpen cX12_isOpen 3 (some .boolean)) h)
theorem mGB_307 : Cond.methodLink RX12 328 yX12_waysBy ∈ wsGB := twGB_307 _ (List.mem_cons_self : Cond.methodLink RX12 328 yX12_waysBy ∈ Cond.methodLink RX12 328 yX12_waysBy :: wtGB_308)
theorem twGB_308 : ∀ w ∈ wtGB_308, w ∈ wsGB := fun w h => twGB_307 w (List.mem_cons_of_mem (Cond.methodLink RX12 328 yX12_waysBy) h)
theorem mGB_308 : Cond.instanceMethod yX12_waysBy ∈ wsGB := twGB_308 _ (List.mem_cons_self : Cond.instanceMethod yX12_waysBy ∈ Cond.instanceMethod yX12_waysBy :: wtGB_309)
theorem twGB_309 : ∀ w ∈ wtGB_309, w ∈ wsGB := fun w h => twGB_308 w (List.mem_cons_of_mem (Cond.instanceMethod yX12_waysBy) h)
theorem mGB_309 : Cond.selects RX12 yX12_waysBy yX12_waysBy ∈ wsGB := twGB_309 _ (List.mem_cons_self : Cond.selects RX12 yX12_waysBy yX12_waysBy ∈ Cond.selects RX12 yX12_waysBy yX12_waysBy :: wtGB_310)
theorem twGB_310 : ∀ w ∈ wtGB_310, w ∈ wsGB := fun w h => twGB_309 w (List.mem_cons_of_mem (Cond.selects RX12 yX12_waysBy yX12_waysBy) h)
theorem mGB_310 : Cond.code yX12_waysBy cX12_waysBy 6 (some .int) ∈ wsGB := twGB_310 _ (List.mem_cons_self : Cond.code yX12_waysBy cX12_waysBy 6 (some .int) ∈ Cond.code yX12_waysBy cX12_waysBy 6 (some .int) :: wtGB_311)
theorem twGB_311 : ∀ w ∈ wtGB_311, w ∈ wsGB := fun w h => twGB_310 w (List.mem_cons_of_mem (Cond.code yX12_waysBy cX12_waysBy 6 (some .int)) h)
theorem mGB_311 : Cond.methodLink RX12 318 yX12_runBehind ∈ wsGB := twGB_311 _ (List.mem_cons_self : Cond.methodLink RX12 318 yX12_runBehind ∈ Cond.methodLink RX12 318 yX12_runBehind :: wtGB_312)
theorem twGB_312 : ∀ w ∈ wtGB_312, w ∈ wsGB := fun w h => twGB_311 w (List.mem_cons_of_mem (Cond.methodLink RX12 318 yX12_runBehind) h)
theorem mGB_312 : Cond.instanceMethod yX12_runBehind ∈ wsGB := twGB_312 _ (List.mem_cons_self : Cond.instanceMethod yX12_runBehind ∈ Cond.instanceMethod yX12_runBehind :: wtGB_313)
theorem twGB_313 : ∀ w ∈ wtGB_313, w ∈ wsGB := fun w h => twGB_312 w (List.mem_cons_of_mem (Cond.instanceMethod yX12_runBehind) h)
theorem mGB_313 : Cond.selects RX12 yX12_runBehind yX12_runBehind ∈ wsGB := twGB_313 _ (List.mem_cons_self : Cond.selects RX12 yX12_runBehind yX12_runBehind ∈ Cond.selects RX12 yX12_runBehind yX12_runBehind :: wtGB_314)
theorem twGB_314 : ∀ w ∈ wtGB_314, w ∈ wsGB := fun w h => twGB_313 w (List.mem_cons_of_mem (Cond.selects RX12 yX12_runBehind yX12_runBehind) h)
theorem mGB_314 : Cond.code yX12_runBehind cX12_runBehind 4 (some .int) ∈ wsGB := twGB_314 _ (List.mem_cons_self : Cond.code yX12_runBehind cX12_runBehind 4 (some .int) ∈ Cond.code yX12_runBehind cX12_runBehind 4 (some .int) :: wtGB_315)
theorem twGB_315 : ∀ w ∈ wtGB_315, w ∈ wsGB := fun w h => twGB_314 w (List.mem_cons_of_mem (Cond.code yX12_runBehind cX12_runBehind 4 (some .int)) h)
theorem mGB_315 : Cond.methodLink RX12 321 yX12_placeOf ∈ wsGB := twGB_315 _ (List.mem_cons_self : Cond.methodLink RX12 321 yX12_placeOf ∈ Cond.methodLink RX12 321 yX12_placeOf :: wtGB_316)
theorem twGB_316 : ∀ w ∈ wtGB_316, w ∈ wsGB := fun w h => twGB_315 w (List.mem_cons_of_mem (Cond.methodLink RX12 321 yX12_placeOf) h)
theorem mGB_316 : Cond.static yX12_placeOf ∈ wsGB := twGB_316 _ (List.mem_cons_self : Cond.static yX12_placeOf ∈ Cond.static yX12_placeOf :: wtGB_317)
theorem twGB_317 : ∀ w ∈ wtGB_317, w ∈ wsGB := fun w h => twGB_316 w (List.mem_cons_of_mem (Cond.static yX12_placeOf) h)
theorem mGB_317 : Cond.code yX12_placeOf cX12_placeOf 3 (some .int) ∈ wsGB := twGB_317 _ (List.mem_cons_self : Cond.code yX12_placeOf cX12_placeOf 3 (some .int) ∈ Cond.code yX12_placeOf cX12_placeOf 3 (some .int) :: wtGB_318)
theorem twGB_318 : ∀ w ∈ wtGB_318, w ∈ wsGB := fun w h => twGB_317 w (List.mem_cons_of_mem (Cond.code yX12_placeOf cX12_placeOf 3 (some .int)) h)
theorem mGB_318 : Cond.static yJ6_bitCount_0f7a4 ∈ wsGB := twGB_318 _ (List.mem_cons_self : Cond.static yJ6_bitCount_0f7a4 ∈ Cond.static yJ6_bitCount_0f7a4 :: wtGB_319)
theorem twGB_319 : ∀ w ∈ wtGB_319, w ∈ wsGB := fun w h => twGB_318 w (List.mem_cons_of_mem (Cond.static yJ6_bitCount_0f7a4) h)
theorem mGB_319 : Cond.initialized RJ6 ∈ wsGB := twGB_319 _ (List.mem_cons_self : Cond.initialized RJ6 ∈ Cond.initialized RJ6 :: wtGB_320)
theorem twGB_320 : ∀ w ∈ wtGB_320, w ∈ wsGB := fun w h => twGB_319 w (List.mem_cons_of_mem (Cond.initialized RJ6) h)
theorem mGB_320 : Cond.code yJ6_bitCount_0f7a4 cJ6_bitCount_0f7a4 1 (some .int) ∈ wsGB := twGB_320 _ (List.mem_cons_self : Cond.code yJ6_bitCount_0f7a4 cJ6_bitCount_0f7a4 1 (some .int) ∈ Cond.code yJ6_bitCount_0f7a4 cJ6_bitCount_0f7a4 1 (some .int) :: wtGB_321)
theorem twGB_321 : ∀ w ∈ wtGB_321, w ∈ wsGB := fun w h => twGB_320 w (List.mem_cons_of_mem (Cond.code yJ6_bitCount_0f7a4 cJ6_bitCount_0f7a4 1 (some .int)) h)
theorem mGB_321 : Cond.constant RJ6 265 (1431655765) ∈ wsGB := twGB_321 _ (List.mem_cons_self : Cond.constant RJ6 265 (1431655765) ∈ Cond.constant RJ6 265 (1431655765) :: wtGB_322)
theorem twGB_322 : ∀ w ∈ wtGB_322, w ∈ wsGB := fun w h => twGB_321 w (List.mem_cons_of_mem (Cond.constant RJ6 265 (1431655765)) h)
theorem mGB_322 : Cond.constant RJ6 266 (858993459) ∈ wsGB := twGB_322 _ (List.mem_cons_self : Cond.constant RJ6 266 (858993459) ∈ Cond.constant RJ6 266 (858993459) :: wtGB_323)
theorem twGB_323 : ∀ w ∈ wtGB_323, w ∈ wsGB := fun w h => twGB_322 w (List.mem_cons_of_mem (Cond.constant RJ6 266 (858993459)) h)
theorem mGB_323 : Cond.constant RJ6 267 (252645135) ∈ wsGB := twGB_323 _ (List.mem_cons_self : Cond.constant RJ6 267 (252645135) ∈ Cond.constant RJ6 267 (252645135) :: wtGB_324)
theorem twGB_324 : ∀ w ∈ wtGB_324, w ∈ wsGB := fun w h => twGB_323 w (List.mem_cons_of_mem (Cond.constant RJ6 267 (252645135)) h)
theorem mGB_324 : Cond.instanceMethod yX12_taken ∈ wsGB := twGB_324 _ (List.mem_cons_self : Cond.instanceMethod yX12_taken ∈ Cond.instanceMethod yX12_taken :: wtGB_325)
theorem twGB_325 : ∀ w ∈ wtGB_325, w ∈ wsGB := fun w h => twGB_324 w (List.mem_cons_of_mem (Cond.instanceMethod yX12_taken) h)
theorem mGB_325 : Cond.selects RX12 yX12_taken yX12_taken ∈ wsGB := twGB_325 _ (List.mem_cons_self : Cond.selects RX12 yX12_taken yX12_taken ∈ Cond.selects RX12 yX12_taken yX12_taken :: wtGB_326)
theorem twGB_326 : ∀ w ∈ wtGB_326, w ∈ wsGB := fun w h => twGB_325 w (List.mem_cons_of_mem (Cond.selects RX12 yX12_taken yX12_taken) h)
theorem mGB_326 : Cond.code yX12_taken cX12_taken 2 (some .int) ∈ wsGB := twGB_326 _ (List.mem_cons_self : Cond.code yX12_taken cX12_taken 2 (some .int) ∈ Cond.code yX12_taken cX12_taken 2 (some .int) :: wtGB_327)
theorem twGB_327 : ∀ w ∈ wtGB_327, w ∈ wsGB := fun w h => twGB_326 w (List.mem_cons_of_mem (Cond.code yX12_taken cX12_taken 2 (some .int)) h)
theorem mGB_327 : Cond.methodLink RX12 365 yX12_takenBits ∈ wsGB := twGB_327 _ (List.mem_cons_self : Cond.methodLink RX12 365 yX12_takenBits ∈ Cond.methodLink RX12 365 yX12_takenBits :: wtGB_328)
theorem twGB_328 : ∀ w ∈ wtGB_328, w ∈ wsGB := fun w h => twGB_327 w (List.mem_cons_of_mem (Cond.methodLink RX12 365 yX12_takenBits) h)
theorem mGB_328 : Cond.instanceMethod yX12_takenBits ∈ wsGB := twGB_328 _ (List.mem_cons_self : Cond.instanceMethod yX12_takenBits ∈ Cond.instanceMethod yX12_takenBits :: wtGB_329)
theorem twGB_329 : ∀ w ∈ wtGB_329, w ∈ wsGB := fun w h => twGB_328 w (List.mem_cons_of_mem (Cond.instanceMethod yX12_takenBits) h)
theorem mGB_329 : Cond.selects RX12 yX12_takenBits yX12_takenBits ∈ wsGB := twGB_329 _ (List.mem_cons_self : Cond.selects RX12 yX12_takenBits yX12_takenBits ∈ Cond.selects RX12 yX12_takenBits yX12_takenBits :: wtGB_330)
theorem twGB_330 : ∀ w ∈ wtGB_330, w ∈ wsGB := fun w h => twGB_329 w (List.mem_cons_of_mem (Cond.selects RX12 yX12_takenBits yX12_takenBits) h)
theorem mGB_330 : Cond.code yX12_takenBits cX12_takenBits 3 (some .int) ∈ wsGB := twGB_330 _ (List.mem_cons_self : Cond.code yX12_takenBits cX12_takenBits 3 (some .int) ∈ Cond.code yX12_takenBits cX12_takenBits 3 (some .int) :: wtGB_331)
theorem twGB_331 : ∀ w ∈ wtGB_331, w ∈ wsGB := fun w h => twGB_330 w (List.mem_cons_of_mem (Cond.code yX12_takenBits cX12_takenBits 3 (some .int)) h)
theorem mGB_331 : Cond.methodLink RX12 368 yJ6_bitCount_0f7a4 ∈ wsGB := twGB_331 _ (List.mem_cons_self : Cond.methodLink RX12 368 yJ6_bitCount_0f7a4 ∈ Cond.methodLink RX12 368 yJ6_bitCount_0f7a4 :: wtGB_332)
theorem twGB_332 : ∀ w ∈ wtGB_332, w ∈ wsGB := fun w h => twGB_331 w (List.mem_cons_of_mem (Cond.methodLink RX12 368 yJ6_bitCount_0f7a4) h)
theorem mGB_332 : Cond.instanceMethod yX12_order ∈ wsGB := twGB_332 _ (List.mem_cons_self : Cond.instanceMethod yX12_order ∈ Cond.instanceMethod yX12_order :: wtGB_333)
theorem twGB_333 : ∀ w ∈ wtGB_333, w ∈ wsGB := fun w h => twGB_332 w (List.mem_cons_of_mem (Cond.instanceMethod yX12_order) h)
theorem mGB_333 : Cond.selects RX12 yX12_order yX12_order ∈ wsGB := twGB_333 _ (List.mem_cons_self : Cond.selects RX12 yX12_order yX12_order ∈ Cond.selects RX12 yX12_order yX12_order :: wtGB_334)
theorem twGB_334 : ∀ w ∈ wtGB_334, w ∈ wsGB := fun w h => twGB_333 w (List.mem_cons_of_mem (Cond.selects RX12 yX12_order yX12_order) h)
theorem mGB_334 : Cond.code yX12_order cX12_order 3 (some .int) ∈ wsGB := twGB_334 _ (List.mem_cons_self : Cond.code yX12_order cX12_order 3 (some .int) ∈ Cond.code yX12_order cX12_order 3 (some .int) :: wtGB_335)
theorem twGB_335 : ∀ w ∈ wtGB_335, w ∈ wsGB := fun w h => twGB_334 w (List.mem_cons_of_mem (Cond.code yX12_order cX12_order 3 (some .int)) h)
theorem mGB_335 : Cond.instanceMethod yX12_against ∈ wsGB := twGB_335 _ (List.mem_cons_self : Cond.instanceMethod yX12_against ∈ Cond.instanceMethod yX12_against :: wtGB_336)
theorem twGB_336 : ∀ w ∈ wtGB_336, w ∈ wsGB := fun w h => twGB_335 w (List.mem_cons_of_mem (Cond.instanceMethod yX12_against) h)
theorem mGB_336 : Cond.selects RX12 yX12_against yX12_against ∈ wsGB := twGB_336 _ (List.mem_cons_self : Cond.selects RX12 yX12_against yX12_against ∈ Cond.selects RX12 yX12_against yX12_against :: wtGB_337)
theorem twGB_337 : ∀ w ∈ wtGB_337, w ∈ wsGB := fun w h => twGB_336 w (List.mem_cons_of_mem (Cond.selects RX12 yX12_against yX12_against) h)
theorem mGB_337 : Cond.code yX12_against cX12_against 5 (some .int) ∈ wsGB := twGB_337 _ (List.mem_cons_self : Cond.code yX12_against cX12_against 5 (some .int) ∈ Cond.code yX12_against cX12_against 5 (some .int) :: wtGB_338)
theorem twGB_338 : ∀ w ∈ wtGB_338, w ∈ wsGB := fun w h => twGB_337 w (List.mem_cons_of_mem (Cond.code yX12_against cX12_against 5 (some .int)) h)
theorem mGB_338 : Cond.methodLink RX12 373 yX12_areBoth ∈ wsGB := twGB_338 _ (List.mem_cons_self : Cond.methodLink RX12 373 yX12_areBoth ∈ Cond.methodLink RX12 373 yX12_areBoth :: wtGB_339)
theorem twGB_339 : ∀ w ∈ wtGB_339, w ∈ wsGB := fun w h => twGB_338 w (List.mem_cons_of_mem (Cond.methodLink RX12 373 yX12_areBoth) h)
theorem mGB_339 : Cond.instanceMethod yX12_areBoth ∈ wsGB := twGB_339 _ (List.mem_cons_self : Cond.instanceMethod yX12_areBoth ∈ Cond.instanceMethod yX12_areBoth :: wtGB_340)
theorem twGB_340 : ∀ w ∈ wtGB_340, w ∈ wsGB := fun w h => twGB_339 w (List.mem_cons_of_mem (Cond.instanceMethod yX12_areBoth) h)
theorem mGB_340 : Cond.selects RX12 yX12_areBoth yX12_areBoth ∈ wsGB := twGB_340 _ (List.mem_cons_self : Cond.selects RX12 yX12_areBoth yX12_areBoth ∈ Cond.selects RX12 yX12_areBoth yX12_areBoth :: wtGB_341)
theorem twGB_341 : ∀ w ∈ wtGB_341, w ∈ wsGB := fun w h => twGB_340 w (List.mem_cons_of_mem (Cond.selects RX12 yX12_areBoth yX12_areBoth) h)
theorem mGB_341 : Cond.code yX12_areBoth cX12_areBoth 3 (some .boolean) ∈ wsGB := twGB_341 _ (List.mem_cons_self : Cond.code yX12_areBoth cX12_areBoth 3 (some .boolean) ∈ Cond.code yX12_areBoth cX12_areBoth 3 (some .boolean) :: wtGB_342)
theorem twGB_342 : ∀ w ∈ wtGB_342, w ∈ wsGB := fun w h => twGB_341 w (List.mem_cons_of_mem (Cond.code yX12_areBoth cX12_areBoth 3 (some .boolean)) h)
theorem mGB_342 : Cond.instanceMethod yX12_blind ∈ wsGB := twGB_342 _ (List.mem_cons_self : Cond.instanceMethod yX12_blind ∈ Cond.instanceMethod yX12_blind :: wtGB_343)
theorem twGB_343 : ∀ w ∈ wtGB_343, w ∈ wsGB := fun w h => twGB_342 w (List.mem_cons_of_mem (Cond.instanceMethod yX12_blind) h)
theorem mGB_343 : Cond.selects RX12 yX12_blind yX12_blind ∈ wsGB := twGB_343 _ (List.mem_cons_self : Cond.selects RX12 yX12_blind yX12_blind ∈ Cond.selects RX12 yX12_blind yX12_blind :: wtGB_344)
theorem twGB_344 : ∀ w ∈ wtGB_344, w ∈ wsGB := fun w h => twGB_343 w (List.mem_cons_of_mem (Cond.selects RX12 yX12_blind yX12_blind) h)
theorem mGB_344 : Cond.code yX12_blind cX12_blind 5 (some .int) ∈ wsGB := twGB_344 _ (List.mem_cons_self : Cond.code yX12_blind cX12_blind 5 (some .int) ∈ Cond.code yX12_blind cX12_blind 5 (some .int) :: wtGB_345)
theorem twGB_345 : ∀ w ∈ wtGB_345, w ∈ wsGB := fun w h => twGB_344 w (List.mem_cons_of_mem (Cond.code yX12_blind cX12_blind 5 (some .int)) h)
theorem mGB_345 : Cond.static yJ7_fill_53178 ∈ wsGB := twGB_345 _ (List.mem_cons_self : Cond.static yJ7_fill_53178 ∈ Cond.static yJ7_fill_53178 :: wtGB_346)
theorem twGB_346 : ∀ w ∈ wtGB_346, w ∈ wsGB := fun w h => twGB_345 w (List.mem_cons_of_mem (Cond.static yJ7_fill_53178) h)
theorem mGB_346 : Cond.initialized RJ7 ∈ wsGB := twGB_346 _ (List.mem_cons_self : Cond.initialized RJ7 ∈ Cond.initialized RJ7 :: wtGB_347)
theorem twGB_347 : ∀ w ∈ wtGB_347, w ∈ wsGB := fun w h => twGB_346 w (List.mem_cons_of_mem (Cond.initialized RJ7) h)
theorem mGB_347 : Cond.code yJ7_fill_53178 cJ7_fill_53178 4 none ∈ wsGB := twGB_347 _ (List.mem_cons_self : Cond.code yJ7_fill_53178 cJ7_fill_53178 4 none ∈ Cond.code yJ7_fill_53178 cJ7_fill_53178 4 none :: wtGB_348)
theorem twGB_348 : ∀ w ∈ wtGB_348, w ∈ wsGB := fun w h => twGB_347 w (List.mem_cons_of_mem (Cond.code yJ7_fill_53178 cJ7_fill_53178 4 none) h)
theorem mGB_348 : Cond.instanceMethod yX12_ways ∈ wsGB := twGB_348 _ (List.mem_cons_self : Cond.instanceMethod yX12_ways ∈ Cond.instanceMethod yX12_ways :: wtGB_349)
theorem twGB_349 : ∀ w ∈ wtGB_349, w ∈ wsGB := fun w h => twGB_348 w (List.mem_cons_of_mem (Cond.instanceMethod yX12_ways) h)
theorem mGB_349 : Cond.selects RX12 yX12_ways yX12_ways ∈ wsGB := twGB_349 _ (List.mem_cons_self : Cond.selects RX12 yX12_ways yX12_ways ∈ Cond.selects RX12 yX12_ways yX12_ways :: wtGB_350)
theorem twGB_350 : ∀ w ∈ wtGB_350, w ∈ wsGB := fun w h => twGB_349 w (List.mem_cons_of_mem (Cond.selects RX12 yX12_ways yX12_ways) h)
theorem mGB_350 : Cond.code yX12_ways cX12_ways 2 (some .int) ∈ wsGB := twGB_350 _ (List.mem_cons_self : Cond.code yX12_ways cX12_ways 2 (some .int) ∈ Cond.code yX12_ways cX12_ways 2 (some .int) :: wtGB_351)
theorem twGB_351 : ∀ w ∈ wtGB_351, w ∈ wsGB := fun w h => twGB_350 w (List.mem_cons_of_mem (Cond.code yX12_ways cX12_ways 2 (some .int)) h)
theorem mGB_351 : Cond.instanceMethod yX12_begin ∈ wsGB := twGB_351 _ (List.mem_cons_self : Cond.instanceMethod yX12_begin ∈ Cond.instanceMethod yX12_begin :: wtGB_352)
theorem twGB_352 : ∀ w ∈ wtGB_352, w ∈ wsGB := fun w h => twGB_351 w (List.mem_cons_of_mem (Cond.instanceMethod yX12_begin) h)
theorem mGB_352 : Cond.selects RX12 yX12_begin yX12_begin ∈ wsGB := twGB_352 _ (List.mem_cons_self : Cond.selects RX12 yX12_begin yX12_begin ∈ Cond.selects RX12 yX12_begin yX12_begin :: wtGB_353)
theorem twGB_353 : ∀ w ∈ wtGB_353, w ∈ wsGB := fun w h => twGB_352 w (List.mem_cons_of_mem (Cond.selects RX12 yX12_begin yX12_begin) h)
theorem mGB_353 : Cond.code yX12_begin cX12_begin 3 (some .int) ∈ wsGB := twGB_353 _ (List.mem_cons_self : Cond.code yX12_begin cX12_begin 3 (some .int) ∈ Cond.code yX12_begin cX12_begin 3 (some .int) :: wtGB_354)
theorem twGB_354 : ∀ w ∈ wtGB_354, w ∈ wsGB := fun w h => twGB_353 w (List.mem_cons_of_mem (Cond.code yX12_begin cX12_begin 3 (some .int)) h)
theorem mGB_354 : Cond.methodLink RX12 379 yX12_isBegin ∈ wsGB := twGB_354 _ (List.mem_cons_self : Cond.methodLink RX12 379 yX12_isBegin ∈ Cond.methodLink RX12 379 yX12_isBegin :: wtGB_355)
theorem twGB_355 : ∀ w ∈ wtGB_355, w ∈ wsGB := fun w h => twGB_354 w (List.mem_cons_of_mem (Cond.methodLink RX12 379 yX12_isBegin) h)
theorem mGB_355 : Cond.instanceMethod yX12_isBegin ∈ wsGB := twGB_355 _ (List.mem_cons_self : Cond.instanceMethod yX12_isBegin ∈ Cond.instanceMethod yX12_isBegin :: wtGB_356)
theorem twGB_356 : ∀ w ∈ wtGB_356, w ∈ wsGB := fun w h => twGB_355 w (List.mem_cons_of_mem (Cond.instanceMethod yX12_isBegin) h)
theorem mGB_356 : Cond.selects RX12 yX12_isBegin yX12_isBegin ∈ wsGB := twGB_356 _ (List.mem_cons_self : Cond.selects RX12 yX12_isBegin yX12_isBegin ∈ Cond.selects RX12 yX12_isBegin yX12_isBegin :: wtGB_357)
theorem twGB_357 : ∀ w ∈ wtGB_357, w ∈ wsGB := fun w h => twGB_356 w (List.mem_cons_of_mem (Cond.selects RX12 yX12_isBegin yX12_isBegin) h)
theorem mGB_357 : Cond.code yX12_isBegin cX12_isBegin 2 (some .boolean) ∈ wsGB := twGB_357 _ (List.mem_cons_self : Cond.code yX12_isBegin cX12_isBegin 2 (some .boolean) ∈ Cond.code yX12_isBegin cX12_isBegin 2 (some .boolean) :: wtGB_358)
theorem twGB_358 : ∀ w ∈ wtGB_358, w ∈ wsGB := fun w h => twGB_357 w (List.mem_cons_of_mem (Cond.code yX12_isBegin cX12_isBegin 2 (some .boolean)) h)
theorem mGB_358 : Cond.methodLink RX12 382 yX12_officialBy ∈ wsGB := twGB_358 _ (List.mem_cons_self : Cond.methodLink RX12 382 yX12_officialBy ∈ Cond.methodLink RX12 382 yX12_officialBy :: wtGB_359)
theorem twGB_359 : ∀ w ∈ wtGB_359, w ∈ wsGB := fun w h => twGB_358 w (List.mem_cons_of_mem (Cond.methodLink RX12 382 yX12_officialBy) h)
theorem mGB_359 : Cond.instanceMethod yX12_officialBy ∈ wsGB := twGB_359 _ (List.mem_cons_self : Cond.instanceMethod yX12_officialBy ∈ Cond.instanceMethod yX12_officialBy :: wtGB_360)
theorem twGB_360 : ∀ w ∈ wtGB_360, w ∈ wsGB := fun w h => twGB_359 w (List.mem_cons_of_mem (Cond.instanceMethod yX12_officialBy) h)
theorem mGB_360 : Cond.selects RX12 yX12_officialBy yX12_officialBy ∈ wsGB := twGB_360 _ (List.mem_cons_self : Cond.selects RX12 yX12_officialBy yX12_officialBy ∈ Cond.selects RX12 yX12_officialBy yX12_officialBy :: wtGB_361)
theorem twGB_361 : ∀ w ∈ wtGB_361, w ∈ wsGB := fun w h => twGB_360 w (List.mem_cons_of_mem (Cond.selects RX12 yX12_officialBy yX12_officialBy) h)
theorem mGB_361 : Cond.code yX12_officialBy cX12_officialBy 2 none ∈ wsGB := twGB_361 _ (List.mem_cons_self : Cond.code yX12_officialBy cX12_officialBy 2 none ∈ Cond.code yX12_officialBy cX12_officialBy 2 none :: wtGB_362)
theorem twGB_362 : ∀ w ∈ wtGB_362, w ∈ wsGB := fun w h => twGB_361 w (List.mem_cons_of_mem (Cond.code yX12_officialBy cX12_officialBy 2 none) h)
theorem mGB_362 : Cond.methodLink RX12 376 yX12_laysOfficial ∈ wsGB := twGB_362 _ (List.mem_cons_self : Cond.methodLink RX12 376 yX12_laysOfficial ∈ Cond.methodLink RX12 376 yX12_laysOfficial :: wtGB_363)
theorem twGB_363 : ∀ w ∈ wtGB_363, w ∈ wsGB := fun w h => twGB_362 w (List.mem_cons_of_mem (Cond.methodLink RX12 376 yX12_laysOfficial) h)
theorem mGB_363 : Cond.instanceMethod yX12_laysOfficial ∈ wsGB := twGB_363 _ (List.mem_cons_self : Cond.instanceMethod yX12_laysOfficial ∈ Cond.instanceMethod yX12_laysOfficial :: wtGB_364)
theorem twGB_364 : ∀ w ∈ wtGB_364, w ∈ wsGB := fun w h => twGB_363 w (List.mem_cons_of_mem (Cond.instanceMethod yX12_laysOfficial) h)
theorem mGB_364 : Cond.selects RX12 yX12_laysOfficial yX12_laysOfficial ∈ wsGB := twGB_364 _ (List.mem_cons_self : Cond.selects RX12 yX12_laysOfficial yX12_laysOfficial ∈ Cond.selects RX12 yX12_laysOfficial yX12_laysOfficial :: wtGB_365)
theorem twGB_365 : ∀ w ∈ wtGB_365, w ∈ wsGB := fun w h => twGB_364 w (List.mem_cons_of_mem (Cond.selects RX12 yX12_laysOfficial yX12_laysOfficial) h)
theorem mGB_365 : Cond.code yX12_laysOfficial cX12_laysOfficial 5 none ∈ wsGB := twGB_365 _ (List.mem_cons_self : Cond.code yX12_laysOfficial cX12_laysOfficial 5 none ∈ Cond.code yX12_laysOfficial cX12_laysOfficial 5 none :: wtGB_366)
theorem twGB_366 : ∀ w ∈ wtGB_366, w ∈ wsGB := fun w h => twGB_365 w (List.mem_cons_of_mem (Cond.code yX12_laysOfficial cX12_laysOfficial 5 none) h)
theorem mGB_366 : Cond.instanceMethod yX12_span ∈ wsGB := twGB_366 _ (List.mem_cons_self : Cond.instanceMethod yX12_span ∈ Cond.instanceMethod yX12_span :: wtGB_367)
theorem twGB_367 : ∀ w ∈ wtGB_367, w ∈ wsGB := fun w h => twGB_366 w (List.mem_cons_of_mem (Cond.instanceMethod yX12_span) h)
theorem mGB_367 : Cond.selects RX12 yX12_span yX12_span ∈ wsGB := twGB_367 _ (List.mem_cons_self : Cond.selects RX12 yX12_span yX12_span ∈ Cond.selects RX12 yX12_span yX12_span :: wtGB_368)
theorem twGB_368 : ∀ w ∈ wtGB_368, w ∈ wsGB := fun w h => twGB_367 w (List.mem_cons_of_mem (Cond.selects RX12 yX12_span yX12_span) h)
theorem mGB_368 : Cond.code yX12_span cX12_span 4 (some .int) ∈ wsGB := twGB_368 _ (List.mem_cons_self : Cond.code yX12_span cX12_span 4 (some .int) ∈ Cond.code yX12_span cX12_span 4 (some .int) :: wtGB_369)
theorem twGB_369 : ∀ w ∈ wtGB_369, w ∈ wsGB := fun w h => twGB_368 w (List.mem_cons_of_mem (Cond.code yX12_span cX12_span 4 (some .int)) h)
theorem mGB_369 : Cond.methodLink RX12 391 yX12_spanOf ∈ wsGB := twGB_369 _ (List.mem_cons_self : Cond.methodLink RX12 391 yX12_spanOf ∈ Cond.methodLink RX12 391 yX12_spanOf :: wtGB_370)
theorem twGB_370 : ∀ w ∈ wtGB_370, w ∈ wsGB := fun w h => twGB_369 w (List.mem_cons_of_mem (Cond.methodLink RX12 391 yX12_spanOf) h)
theorem mGB_370 : Cond.instanceMethod yX12_spanOf ∈ wsGB := twGB_370 _ (List.mem_cons_self : Cond.instanceMethod yX12_spanOf ∈ Cond.instanceMethod yX12_spanOf :: wtGB_371)
theorem twGB_371 : ∀ w ∈ wtGB_371, w ∈ wsGB := fun w h => twGB_370 w (List.mem_cons_of_mem (Cond.instanceMethod yX12_spanOf) h)
theorem mGB_371 : Cond.selects RX12 yX12_spanOf yX12_spanOf ∈ wsGB := twGB_371 _ (List.mem_cons_self : Cond.selects RX12 yX12_spanOf yX12_spanOf ∈ Cond.selects RX12 yX12_spanOf yX12_spanOf :: wtGB_372)
theorem twGB_372 : ∀ w ∈ wtGB_372, w ∈ wsGB := fun w h => twGB_371 w (List.mem_cons_of_mem (Cond.selects RX12 yX12_spanOf yX12_spanOf) h)
theorem mGB_372 : Cond.code yX12_spanOf cX12_spanOf 5 (some .int) ∈ wsGB := twGB_372 _ (List.mem_cons_self : Cond.code yX12_spanOf cX12_spanOf 5 (some .int) ∈ Cond.code yX12_spanOf cX12_spanOf 5 (some .int) :: wtGB_373)
theorem twGB_373 : ∀ w ∈ wtGB_373, w ∈ wsGB := fun w h => twGB_372 w (List.mem_cons_of_mem (Cond.code yX12_spanOf cX12_spanOf 5 (some .int)) h)
theorem mGB_373 : Cond.methodLink RX12 388 yX12_beginsOn ∈ wsGB := twGB_373 _ (List.mem_cons_self : Cond.methodLink RX12 388 yX12_beginsOn ∈ Cond.methodLink RX12 388 yX12_beginsOn :: wtGB_374)
theorem twGB_374 : ∀ w ∈ wtGB_374, w ∈ wsGB := fun w h => twGB_373 w (List.mem_cons_of_mem (Cond.methodLink RX12 388 yX12_beginsOn) h)
theorem mGB_374 : Cond.instanceMethod yX12_beginsOn ∈ wsGB := twGB_374 _ (List.mem_cons_self : Cond.instanceMethod yX12_beginsOn ∈ Cond.instanceMethod yX12_beginsOn :: wtGB_375)
theorem twGB_375 : ∀ w ∈ wtGB_375, w ∈ wsGB := fun w h => twGB_374 w (List.mem_cons_of_mem (Cond.instanceMethod yX12_beginsOn) h)
theorem mGB_375 : Cond.selects RX12 yX12_beginsOn yX12_beginsOn ∈ wsGB := twGB_375 _ (List.mem_cons_self : Cond.selects RX12 yX12_beginsOn yX12_beginsOn ∈ Cond.selects RX12 yX12_beginsOn yX12_beginsOn :: wtGB_376)
theorem twGB_376 : ∀ w ∈ wtGB_376, w ∈ wsGB := fun w h => twGB_375 w (List.mem_cons_of_mem (Cond.selects RX12 yX12_beginsOn yX12_beginsOn) h)
theorem mGB_376 : Cond.code yX12_beginsOn cX12_beginsOn 3 (some .int) ∈ wsGB := twGB_376 _ (List.mem_cons_self : Cond.code yX12_beginsOn cX12_beginsOn 3 (some .int) ∈ Cond.code yX12_beginsOn cX12_beginsOn 3 (some .int) :: wtGB_377)
theorem twGB_377 : ∀ w ∈ wtGB_377, w ∈ wsGB := fun w h => twGB_376 w (List.mem_cons_of_mem (Cond.code yX12_beginsOn cX12_beginsOn 3 (some .int)) h)
theorem mGB_377 : Cond.methodLink RX12 385 yX12_countsWith ∈ wsGB := twGB_377 _ (List.mem_cons_self : Cond.methodLink RX12 385 yX12_countsWith ∈ Cond.methodLink RX12 385 yX12_countsWith :: wtGB_378)
theorem twGB_378 : ∀ w ∈ wtGB_378, w ∈ wsGB := fun w h => twGB_377 w (List.mem_cons_of_mem (Cond.methodLink RX12 385 yX12_countsWith) h)
theorem mGB_378 : Cond.instanceMethod yX12_countsWith ∈ wsGB := twGB_378 _ (List.mem_cons_self : Cond.instanceMethod yX12_countsWith ∈ Cond.instanceMethod yX12_countsWith :: wtGB_379)
theorem twGB_379 : ∀ w ∈ wtGB_379, w ∈ wsGB := fun w h => twGB_378 w (List.mem_cons_of_mem (Cond.instanceMethod yX12_countsWith) h)
theorem mGB_379 : Cond.selects RX12 yX12_countsWith yX12_countsWith ∈ wsGB := twGB_379 _ (List.mem_cons_self : Cond.selects RX12 yX12_countsWith yX12_countsWith ∈ Cond.selects RX12 yX12_countsWith yX12_countsWith :: wtGB_380)
theorem twGB_380 : ∀ w ∈ wtGB_380, w ∈ wsGB := fun w h => twGB_379 w (List.mem_cons_of_mem (Cond.selects RX12 yX12_countsWith yX12_countsWith) h)
theorem mGB_380 : Cond.code yX12_countsWith cX12_countsWith 9 (some .int) ∈ wsGB := twGB_380 _ (List.mem_cons_self : Cond.code yX12_countsWith cX12_countsWith 9 (some .int) ∈ Cond.code yX12_countsWith cX12_countsWith 9 (some .int) :: wtGB_381)
theorem twGB_381 : ∀ w ∈ wtGB_381, w ∈ wsGB := fun w h => twGB_380 w (List.mem_cons_of_mem (Cond.code yX12_countsWith cX12_countsWith 9 (some .int)) h)
theorem mGB_381 : Cond.instanceMethod yX12_sure ∈ wsGB := twGB_381 _ (List.mem_cons_self : Cond.instanceMethod yX12_sure ∈ Cond.instanceMethod yX12_sure :: wtGB_382)
theorem twGB_382 : ∀ w ∈ wtGB_382, w ∈ wsGB := fun w h => twGB_381 w (List.mem_cons_of_mem (Cond.instanceMethod yX12_sure) h)
theorem mGB_382 : Cond.selects RX12 yX12_sure yX12_sure ∈ wsGB := twGB_382 _ (List.mem_cons_self : Cond.selects RX12 yX12_sure yX12_sure ∈ Cond.selects RX12 yX12_sure yX12_sure :: wtGB_383)
theorem twGB_383 : ∀ w ∈ wtGB_383, w ∈ wsGB := fun w h => twGB_382 w (List.mem_cons_of_mem (Cond.selects RX12 yX12_sure yX12_sure) h)
theorem mGB_383 : Cond.code yX12_sure cX12_sure 4 (some .int) ∈ wsGB := twGB_383 _ (List.mem_cons_self : Cond.code yX12_sure cX12_sure 4 (some .int) ∈ Cond.code yX12_sure cX12_sure 4 (some .int) :: wtGB_384)
theorem twGB_384 : ∀ w ∈ wtGB_384, w ∈ wsGB := fun w h => twGB_383 w (List.mem_cons_of_mem (Cond.code yX12_sure cX12_sure 4 (some .int)) h)
theorem mGB_384 : Cond.instanceMethod yX12_lasts ∈ wsGB := twGB_384 _ (List.mem_cons_self : Cond.instanceMethod yX12_lasts ∈ Cond.instanceMethod yX12_lasts :: wtGB_385)
theorem twGB_385 : ∀ w ∈ wtGB_385, w ∈ wsGB := fun w h => twGB_384 w (List.mem_cons_of_mem (Cond.instanceMethod yX12_lasts) h)
theorem mGB_385 : Cond.selects RX12 yX12_lasts yX12_lasts ∈ wsGB := twGB_385 _ (List.mem_cons_self : Cond.selects RX12 yX12_lasts yX12_lasts ∈ Cond.selects RX12 yX12_lasts yX12_lasts :: wtGB_386)
theorem twGB_386 : ∀ w ∈ wtGB_386, w ∈ wsGB := fun w h => twGB_385 w (List.mem_cons_of_mem (Cond.selects RX12 yX12_lasts yX12_lasts) h)
theorem mGB_386 : Cond.code yX12_lasts cX12_lasts 3 (some .int) ∈ wsGB := twGB_386 _ (List.mem_cons_self : Cond.code yX12_lasts cX12_lasts 3 (some .int) ∈ Cond.code yX12_lasts cX12_lasts 3 (some .int) :: wtGB_387)
theorem twGB_387 : ∀ w ∈ wtGB_387, w ∈ wsGB := fun w h => twGB_386 w (List.mem_cons_of_mem (Cond.code yX12_lasts cX12_lasts 3 (some .int)) h)
theorem mGB_387 : Cond.methodLink RX12 394 yX12_isMonth ∈ wsGB := twGB_387 _ (List.mem_cons_self : Cond.methodLink RX12 394 yX12_isMonth ∈ Cond.methodLink RX12 394 yX12_isMonth :: wtGB_388)
theorem twGB_388 : ∀ w ∈ wtGB_388, w ∈ wsGB := fun w h => twGB_387 w (List.mem_cons_of_mem (Cond.methodLink RX12 394 yX12_isMonth) h)
theorem mGB_388 : Cond.instanceMethod yX12_isMonth ∈ wsGB := twGB_388 _ (List.mem_cons_self : Cond.instanceMethod yX12_isMonth ∈ Cond.instanceMethod yX12_isMonth :: wtGB_389)
theorem twGB_389 : ∀ w ∈ wtGB_389, w ∈ wsGB := fun w h => twGB_388 w (List.mem_cons_of_mem (Cond.instanceMethod yX12_isMonth) h)
theorem mGB_389 : Cond.selects RX12 yX12_isMonth yX12_isMonth ∈ wsGB := twGB_389 _ (List.mem_cons_self : Cond.selects RX12 yX12_isMonth yX12_isMonth ∈ Cond.selects RX12 yX12_isMonth yX12_isMonth :: wtGB_390)
theorem twGB_390 : ∀ w ∈ wtGB_390, w ∈ wsGB := fun w h => twGB_389 w (List.mem_cons_of_mem (Cond.selects RX12 yX12_isMonth yX12_isMonth) h)
theorem mGB_390 : Cond.code yX12_isMonth cX12_isMonth 2 (some .boolean) ∈ wsGB := twGB_390 _ (List.mem_cons_self : Cond.code yX12_isMonth cX12_isMonth 2 (some .boolean) ∈ Cond.code yX12_isMonth cX12_isMonth 2 (some .boolean) :: wtGB_391)
theorem twGB_391 : ∀ w ∈ wtGB_391, w ∈ wsGB := fun w h => twGB_390 w (List.mem_cons_of_mem (Cond.code yX12_isMonth cX12_isMonth 2 (some .boolean)) h)
theorem mGB_391 : Cond.instanceMethod yX12_could ∈ wsGB := twGB_391 _ (List.mem_cons_self : Cond.instanceMethod yX12_could ∈ Cond.instanceMethod yX12_could :: wtGB_392)
theorem twGB_392 : ∀ w ∈ wtGB_392, w ∈ wsGB := fun w h => twGB_391 w (List.mem_cons_of_mem (Cond.instanceMethod yX12_could) h)
theorem mGB_392 : Cond.selects RX12 yX12_could yX12_could ∈ wsGB := twGB_392 _ (List.mem_cons_self : Cond.selects RX12 yX12_could yX12_could ∈ Cond.selects RX12 yX12_could yX12_could :: wtGB_393)
theorem twGB_393 : ∀ w ∈ wtGB_393, w ∈ wsGB := fun w h => twGB_392 w (List.mem_cons_of_mem (Cond.selects RX12 yX12_could yX12_could) h)
theorem mGB_393 : Cond.code yX12_could cX12_could 4 (some .int) ∈ wsGB := twGB_393 _ (List.mem_cons_self : Cond.code yX12_could cX12_could 4 (some .int) ∈ Cond.code yX12_could cX12_could 4 (some .int) :: wtGB_394)
theorem twGB_394 : ∀ w ∈ wtGB_394, w ∈ wsGB := fun w h => twGB_393 w (List.mem_cons_of_mem (Cond.code yX12_could cX12_could 4 (some .int)) h)
theorem mGB_394 : Cond.instanceMethod yX12_lean ∈ wsGB := twGB_394 _ (List.mem_cons_self : Cond.instanceMethod yX12_lean ∈ Cond.instanceMethod yX12_lean :: wtGB_395)
theorem twGB_395 : ∀ w ∈ wtGB_395, w ∈ wsGB := fun w h => twGB_394 w (List.mem_cons_of_mem (Cond.instanceMethod yX12_lean) h)
theorem mGB_395 : Cond.selects RX12 yX12_lean yX12_lean ∈ wsGB := twGB_395 _ (List.mem_cons_self : Cond.selects RX12 yX12_lean yX12_lean ∈ Cond.selects RX12 yX12_lean yX12_lean :: wtGB_396)
theorem twGB_396 : ∀ w ∈ wtGB_396, w ∈ wsGB := fun w h => twGB_395 w (List.mem_cons_of_mem (Cond.selects RX12 yX12_lean yX12_lean) h)
theorem mGB_396 : Cond.code yX12_lean cX12_lean 5 (some .int) ∈ wsGB := twGB_396 _ (List.mem_cons_self : Cond.code yX12_lean cX12_lean 5 (some .int) ∈ Cond.code yX12_lean cX12_lean 5 (some .int) :: wtGB_397)
theorem twGB_397 : ∀ w ∈ wtGB_397, w ∈ wsGB := fun w h => twGB_396 w (List.mem_cons_of_mem (Cond.code yX12_lean cX12_lean 5 (some .int)) h)
theorem mGB_397 : Cond.instanceMethod yX12_ranked ∈ wsGB := twGB_397 _ (List.mem_cons_self : Cond.instanceMethod yX12_ranked ∈ Cond.instanceMethod yX12_ranked :: wtGB_398)
theorem twGB_398 : ∀ w ∈ wtGB_398, w ∈ wsGB := fun w h => twGB_397 w (List.mem_cons_of_mem (Cond.instanceMethod yX12_ranked) h)
theorem mGB_398 : Cond.selects RX12 yX12_ranked yX12_ranked ∈ wsGB := twGB_398 _ (List.mem_cons_self : Cond.selects RX12 yX12_ranked yX12_ranked ∈ Cond.selects RX12 yX12_ranked yX12_ranked :: wtGB_399)
theorem twGB_399 : ∀ w ∈ wtGB_399, w ∈ wsGB := fun w h => twGB_398 w (List.mem_cons_of_mem (Cond.selects RX12 yX12_ranked yX12_ranked) h)
theorem mGB_399 : Cond.code yX12_ranked cX12_ranked 4 (some .int) ∈ wsGB := twGB_399 _ (List.mem_cons_self : Cond.code yX12_ranked cX12_ranked 4 (some .int) ∈ Cond.code yX12_ranked cX12_ranked 4 (some .int) :: wtGB_400)
theorem twGB_400 : ∀ w ∈ wtGB_400, w ∈ wsGB := fun w h => twGB_399 w (List.mem_cons_of_mem (Cond.code yX12_ranked cX12_ranked 4 (some .int)) h)
theorem mGB_400 : Cond.methodLink RX12 400 yX12_laysRanked ∈ wsGB := twGB_400 _ (List.mem_cons_self : Cond.methodLink RX12 400 yX12_laysRanked ∈ Cond.methodLink RX12 400 yX12_laysRanked :: wtGB_401)
theorem twGB_401 : ∀ w ∈ wtGB_401, w ∈ wsGB := fun w h => twGB_400 w (List.mem_cons_of_mem (Cond.methodLink RX12 400 yX12_laysRanked) h)
theorem mGB_401 : Cond.instanceMethod yX12_laysRanked ∈ wsGB := twGB_401 _ (List.mem_cons_self : Cond.instanceMethod yX12_laysRanked ∈ Cond.instanceMethod yX12_laysRanked :: wtGB_402)
theorem twGB_402 : ∀ w ∈ wtGB_402, w ∈ wsGB := fun w h => twGB_401 w (List.mem_cons_of_mem (Cond.instanceMethod yX12_laysRanked) h)
theorem mGB_402 : Cond.selects RX12 yX12_laysRanked yX12_laysRanked ∈ wsGB := twGB_402 _ (List.mem_cons_self : Cond.selects RX12 yX12_laysRanked yX12_laysRanked ∈ Cond.selects RX12 yX12_laysRanked yX12_laysRanked :: wtGB_403)
theorem twGB_403 : ∀ w ∈ wtGB_403, w ∈ wsGB := fun w h => twGB_402 w (List.mem_cons_of_mem (Cond.selects RX12 yX12_laysRanked yX12_laysRanked) h)
theorem mGB_403 : Cond.code yX12_laysRanked cX12_laysRanked 8 none ∈ wsGB := twGB_403 _ (List.mem_cons_self : Cond.code yX12_laysRanked cX12_laysRanked 8 none ∈ Cond.code yX12_laysRanked cX12_laysRanked 8 none :: wtGB_404)
theorem twGB_404 : ∀ w ∈ wtGB_404, w ∈ wsGB := fun w h => twGB_403 w (List.mem_cons_of_mem (Cond.code yX12_laysRanked cX12_laysRanked 8 none) h)
theorem mGB_404 : Cond.fieldLink RX12 397 "SightedMonthsModel" "rankedFull" "I" ∈ wsGB := twGB_404 _ (List.mem_cons_self : Cond.fieldLink RX12 397 "SightedMonthsModel" "rankedFull" "I" ∈ Cond.fieldLink RX12 397 "SightedMonthsModel" "rankedFull" "I" :: wtGB_405)
theorem twGB_405 : ∀ w ∈ wtGB_405, w ∈ wsGB := fun w h => twGB_404 w (List.mem_cons_of_mem (Cond.fieldLink RX12 397 "SightedMonthsModel" "rankedFull" "I") h)
theorem mGB_405 : Cond.instanceMethod yX12_rank ∈ wsGB := twGB_405 _ (List.mem_cons_self : Cond.instanceMethod yX12_rank ∈ Cond.instanceMethod yX12_rank :: wtGB_406)
theorem twGB_406 : ∀ w ∈ wtGB_406, w ∈ wsGB := fun w h => twGB_405 w (List.mem_cons_of_mem (Cond.instanceMethod yX12_rank) h)
theorem mGB_406 : Cond.selects RX12 yX12_rank yX12_rank ∈ wsGB := twGB_406 _ (List.mem_cons_self : Cond.selects RX12 yX12_rank yX12_rank ∈ Cond.selects RX12 yX12_rank yX12_rank :: wtGB_407)
theorem twGB_407 : ∀ w ∈ wtGB_407, w ∈ wsGB := fun w h => twGB_406 w (List.mem_cons_of_mem (Cond.selects RX12 yX12_rank yX12_rank) h)
theorem mGB_407 : Cond.code yX12_rank cX12_rank 8 (some .int) ∈ wsGB := twGB_407 _ (List.mem_cons_self : Cond.code yX12_rank cX12_rank 8 (some .int) ∈ Cond.code yX12_rank cX12_rank 8 (some .int) :: wtGB_408)
theorem twGB_408 : ∀ w ∈ wtGB_408, w ∈ wsGB := fun w h => twGB_407 w (List.mem_cons_of_mem (Cond.code yX12_rank cX12_rank 8 (some .int)) h)
theorem mGB_408 : Cond.instanceMethod yX12_drawn ∈ wsGB := twGB_408 _ (List.mem_cons_self : Cond.instanceMethod yX12_drawn ∈ Cond.instanceMethod yX12_drawn :: wtGB_409)
theorem twGB_409 : ∀ w ∈ wtGB_409, w ∈ wsGB := fun w h => twGB_408 w (List.mem_cons_of_mem (Cond.instanceMethod yX12_drawn) h)
theorem mGB_409 : Cond.selects RX12 yX12_drawn yX12_drawn ∈ wsGB := twGB_409 _ (List.mem_cons_self : Cond.selects RX12 yX12_drawn yX12_drawn ∈ Cond.selects RX12 yX12_drawn yX12_drawn :: wtGB_410)
theorem twGB_410 : ∀ w ∈ wtGB_410, w ∈ wsGB := fun w h => twGB_409 w (List.mem_cons_of_mem (Cond.selects RX12 yX12_drawn yX12_drawn) h)
theorem mGB_410 : Cond.code yX12_drawn cX12_drawn 3 (some .int) ∈ wsGB := twGB_410 _ (List.mem_cons_self : Cond.code yX12_drawn cX12_drawn 3 (some .int) ∈ Cond.code yX12_drawn cX12_drawn 3 (some .int) :: wtGB_411)
theorem twGB_411 : ∀ w ∈ wtGB_411, w ∈ wsGB := fun w h => twGB_410 w (List.mem_cons_of_mem (Cond.code yX12_drawn cX12_drawn 3 (some .int)) h)
theorem mGB_411 : Cond.constant RX12 403 (1103515245) ∈ wsGB := twGB_411 _ (List.mem_cons_self : Cond.constant RX12 403 (1103515245) ∈ Cond.constant RX12 403 (1103515245) :: wtGB_412)
theorem twGB_412 : ∀ w ∈ wtGB_412, w ∈ wsGB := fun w h => twGB_411 w (List.mem_cons_of_mem (Cond.constant RX12 403 (1103515245)) h)
theorem mGB_412 : Cond.instanceMethod yX12_day ∈ wsGB := twGB_412 _ (List.mem_cons_self : Cond.instanceMethod yX12_day ∈ Cond.instanceMethod yX12_day :: wtGB_413)
theorem twGB_413 : ∀ w ∈ wtGB_413, w ∈ wsGB := fun w h => twGB_412 w (List.mem_cons_of_mem (Cond.instanceMethod yX12_day) h)
theorem mGB_413 : Cond.selects RX12 yX12_day yX12_day ∈ wsGB := twGB_413 _ (List.mem_cons_self : Cond.selects RX12 yX12_day yX12_day ∈ Cond.selects RX12 yX12_day yX12_day :: wtGB_414)
theorem twGB_414 : ∀ w ∈ wtGB_414, w ∈ wsGB := fun w h => twGB_413 w (List.mem_cons_of_mem (Cond.selects RX12 yX12_day yX12_day) h)
theorem mGB_414 : Cond.code yX12_day cX12_day 4 (some .int) ∈ wsGB := twGB_414 _ (List.mem_cons_self : Cond.code yX12_day cX12_day 4 (some .int) ∈ Cond.code yX12_day cX12_day 4 (some .int) :: wtGB_415)
theorem twGB_415 : ∀ w ∈ wtGB_415, w ∈ wsGB := fun w h => twGB_414 w (List.mem_cons_of_mem (Cond.code yX12_day cX12_day 4 (some .int)) h)
theorem mGB_415 : Cond.methodLink RX12 409 yX12_isInMonth ∈ wsGB := twGB_415 _ (List.mem_cons_self : Cond.methodLink RX12 409 yX12_isInMonth ∈ Cond.methodLink RX12 409 yX12_isInMonth :: wtGB_416)
theorem twGB_416 : ∀ w ∈ wtGB_416, w ∈ wsGB := fun w h => twGB_415 w (List.mem_cons_of_mem (Cond.methodLink RX12 409 yX12_isInMonth) h)
theorem mGB_416 : Cond.static yX12_isInMonth ∈ wsGB := twGB_416 _ (List.mem_cons_self : Cond.static yX12_isInMonth ∈ Cond.static yX12_isInMonth :: wtGB_417)
theorem twGB_417 : ∀ w ∈ wtGB_417, w ∈ wsGB := fun w h => twGB_416 w (List.mem_cons_of_mem (Cond.static yX12_isInMonth) h)
theorem mGB_417 : Cond.code yX12_isInMonth cX12_isInMonth 1 (some .boolean) ∈ wsGB := twGB_417 _ (List.mem_cons_self : Cond.code yX12_isInMonth cX12_isInMonth 1 (some .boolean) ∈ Cond.code yX12_isInMonth cX12_isInMonth 1 (some .boolean) :: wtGB_418)
theorem twGB_418 : ∀ w ∈ wtGB_418, w ∈ wsGB := fun w h => twGB_417 w (List.mem_cons_of_mem (Cond.code yX12_isInMonth cX12_isInMonth 1 (some .boolean)) h)
theorem mGB_418 : Cond.constantLong RX12 407 (30) ∈ wsGB := twGB_418 _ (List.mem_cons_self : Cond.constantLong RX12 407 (30) ∈ Cond.constantLong RX12 407 (30) :: wtGB_419)
theorem twGB_419 : ∀ w ∈ wtGB_419, w ∈ wsGB := fun w h => twGB_418 w (List.mem_cons_of_mem (Cond.constantLong RX12 407 (30)) h)
theorem mGB_419 : Cond.methodLink RX12 412 yX12_dayBy ∈ wsGB := twGB_419 _ (List.mem_cons_self : Cond.methodLink RX12 412 yX12_dayBy ∈ Cond.methodLink RX12 412 yX12_dayBy :: wtGB_420)
theorem twGB_420 : ∀ w ∈ wtGB_420, w ∈ wsGB := fun w h => twGB_419 w (List.mem_cons_of_mem (Cond.methodLink RX12 412 yX12_dayBy) h)
theorem mGB_420 : Cond.instanceMethod yX12_dayBy ∈ wsGB := twGB_420 _ (List.mem_cons_self : Cond.instanceMethod yX12_dayBy ∈ Cond.instanceMethod yX12_dayBy :: wtGB_421)
theorem twGB_421 : ∀ w ∈ wtGB_421, w ∈ wsGB := fun w h => twGB_420 w (List.mem_cons_of_mem (Cond.instanceMethod yX12_dayBy) h)
theorem mGB_421 : Cond.selects RX12 yX12_dayBy yX12_dayBy ∈ wsGB := twGB_421 _ (List.mem_cons_self : Cond.selects RX12 yX12_dayBy yX12_dayBy ∈ Cond.selects RX12 yX12_dayBy yX12_dayBy :: wtGB_422)
theorem twGB_422 : ∀ w ∈ wtGB_422, w ∈ wsGB := fun w h => twGB_421 w (List.mem_cons_of_mem (Cond.selects RX12 yX12_dayBy yX12_dayBy) h)
theorem mGB_422 : Cond.code yX12_dayBy cX12_dayBy 3 (some .int) ∈ wsGB := twGB_422 _ (List.mem_cons_self : Cond.code yX12_dayBy cX12_dayBy 3 (some .int) ∈ Cond.code yX12_dayBy cX12_dayBy 3 (some .int) :: wtGB_423)
theorem twGB_423 : ∀ w ∈ wtGB_423, w ∈ wsGB := fun w h => twGB_422 w (List.mem_cons_of_mem (Cond.code yX12_dayBy cX12_dayBy 3 (some .int)) h)
theorem mGB_423 : Cond.methodLink RX12 404 yX12_lengthBy ∈ wsGB := twGB_423 _ (List.mem_cons_self : Cond.methodLink RX12 404 yX12_lengthBy ∈ Cond.methodLink RX12 404 yX12_lengthBy :: wtGB_424)
theorem twGB_424 : ∀ w ∈ wtGB_424, w ∈ wsGB := fun w h => twGB_423 w (List.mem_cons_of_mem (Cond.methodLink RX12 404 yX12_lengthBy) h)
theorem mGB_424 : Cond.instanceMethod yX12_lengthBy ∈ wsGB := twGB_424 _ (List.mem_cons_self : Cond.instanceMethod yX12_lengthBy ∈ Cond.instanceMethod yX12_lengthBy :: wtGB_425)
theorem twGB_425 : ∀ w ∈ wtGB_425, w ∈ wsGB := fun w h => twGB_424 w (List.mem_cons_of_mem (Cond.instanceMethod yX12_lengthBy) h)
theorem mGB_425 : Cond.selects RX12 yX12_lengthBy yX12_lengthBy ∈ wsGB := twGB_425 _ (List.mem_cons_self : Cond.selects RX12 yX12_lengthBy yX12_lengthBy ∈ Cond.selects RX12 yX12_lengthBy yX12_lengthBy :: wtGB_426)
theorem twGB_426 : ∀ w ∈ wtGB_426, w ∈ wsGB := fun w h => twGB_425 w (List.mem_cons_of_mem (Cond.selects RX12 yX12_lengthBy yX12_lengthBy) h)
theorem mGB_426 : Cond.code yX12_lengthBy cX12_lengthBy 2 (some .int) ∈ wsGB := twGB_426 _ (List.mem_cons_self : Cond.code yX12_lengthBy cX12_lengthBy 2 (some .int) ∈ Cond.code yX12_lengthBy cX12_lengthBy 2 (some .int) :: wtGB_427)
theorem twGB_427 : ∀ w ∈ wtGB_427, w ∈ wsGB := fun w h => twGB_426 w (List.mem_cons_of_mem (Cond.code yX12_lengthBy cX12_lengthBy 2 (some .int)) h)
theorem mGB_427 : Cond.instanceMethod yX12_date ∈ wsGB := twGB_427 _ (List.mem_cons_self : Cond.instanceMethod yX12_date ∈ Cond.instanceMethod yX12_date :: wtGB_428)
theorem twGB_428 : ∀ w ∈ wtGB_428, w ∈ wsGB := fun w h => twGB_427 w (List.mem_cons_of_mem (Cond.instanceMethod yX12_date) h)
theorem mGB_428 : Cond.selects RX12 yX12_date yX12_date ∈ wsGB := twGB_428 _ (List.mem_cons_self : Cond.selects RX12 yX12_date yX12_date ∈ Cond.selects RX12 yX12_date yX12_date :: wtGB_429)
theorem twGB_429 : ∀ w ∈ wtGB_429, w ∈ wsGB := fun w h => twGB_428 w (List.mem_cons_of_mem (Cond.selects RX12 yX12_date yX12_date) h)
theorem mGB_429 : Cond.code yX12_date cX12_date 4 (some .int) ∈ wsGB := twGB_429 _ (List.mem_cons_self : Cond.code yX12_date cX12_date 4 (some .int) ∈ Cond.code yX12_date cX12_date 4 (some .int) :: wtGB_430)
theorem twGB_430 : ∀ w ∈ wtGB_430, w ∈ wsGB := fun w h => twGB_429 w (List.mem_cons_of_mem (Cond.code yX12_date cX12_date 4 (some .int)) h)
theorem mGB_430 : Cond.instanceMethod yX12_dates ∈ wsGB := twGB_430 _ (List.mem_cons_self : Cond.instanceMethod yX12_dates ∈ Cond.instanceMethod yX12_dates :: wtGB_431)
theorem twGB_431 : ∀ w ∈ wtGB_431, w ∈ wsGB := fun w h => twGB_430 w (List.mem_cons_of_mem (Cond.instanceMethod yX12_dates) h)
theorem mGB_431 : Cond.selects RX12 yX12_dates yX12_dates ∈ wsGB := twGB_431 _ (List.mem_cons_self : Cond.selects RX12 yX12_dates yX12_dates ∈ Cond.selects RX12 yX12_dates yX12_dates :: wtGB_432)
theorem twGB_432 : ∀ w ∈ wtGB_432, w ∈ wsGB := fun w h => twGB_431 w (List.mem_cons_of_mem (Cond.selects RX12 yX12_dates yX12_dates) h)
theorem mGB_432 : Cond.code yX12_dates cX12_dates 6 (some .int) ∈ wsGB := twGB_432 _ (List.mem_cons_self : Cond.code yX12_dates cX12_dates 6 (some .int) ∈ Cond.code yX12_dates cX12_dates 6 (some .int) :: wtGB_433)
theorem twGB_433 : ∀ w ∈ wtGB_433, w ∈ wsGB := fun w h => twGB_432 w (List.mem_cons_of_mem (Cond.code yX12_dates cX12_dates 6 (some .int)) h)
theorem mGB_433 : Cond.methodLink RX12 415 yX12_datesWith ∈ wsGB := twGB_433 _ (List.mem_cons_self : Cond.methodLink RX12 415 yX12_datesWith ∈ Cond.methodLink RX12 415 yX12_datesWith :: wtGB_434)
theorem twGB_434 : ∀ w ∈ wtGB_434, w ∈ wsGB := fun w h => twGB_433 w (List.mem_cons_of_mem (Cond.methodLink RX12 415 yX12_datesWith) h)
theorem mGB_434 : Cond.instanceMethod yX12_datesWith ∈ wsGB := twGB_434 _ (List.mem_cons_self : Cond.instanceMethod yX12_datesWith ∈ Cond.instanceMethod yX12_datesWith :: wtGB_435)
theorem twGB_435 : ∀ w ∈ wtGB_435, w ∈ wsGB := fun w h => twGB_434 w (List.mem_cons_of_mem (Cond.instanceMethod yX12_datesWith) h)
theorem mGB_435 : Cond.selects RX12 yX12_datesWith yX12_datesWith ∈ wsGB := twGB_435 _ (List.mem_cons_self : Cond.selects RX12 yX12_datesWith yX12_datesWith ∈ Cond.selects RX12 yX12_datesWith yX12_datesWith :: wtGB_436)
theorem twGB_436 : ∀ w ∈ wtGB_436, w ∈ wsGB := fun w h => twGB_435 w (List.mem_cons_of_mem (Cond.selects RX12 yX12_datesWith yX12_datesWith) h)
theorem mGB_436 : Cond.code yX12_datesWith cX12_datesWith 5 (some .int) ∈ wsGB := twGB_436 _ (List.mem_cons_self : Cond.code yX12_datesWith cX12_datesWith 5 (some .int) ∈ Cond.code yX12_datesWith cX12_datesWith 5 (some .int) :: wtGB_437)
theorem twGB_437 : ∀ w ∈ wtGB_437, w ∈ wsGB := fun w h => twGB_436 w (List.mem_cons_of_mem (Cond.code yX12_datesWith cX12_datesWith 5 (some .int)) h)
theorem mGB_437 : Cond.instanceMethod yX12_likely ∈ wsGB := twGB_437 _ (List.mem_cons_self : Cond.instanceMethod yX12_likely ∈ Cond.instanceMethod yX12_likely :: wtGB_438)
theorem twGB_438 : ∀ w ∈ wtGB_438, w ∈ wsGB := fun w h => twGB_437 w (List.mem_cons_of_mem (Cond.instanceMethod yX12_likely) h)
theorem mGB_438 : Cond.selects RX12 yX12_likely yX12_likely ∈ wsGB := twGB_438 _ (List.mem_cons_self : Cond.selects RX12 yX12_likely yX12_likely ∈ Cond.selects RX12 yX12_likely yX12_likely :: wtGB_439)
theorem twGB_439 : ∀ w ∈ wtGB_439, w ∈ wsGB := fun w h => twGB_438 w (List.mem_cons_of_mem (Cond.selects RX12 yX12_likely yX12_likely) h)
theorem mGB_439 : Cond.code yX12_likely cX12_likely 8 (some .int) ∈ wsGB := twGB_439 _ (List.mem_cons_self : Cond.code yX12_likely cX12_likely 8 (some .int) ∈ Cond.code yX12_likely cX12_likely 8 (some .int) :: wtGB_440)
theorem twGB_440 : ∀ w ∈ wtGB_440, w ∈ wsGB := fun w h => twGB_439 w (List.mem_cons_of_mem (Cond.code yX12_likely cX12_likely 8 (some .int)) h)
theorem mGB_440 : Cond.instanceMethod yX12_moved ∈ wsGB := twGB_440 _ (List.mem_cons_self : Cond.instanceMethod yX12_moved ∈ Cond.instanceMethod yX12_moved :: wtGB_441)
theorem twGB_441 : ∀ w ∈ wtGB_441, w ∈ wsGB := fun w h => twGB_440 w (List.mem_cons_of_mem (Cond.instanceMethod yX12_moved) h)
theorem mGB_441 : Cond.selects RX12 yX12_moved yX12_moved ∈ wsGB := twGB_441 _ (List.mem_cons_self : Cond.selects RX12 yX12_moved yX12_moved ∈ Cond.selects RX12 yX12_moved yX12_moved :: wtGB_442)
theorem twGB_442 : ∀ w ∈ wtGB_442, w ∈ wsGB := fun w h => twGB_441 w (List.mem_cons_of_mem (Cond.selects RX12 yX12_moved yX12_moved) h)
theorem mGB_442 : Cond.code yX12_moved cX12_moved 5 (some .int) ∈ wsGB := twGB_442 _ (List.mem_cons_self : Cond.code yX12_moved cX12_moved 5 (some .int) ∈ Cond.code yX12_moved cX12_moved 5 (some .int) :: wtGB_443)
theorem twGB_443 : ∀ w ∈ wtGB_443, w ∈ wsGB := fun w h => twGB_442 w (List.mem_cons_of_mem (Cond.code yX12_moved cX12_moved 5 (some .int)) h)
theorem mGB_443 : Cond.native arraycopyName ∈ wsGB := twGB_443 _ (List.mem_cons_self : Cond.native arraycopyName ∈ Cond.native arraycopyName :: wtGB_444)
theorem twGB_444 : ∀ w ∈ wtGB_444, w ∈ wsGB := fun w h => twGB_443 w (List.mem_cons_of_mem (Cond.native arraycopyName) h)
theorem mGB_444 : Cond.static arraycopyName ∈ wsGB := twGB_444 _ (List.mem_cons_self : Cond.static arraycopyName ∈ Cond.static arraycopyName :: wtGB_445)
theorem twGB_445 : ∀ w ∈ wtGB_445, w ∈ wsGB := fun w h => twGB_444 w (List.mem_cons_of_mem (Cond.static arraycopyName) h)
theorem mGB_445 : Cond.initialized "java/lang/System" ∈ wsGB := twGB_445 _ (List.mem_cons_self : Cond.initialized "java/lang/System" ∈ Cond.initialized "java/lang/System" :: wtGB_446)
theorem twGB_446 : ∀ w ∈ wtGB_446, w ∈ wsGB := fun w h => twGB_445 w (List.mem_cons_of_mem (Cond.initialized "java/lang/System") h)
theorem mGB_446 : Cond.instanceMethod yX12_shifts ∈ wsGB := twGB_446 _ (List.mem_cons_self : Cond.instanceMethod yX12_shifts ∈ Cond.instanceMethod yX12_shifts :: wtGB_447)
theorem twGB_447 : ∀ w ∈ wtGB_447, w ∈ wsGB := fun w h => twGB_446 w (List.mem_cons_of_mem (Cond.instanceMethod yX12_shifts) h)
theorem mGB_447 : Cond.selects RX12 yX12_shifts yX12_shifts ∈ wsGB := twGB_447 _ (List.mem_cons_self : Cond.selects RX12 yX12_shifts yX12_shifts ∈ Cond.selects RX12 yX12_shifts yX12_shifts :: wtGB_448)
theorem twGB_448 : ∀ w ∈ wtGB_448, w ∈ wsGB := fun w h => twGB_447 w (List.mem_cons_of_mem (Cond.selects RX12 yX12_shifts yX12_shifts) h)
theorem mGB_448 : Cond.code yX12_shifts cX12_shifts 2 (some .int) ∈ wsGB := twGB_448 _ (List.mem_cons_self : Cond.code yX12_shifts cX12_shifts 2 (some .int) ∈ Cond.code yX12_shifts cX12_shifts 2 (some .int) :: wtGB_449)
theorem twGB_449 : ∀ w ∈ wtGB_449, w ∈ wsGB := fun w h => twGB_448 w (List.mem_cons_of_mem (Cond.code yX12_shifts cX12_shifts 2 (some .int)) h)
theorem mGB_449 : Cond.fieldLink RX12 423 "SightedMonthsModel" "changes" "I" ∈ wsGB := twGB_449 _ (List.mem_cons_self : Cond.fieldLink RX12 423 "SightedMonthsModel" "changes" "I" ∈ Cond.fieldLink RX12 423 "SightedMonthsModel" "changes" "I" :: wtGB_450)
theorem twGB_450 : ∀ w ∈ wtGB_450, w ∈ wsGB := fun w h => twGB_449 w (List.mem_cons_of_mem (Cond.fieldLink RX12 423 "SightedMonthsModel" "changes" "I") h)
theorem mGB_450 : Cond.methodLink RX12 435 yX12_follows ∈ wsGB := twGB_450 _ (List.mem_cons_self : Cond.methodLink RX12 435 yX12_follows ∈ Cond.methodLink RX12 435 yX12_follows :: wtGB_451)
theorem twGB_451 : ∀ w ∈ wtGB_451, w ∈ wsGB := fun w h => twGB_450 w (List.mem_cons_of_mem (Cond.methodLink RX12 435 yX12_follows) h)
theorem mGB_451 : Cond.instanceMethod yX12_follows ∈ wsGB := twGB_451 _ (List.mem_cons_self : Cond.instanceMethod yX12_follows ∈ Cond.instanceMethod yX12_follows :: wtGB_452)
theorem twGB_452 : ∀ w ∈ wtGB_452, w ∈ wsGB := fun w h => twGB_451 w (List.mem_cons_of_mem (Cond.instanceMethod yX12_follows) h)
theorem mGB_452 : Cond.selects RX12 yX12_follows yX12_follows ∈ wsGB := twGB_452 _ (List.mem_cons_self : Cond.selects RX12 yX12_follows yX12_follows ∈ Cond.selects RX12 yX12_follows yX12_follows :: wtGB_453)
theorem twGB_453 : ∀ w ∈ wtGB_453, w ∈ wsGB := fun w h => twGB_452 w (List.mem_cons_of_mem (Cond.selects RX12 yX12_follows yX12_follows) h)
theorem mGB_453 : Cond.code yX12_follows cX12_follows 6 none ∈ wsGB := twGB_453 _ (List.mem_cons_self : Cond.code yX12_follows cX12_follows 6 none ∈ Cond.code yX12_follows cX12_follows 6 none :: wtGB_454)
theorem twGB_454 : ∀ w ∈ wtGB_454, w ∈ wsGB := fun w h => twGB_453 w (List.mem_cons_of_mem (Cond.code yX12_follows cX12_follows 6 none) h)
theorem mGB_454 : Cond.fieldLink RX12 426 "SightedMonthsModel" "latestChange" "I" ∈ wsGB := twGB_454 _ (List.mem_cons_self : Cond.fieldLink RX12 426 "SightedMonthsModel" "latestChange" "I" ∈ Cond.fieldLink RX12 426 "SightedMonthsModel" "latestChange" "I" :: wtGB_455)
theorem twGB_455 : ∀ w ∈ wtGB_455, w ∈ wsGB := fun w h => twGB_454 w (List.mem_cons_of_mem (Cond.fieldLink RX12 426 "SightedMonthsModel" "latestChange" "I") h)
theorem mGB_455 : Cond.methodLink RX12 429 yX12_dueBy ∈ wsGB := twGB_455 _ (List.mem_cons_self : Cond.methodLink RX12 429 yX12_dueBy ∈ Cond.methodLink RX12 429 yX12_dueBy :: wtGB_456)
theorem twGB_456 : ∀ w ∈ wtGB_456, w ∈ wsGB := fun w h => twGB_455 w (List.mem_cons_of_mem (Cond.methodLink RX12 429 yX12_dueBy) h)
theorem mGB_456 : Cond.instanceMethod yX12_dueBy ∈ wsGB := twGB_456 _ (List.mem_cons_self : Cond.instanceMethod yX12_dueBy ∈ Cond.instanceMethod yX12_dueBy :: wtGB_457)
theorem twGB_457 : ∀ w ∈ wtGB_457, w ∈ wsGB := fun w h => twGB_456 w (List.mem_cons_of_mem (Cond.instanceMethod yX12_dueBy) h)
theorem mGB_457 : Cond.selects RX12 yX12_dueBy yX12_dueBy ∈ wsGB := twGB_457 _ (List.mem_cons_self : Cond.selects RX12 yX12_dueBy yX12_dueBy ∈ Cond.selects RX12 yX12_dueBy yX12_dueBy :: wtGB_458)
theorem twGB_458 : ∀ w ∈ wtGB_458, w ∈ wsGB := fun w h => twGB_457 w (List.mem_cons_of_mem (Cond.selects RX12 yX12_dueBy yX12_dueBy) h)
theorem mGB_458 : Cond.code yX12_dueBy cX12_dueBy 2 (some .int) ∈ wsGB := twGB_458 _ (List.mem_cons_self : Cond.code yX12_dueBy cX12_dueBy 2 (some .int) ∈ Cond.code yX12_dueBy cX12_dueBy 2 (some .int) :: wtGB_459)
theorem twGB_459 : ∀ w ∈ wtGB_459, w ∈ wsGB := fun w h => twGB_458 w (List.mem_cons_of_mem (Cond.code yX12_dueBy cX12_dueBy 2 (some .int)) h)
theorem mGB_459 : Cond.methodLink RX12 438 yX12_monthOf ∈ wsGB := twGB_459 _ (List.mem_cons_self : Cond.methodLink RX12 438 yX12_monthOf ∈ Cond.methodLink RX12 438 yX12_monthOf :: wtGB_460)
theorem twGB_460 : ∀ w ∈ wtGB_460, w ∈ wsGB := fun w h => twGB_459 w (List.mem_cons_of_mem (Cond.methodLink RX12 438 yX12_monthOf) h)
theorem mGB_460 : Cond.instanceMethod yX12_monthOf ∈ wsGB := twGB_460 _ (List.mem_cons_self : Cond.instanceMethod yX12_monthOf ∈ Cond.instanceMethod yX12_monthOf :: wtGB_461)
theorem twGB_461 : ∀ w ∈ wtGB_461, w ∈ wsGB := fun w h => twGB_460 w (List.mem_cons_of_mem (Cond.instanceMethod yX12_monthOf) h)
theorem mGB_461 : Cond.selects RX12 yX12_monthOf yX12_monthOf ∈ wsGB := twGB_461 _ (List.mem_cons_self : Cond.selects RX12 yX12_monthOf yX12_monthOf ∈ Cond.selects RX12 yX12_monthOf yX12_monthOf :: wtGB_462)
theorem twGB_462 : ∀ w ∈ wtGB_462, w ∈ wsGB := fun w h => twGB_461 w (List.mem_cons_of_mem (Cond.selects RX12 yX12_monthOf yX12_monthOf) h)
theorem mGB_462 : Cond.code yX12_monthOf cX12_monthOf 2 (some .int) ∈ wsGB := twGB_462 _ (List.mem_cons_self : Cond.code yX12_monthOf cX12_monthOf 2 (some .int) ∈ Cond.code yX12_monthOf cX12_monthOf 2 (some .int) :: wtGB_463)
theorem twGB_463 : ∀ w ∈ wtGB_463, w ∈ wsGB := fun w h => twGB_462 w (List.mem_cons_of_mem (Cond.code yX12_monthOf cX12_monthOf 2 (some .int)) h)
theorem mGB_463 : Cond.methodLink RX12 441 yX12_behindOf ∈ wsGB := twGB_463 _ (List.mem_cons_self : Cond.methodLink RX12 441 yX12_behindOf ∈ Cond.methodLink RX12 441 yX12_behindOf :: wtGB_464)
theorem twGB_464 : ∀ w ∈ wtGB_464, w ∈ wsGB := fun w h => twGB_463 w (List.mem_cons_of_mem (Cond.methodLink RX12 441 yX12_behindOf) h)
theorem mGB_464 : Cond.instanceMethod yX12_behindOf ∈ wsGB := twGB_464 _ (List.mem_cons_self : Cond.instanceMethod yX12_behindOf ∈ Cond.instanceMethod yX12_behindOf :: wtGB_465)
theorem twGB_465 : ∀ w ∈ wtGB_465, w ∈ wsGB := fun w h => twGB_464 w (List.mem_cons_of_mem (Cond.instanceMethod yX12_behindOf) h)
theorem mGB_465 : Cond.selects RX12 yX12_behindOf yX12_behindOf ∈ wsGB := twGB_465 _ (List.mem_cons_self : Cond.selects RX12 yX12_behindOf yX12_behindOf ∈ Cond.selects RX12 yX12_behindOf yX12_behindOf :: wtGB_466)
theorem twGB_466 : ∀ w ∈ wtGB_466, w ∈ wsGB := fun w h => twGB_465 w (List.mem_cons_of_mem (Cond.selects RX12 yX12_behindOf yX12_behindOf) h)
theorem mGB_466 : Cond.code yX12_behindOf cX12_behindOf 2 (some .int) ∈ wsGB := twGB_466 _ (List.mem_cons_self : Cond.code yX12_behindOf cX12_behindOf 2 (some .int) ∈ Cond.code yX12_behindOf cX12_behindOf 2 (some .int) :: wtGB_467)
theorem twGB_467 : ∀ w ∈ wtGB_467, w ∈ wsGB := fun w h => twGB_466 w (List.mem_cons_of_mem (Cond.code yX12_behindOf cX12_behindOf 2 (some .int)) h)
theorem mGB_467 : Cond.methodLink RX12 432 yX12_nextTime ∈ wsGB := twGB_467 _ (List.mem_cons_self : Cond.methodLink RX12 432 yX12_nextTime ∈ Cond.methodLink RX12 432 yX12_nextTime :: wtGB_468)
theorem twGB_468 : ∀ w ∈ wtGB_468, w ∈ wsGB := fun w h => twGB_467 w (List.mem_cons_of_mem (Cond.methodLink RX12 432 yX12_nextTime) h)
theorem mGB_468 : Cond.instanceMethod yX12_nextTime ∈ wsGB := twGB_468 _ (List.mem_cons_self : Cond.instanceMethod yX12_nextTime ∈ Cond.instanceMethod yX12_nextTime :: wtGB_469)
theorem twGB_469 : ∀ w ∈ wtGB_469, w ∈ wsGB := fun w h => twGB_468 w (List.mem_cons_of_mem (Cond.instanceMethod yX12_nextTime) h)
theorem mGB_469 : Cond.selects RX12 yX12_nextTime yX12_nextTime ∈ wsGB := twGB_469 _ (List.mem_cons_self : Cond.selects RX12 yX12_nextTime yX12_nextTime ∈ Cond.selects RX12 yX12_nextTime yX12_nextTime :: wtGB_470)
theorem twGB_470 : ∀ w ∈ wtGB_470, w ∈ wsGB := fun w h => twGB_469 w (List.mem_cons_of_mem (Cond.selects RX12 yX12_nextTime yX12_nextTime) h)
theorem mGB_470 : Cond.code yX12_nextTime cX12_nextTime 4 (some .int) ∈ wsGB := twGB_470 _ (List.mem_cons_self : Cond.code yX12_nextTime cX12_nextTime 4 (some .int) ∈ Cond.code yX12_nextTime cX12_nextTime 4 (some .int) :: wtGB_471)
theorem twGB_471 : ∀ w ∈ wtGB_471, w ∈ wsGB := fun w h => twGB_470 w (List.mem_cons_of_mem (Cond.code yX12_nextTime cX12_nextTime 4 (some .int)) h)
theorem mGB_471 : Cond.instanceMethod yX12_settled ∈ wsGB := twGB_471 _ (List.mem_cons_self : Cond.instanceMethod yX12_settled ∈ Cond.instanceMethod yX12_settled :: wtGB_472)
theorem twGB_472 : ∀ w ∈ wtGB_472, w ∈ wsGB := fun w h => twGB_471 w (List.mem_cons_of_mem (Cond.instanceMethod yX12_settled) h)
theorem mGB_472 : Cond.selects RX12 yX12_settled yX12_settled ∈ wsGB := twGB_472 _ (List.mem_cons_self : Cond.selects RX12 yX12_settled yX12_settled ∈ Cond.selects RX12 yX12_settled yX12_settled :: wtGB_473)
theorem twGB_473 : ∀ w ∈ wtGB_473, w ∈ wsGB := fun w h => twGB_472 w (List.mem_cons_of_mem (Cond.selects RX12 yX12_settled yX12_settled) h)
theorem mGB_473 : Cond.code yX12_settled cX12_settled 2 (some .int) ∈ wsGB := twGB_473 _ (List.mem_cons_self : Cond.code yX12_settled cX12_settled 2 (some .int) ∈ Cond.code yX12_settled cX12_settled 2 (some .int) :: wtGB_474)
theorem twGB_474 : ∀ w ∈ wtGB_474, w ∈ wsGB := fun w h => twGB_473 w (List.mem_cons_of_mem (Cond.code yX12_settled cX12_settled 2 (some .int)) h)
theorem mGB_474 : Cond.instanceMethod yX12_due ∈ wsGB := twGB_474 _ (List.mem_cons_self : Cond.instanceMethod yX12_due ∈ Cond.instanceMethod yX12_due :: wtGB_475)
theorem twGB_475 : ∀ w ∈ wtGB_475, w ∈ wsGB := fun w h => twGB_474 w (List.mem_cons_of_mem (Cond.instanceMethod yX12_due) h)
theorem mGB_475 : Cond.selects RX12 yX12_due yX12_due ∈ wsGB := twGB_475 _ (List.mem_cons_self : Cond.selects RX12 yX12_due yX12_due ∈ Cond.selects RX12 yX12_due yX12_due :: wtGB_476)
theorem twGB_476 : ∀ w ∈ wtGB_476, w ∈ wsGB := fun w h => twGB_475 w (List.mem_cons_of_mem (Cond.selects RX12 yX12_due yX12_due) h)
theorem mGB_476 : Cond.code yX12_due cX12_due 3 (some .int) ∈ wsGB := twGB_476 _ (List.mem_cons_self : Cond.code yX12_due cX12_due 3 (some .int) ∈ Cond.code yX12_due cX12_due 3 (some .int) :: wtGB_477)
theorem twGB_477 : ∀ w ∈ wtGB_477, w ∈ wsGB := fun w h => twGB_476 w (List.mem_cons_of_mem (Cond.code yX12_due cX12_due 3 (some .int)) h)
theorem mGB_477 : Cond.instanceMethod yX12_dueSpan ∈ wsGB := twGB_477 _ (List.mem_cons_self : Cond.instanceMethod yX12_dueSpan ∈ Cond.instanceMethod yX12_dueSpan :: wtGB_478)
theorem twGB_478 : ∀ w ∈ wtGB_478, w ∈ wsGB := fun w h => twGB_477 w (List.mem_cons_of_mem (Cond.instanceMethod yX12_dueSpan) h)
theorem mGB_478 : Cond.selects RX12 yX12_dueSpan yX12_dueSpan ∈ wsGB := twGB_478 _ (List.mem_cons_self : Cond.selects RX12 yX12_dueSpan yX12_dueSpan ∈ Cond.selects RX12 yX12_dueSpan yX12_dueSpan :: wtGB_479)
theorem twGB_479 : ∀ w ∈ wtGB_479, w ∈ wsGB := fun w h => twGB_478 w (List.mem_cons_of_mem (Cond.selects RX12 yX12_dueSpan yX12_dueSpan) h)
theorem mGB_479 : Cond.code yX12_dueSpan cX12_dueSpan 4 (some .int) ∈ wsGB := twGB_479 _ (List.mem_cons_self : Cond.code yX12_dueSpan cX12_dueSpan 4 (some .int) ∈ Cond.code yX12_dueSpan cX12_dueSpan 4 (some .int) :: wtGB_480)
theorem twGB_480 : ∀ w ∈ wtGB_480, w ∈ wsGB := fun w h => twGB_479 w (List.mem_cons_of_mem (Cond.code yX12_dueSpan cX12_dueSpan 4 (some .int)) h)
theorem mGB_480 : Cond.methodLink RX12 447 yX12_dueSpanOf ∈ wsGB := twGB_480 _ (List.mem_cons_self : Cond.methodLink RX12 447 yX12_dueSpanOf ∈ Cond.methodLink RX12 447 yX12_dueSpanOf :: wtGB_481)
theorem twGB_481 : ∀ w ∈ wtGB_481, w ∈ wsGB := fun w h => twGB_480 w (List.mem_cons_of_mem (Cond.methodLink RX12 447 yX12_dueSpanOf) h)
theorem mGB_481 : Cond.instanceMethod yX12_dueSpanOf ∈ wsGB := twGB_481 _ (List.mem_cons_self : Cond.instanceMethod yX12_dueSpanOf ∈ Cond.instanceMethod yX12_dueSpanOf :: wtGB_482)
theorem twGB_482 : ∀ w ∈ wtGB_482, w ∈ wsGB := fun w h => twGB_481 w (List.mem_cons_of_mem (Cond.instanceMethod yX12_dueSpanOf) h)
theorem mGB_482 : Cond.selects RX12 yX12_dueSpanOf yX12_dueSpanOf ∈ wsGB := twGB_482 _ (List.mem_cons_self : Cond.selects RX12 yX12_dueSpanOf yX12_dueSpanOf ∈ Cond.selects RX12 yX12_dueSpanOf yX12_dueSpanOf :: wtGB_483)
theorem twGB_483 : ∀ w ∈ wtGB_483, w ∈ wsGB := fun w h => twGB_482 w (List.mem_cons_of_mem (Cond.selects RX12 yX12_dueSpanOf yX12_dueSpanOf) h)
theorem mGB_483 : Cond.code yX12_dueSpanOf cX12_dueSpanOf 7 (some .int) ∈ wsGB := twGB_483 _ (List.mem_cons_self : Cond.code yX12_dueSpanOf cX12_dueSpanOf 7 (some .int) ∈ Cond.code yX12_dueSpanOf cX12_dueSpanOf 7 (some .int) :: wtGB_484)
theorem twGB_484 : ∀ w ∈ wtGB_484, w ∈ wsGB := fun w h => twGB_483 w (List.mem_cons_of_mem (Cond.code yX12_dueSpanOf cX12_dueSpanOf 7 (some .int)) h)
theorem mGB_484 : Cond.methodLink RX12 444 yX12_duesOn ∈ wsGB := twGB_484 _ (List.mem_cons_self : Cond.methodLink RX12 444 yX12_duesOn ∈ Cond.methodLink RX12 444 yX12_duesOn :: wtGB_485)
theorem twGB_485 : ∀ w ∈ wtGB_485, w ∈ wsGB := fun w h => twGB_484 w (List.mem_cons_of_mem (Cond.methodLink RX12 444 yX12_duesOn) h)
theorem mGB_485 : Cond.instanceMethod yX12_duesOn ∈ wsGB := twGB_485 _ (List.mem_cons_self : Cond.instanceMethod yX12_duesOn ∈ Cond.instanceMethod yX12_duesOn :: wtGB_486)
theorem twGB_486 : ∀ w ∈ wtGB_486, w ∈ wsGB := fun w h => twGB_485 w (List.mem_cons_of_mem (Cond.instanceMethod yX12_duesOn) h)
theorem mGB_486 : Cond.selects RX12 yX12_duesOn yX12_duesOn ∈ wsGB := twGB_486 _ (List.mem_cons_self : Cond.selects RX12 yX12_duesOn yX12_duesOn ∈ Cond.selects RX12 yX12_duesOn yX12_duesOn :: wtGB_487)
theorem twGB_487 : ∀ w ∈ wtGB_487, w ∈ wsGB := fun w h => twGB_486 w (List.mem_cons_of_mem (Cond.selects RX12 yX12_duesOn yX12_duesOn) h)
theorem mGB_487 : Cond.code yX12_duesOn cX12_duesOn 4 (some .int) ∈ wsGB := twGB_487 _ (List.mem_cons_self : Cond.code yX12_duesOn cX12_duesOn 4 (some .int) ∈ Cond.code yX12_duesOn cX12_duesOn 4 (some .int) :: wtGB_488)
theorem twGB_488 : ∀ w ∈ wtGB_488, w ∈ wsGB := fun w h => twGB_487 w (List.mem_cons_of_mem (Cond.code yX12_duesOn cX12_duesOn 4 (some .int)) h)
theorem mGB_488 : Cond.methodLink RX12 420 yX12_fallsOn ∈ wsGB := twGB_488 _ (List.mem_cons_self : Cond.methodLink RX12 420 yX12_fallsOn ∈ Cond.methodLink RX12 420 yX12_fallsOn :: wtGB_489)
theorem twGB_489 : ∀ w ∈ wtGB_489, w ∈ wsGB := fun w h => twGB_488 w (List.mem_cons_of_mem (Cond.methodLink RX12 420 yX12_fallsOn) h)
theorem mGB_489 : Cond.instanceMethod yX12_fallsOn ∈ wsGB := twGB_489 _ (List.mem_cons_self : Cond.instanceMethod yX12_fallsOn ∈ Cond.instanceMethod yX12_fallsOn :: wtGB_490)
theorem twGB_490 : ∀ w ∈ wtGB_490, w ∈ wsGB := fun w h => twGB_489 w (List.mem_cons_of_mem (Cond.instanceMethod yX12_fallsOn) h)
theorem mGB_490 : Cond.selects RX12 yX12_fallsOn yX12_fallsOn ∈ wsGB := twGB_490 _ (List.mem_cons_self : Cond.selects RX12 yX12_fallsOn yX12_fallsOn ∈ Cond.selects RX12 yX12_fallsOn yX12_fallsOn :: wtGB_491)
theorem twGB_491 : ∀ w ∈ wtGB_491, w ∈ wsGB := fun w h => twGB_490 w (List.mem_cons_of_mem (Cond.selects RX12 yX12_fallsOn yX12_fallsOn) h)
theorem mGB_491 : Cond.code yX12_fallsOn cX12_fallsOn 5 (some .int) ∈ wsGB := twGB_491 _ (List.mem_cons_self : Cond.code yX12_fallsOn cX12_fallsOn 5 (some .int) ∈ Cond.code yX12_fallsOn cX12_fallsOn 5 (some .int) :: wtGB_492)
theorem twGB_492 : ∀ w ∈ wtGB_492, w ∈ wsGB := fun w h => twGB_491 w (List.mem_cons_of_mem (Cond.code yX12_fallsOn cX12_fallsOn 5 (some .int)) h)
theorem mGB_492 : Cond.instanceMethod yX12_dueOn ∈ wsGB := twGB_492 _ (List.mem_cons_self : Cond.instanceMethod yX12_dueOn ∈ Cond.instanceMethod yX12_dueOn :: wtGB_493)
theorem twGB_493 : ∀ w ∈ wtGB_493, w ∈ wsGB := fun w h => twGB_492 w (List.mem_cons_of_mem (Cond.instanceMethod yX12_dueOn) h)
theorem mGB_493 : Cond.selects RX12 yX12_dueOn yX12_dueOn ∈ wsGB := twGB_493 _ (List.mem_cons_self : Cond.selects RX12 yX12_dueOn yX12_dueOn ∈ Cond.selects RX12 yX12_dueOn yX12_dueOn :: wtGB_494)
theorem twGB_494 : ∀ w ∈ wtGB_494, w ∈ wsGB := fun w h => twGB_493 w (List.mem_cons_of_mem (Cond.selects RX12 yX12_dueOn yX12_dueOn) h)
theorem mGB_494 : Cond.code yX12_dueOn cX12_dueOn 4 (some .int) ∈ wsGB := twGB_494 _ (List.mem_cons_self : Cond.code yX12_dueOn cX12_dueOn 4 (some .int) ∈ Cond.code yX12_dueOn cX12_dueOn 4 (some .int) :: wtGB_495)
theorem twGB_495 : ∀ w ∈ wtGB_495, w ∈ wsGB := fun w h => twGB_494 w (List.mem_cons_of_mem (Cond.code yX12_dueOn cX12_dueOn 4 (some .int)) h)
theorem mGB_495 : Cond.instanceMethod yX12_redated ∈ wsGB := twGB_495 _ (List.mem_cons_self : Cond.instanceMethod yX12_redated ∈ Cond.instanceMethod yX12_redated :: wtGB_496)
theorem twGB_496 : ∀ w ∈ wtGB_496, w ∈ wsGB := fun w h => twGB_495 w (List.mem_cons_of_mem (Cond.instanceMethod yX12_redated) h)
theorem mGB_496 : Cond.selects RX12 yX12_redated yX12_redated ∈ wsGB := twGB_496 _ (List.mem_cons_self : Cond.selects RX12 yX12_redated yX12_redated ∈ Cond.selects RX12 yX12_redated yX12_redated :: wtGB_497)
theorem twGB_497 : ∀ w ∈ wtGB_497, w ∈ wsGB := fun w h => twGB_496 w (List.mem_cons_of_mem (Cond.selects RX12 yX12_redated yX12_redated) h)
theorem mGB_497 : Cond.code yX12_redated cX12_redated 2 (some .int) ∈ wsGB := twGB_497 _ (List.mem_cons_self : Cond.code yX12_redated cX12_redated 2 (some .int) ∈ Cond.code yX12_redated cX12_redated 2 (some .int) :: wtGB_498)
theorem twGB_498 : ∀ w ∈ wtGB_498, w ∈ wsGB := fun w h => twGB_497 w (List.mem_cons_of_mem (Cond.code yX12_redated cX12_redated 2 (some .int)) h)
theorem mGB_498 : Cond.instanceMethod yX12_longer ∈ wsGB := twGB_498 _ (List.mem_cons_self : Cond.instanceMethod yX12_longer ∈ Cond.instanceMethod yX12_longer :: wtGB_499)
theorem twGB_499 : ∀ w ∈ wtGB_499, w ∈ wsGB := fun w h => twGB_498 w (List.mem_cons_of_mem (Cond.instanceMethod yX12_longer) h)
theorem mGB_499 : Cond.selects RX12 yX12_longer yX12_longer ∈ wsGB := twGB_499 _ (List.mem_cons_self : Cond.selects RX12 yX12_longer yX12_longer ∈ Cond.selects RX12 yX12_longer yX12_longer :: wtGB_500)
theorem twGB_500 : ∀ w ∈ wtGB_500, w ∈ wsGB := fun w h => twGB_499 w (List.mem_cons_of_mem (Cond.selects RX12 yX12_longer yX12_longer) h)
theorem mGB_500 : Cond.code yX12_longer cX12_longer 8 (some .int) ∈ wsGB := twGB_500 _ (List.mem_cons_self : Cond.code yX12_longer cX12_longer 8 (some .int) ∈ Cond.code yX12_longer cX12_longer 8 (some .int) :: wtGB_501)
theorem twGB_501 : ∀ w ∈ wtGB_501, w ∈ wsGB := fun w h => twGB_500 w (List.mem_cons_of_mem (Cond.code yX12_longer cX12_longer 8 (some .int)) h)
theorem mGB_501 : Cond.fieldLink RX12 450 "SightedMonthsModel" "canBeLess" "Z" ∈ wsGB := twGB_501 _ (List.mem_cons_self : Cond.fieldLink RX12 450 "SightedMonthsModel" "canBeLess" "Z" ∈ Cond.fieldLink RX12 450 "SightedMonthsModel" "canBeLess" "Z" :: wtGB_502)
theorem twGB_502 : ∀ w ∈ wtGB_502, w ∈ wsGB := fun w h => twGB_501 w (List.mem_cons_of_mem (Cond.fieldLink RX12 450 "SightedMonthsModel" "canBeLess" "Z") h)
theorem mGB_502 : Cond.fieldLink RX12 453 "SightedMonthsModel" "canBeMore" "Z" ∈ wsGB := twGB_502 _ (List.mem_cons_self : Cond.fieldLink RX12 453 "SightedMonthsModel" "canBeMore" "Z" ∈ Cond.fieldLink RX12 453 "SightedMonthsModel" "canBeMore" "Z" :: wtGB_503)
theorem twGB_503 : ∀ w ∈ wtGB_503, w ∈ wsGB := fun w h => twGB_502 w (List.mem_cons_of_mem (Cond.fieldLink RX12 453 "SightedMonthsModel" "canBeMore" "Z") h)
theorem mGB_503 : Cond.methodLink RX12 456 yX12_compares ∈ wsGB := twGB_503 _ (List.mem_cons_self : Cond.methodLink RX12 456 yX12_compares ∈ Cond.methodLink RX12 456 yX12_compares :: wtGB_504)
theorem twGB_504 : ∀ w ∈ wtGB_504, w ∈ wsGB := fun w h => twGB_503 w (List.mem_cons_of_mem (Cond.methodLink RX12 456 yX12_compares) h)
theorem mGB_504 : Cond.instanceMethod yX12_compares ∈ wsGB := twGB_504 _ (List.mem_cons_self : Cond.instanceMethod yX12_compares ∈ Cond.instanceMethod yX12_compares :: wtGB_505)
theorem twGB_505 : ∀ w ∈ wtGB_505, w ∈ wsGB := fun w h => twGB_504 w (List.mem_cons_of_mem (Cond.instanceMethod yX12_compares) h)
theorem mGB_505 : Cond.selects RX12 yX12_compares yX12_compares ∈ wsGB := twGB_505 _ (List.mem_cons_self : Cond.selects RX12 yX12_compares yX12_compares ∈ Cond.selects RX12 yX12_compares yX12_compares :: wtGB_506)
theorem twGB_506 : ∀ w ∈ wtGB_506, w ∈ wsGB := fun w h => twGB_505 w (List.mem_cons_of_mem (Cond.selects RX12 yX12_compares yX12_compares) h)
theorem mGB_506 : Cond.code yX12_compares cX12_compares 5 none ∈ wsGB := twGB_506 _ (List.mem_cons_self : Cond.code yX12_compares cX12_compares 5 none ∈ Cond.code yX12_compares cX12_compares 5 none :: wtGB_507)
theorem twGB_507 : ∀ w ∈ wtGB_507, w ∈ wsGB := fun w h => twGB_506 w (List.mem_cons_of_mem (Cond.code yX12_compares cX12_compares 5 none) h)
theorem mGB_507 : Cond.instanceMethod yX12_own ∈ wsGB := twGB_507 _ (List.mem_cons_self : Cond.instanceMethod yX12_own ∈ Cond.instanceMethod yX12_own :: wtGB_508)
theorem twGB_508 : ∀ w ∈ wtGB_508, w ∈ wsGB := fun w h => twGB_507 w (List.mem_cons_of_mem (Cond.instanceMethod yX12_own) h)
theorem mGB_508 : Cond.selects RX12 yX12_own yX12_own ∈ wsGB := twGB_508 _ (List.mem_cons_self : Cond.selects RX12 yX12_own yX12_own ∈ Cond.selects RX12 yX12_own yX12_own :: wtGB_509)
theorem twGB_509 : ∀ w ∈ wtGB_509, w ∈ wsGB := fun w h => twGB_508 w (List.mem_cons_of_mem (Cond.selects RX12 yX12_own yX12_own) h)
theorem mGB_509 : Cond.code yX12_own cX12_own 4 (some .int) ∈ wsGB := twGB_509 _ (List.mem_cons_self : Cond.code yX12_own cX12_own 4 (some .int) ∈ Cond.code yX12_own cX12_own 4 (some .int) :: wtGB_510)
theorem twGB_510 : ∀ w ∈ wtGB_510, w ∈ wsGB := fun w h => twGB_509 w (List.mem_cons_of_mem (Cond.code yX12_own cX12_own 4 (some .int)) h)
theorem mGB_510 : Cond.methodLink RX12 459 yX12_ownBy ∈ wsGB := twGB_510 _ (List.mem_cons_self : Cond.methodLink RX12 459 yX12_ownBy ∈ Cond.methodLink RX12 459 yX12_ownBy :: wtGB_511)
theorem twGB_511 : ∀ w ∈ wtGB_511, w ∈ wsGB := fun w h => twGB_510 w (List.mem_cons_of_mem (Cond.methodLink RX12 459 yX12_ownBy) h)
theorem mGB_511 : Cond.instanceMethod yX12_ownBy ∈ wsGB := twGB_511 _ (List.mem_cons_self : Cond.instanceMethod yX12_ownBy ∈ Cond.instanceMethod yX12_ownBy :: wtGB_512)
theorem twGB_512 : ∀ w ∈ wtGB_512, w ∈ wsGB := fun w h => twGB_511 w (List.mem_cons_of_mem (Cond.instanceMethod yX12_ownBy) h)
theorem mGB_512 : Cond.selects RX12 yX12_ownBy yX12_ownBy ∈ wsGB := twGB_512 _ (List.mem_cons_self : Cond.selects RX12 yX12_ownBy yX12_ownBy ∈ Cond.selects RX12 yX12_ownBy yX12_ownBy :: wtGB_513)
theorem twGB_513 : ∀ w ∈ wtGB_513, w ∈ wsGB := fun w h => twGB_512 w (List.mem_cons_of_mem (Cond.selects RX12 yX12_ownBy yX12_ownBy) h)
theorem mGB_513 : Cond.code yX12_ownBy cX12_ownBy 3 none ∈ wsGB := twGB_513 _ (List.mem_cons_self : Cond.code yX12_ownBy cX12_ownBy 3 none ∈ Cond.code yX12_ownBy cX12_ownBy 3 none :: wtGB_514)
theorem twGB_514 : ∀ w ∈ wtGB_514, w ∈ wsGB := fun w h => twGB_513 w (List.mem_cons_of_mem (Cond.code yX12_ownBy cX12_ownBy 3 none) h)
theorem mGB_514 : Cond.instanceMethod yX12_apart ∈ wsGB := twGB_514 _ (List.mem_cons_self : Cond.instanceMethod yX12_apart ∈ Cond.instanceMethod yX12_apart :: wtGB_515)
theorem twGB_515 : ∀ w ∈ wtGB_515, w ∈ wsGB := fun w h => twGB_514 w (List.mem_cons_of_mem (Cond.instanceMethod yX12_apart) h)
theorem mGB_515 : Cond.selects RX12 yX12_apart yX12_apart ∈ wsGB := twGB_515 _ (List.mem_cons_self : Cond.selects RX12 yX12_apart yX12_apart ∈ Cond.selects RX12 yX12_apart yX12_apart :: wtGB_516)
theorem twGB_516 : ∀ w ∈ wtGB_516, w ∈ wsGB := fun w h => twGB_515 w (List.mem_cons_of_mem (Cond.selects RX12 yX12_apart yX12_apart) h)
theorem mGB_516 : Cond.code yX12_apart cX12_apart 4 (some .int) ∈ wsGB := twGB_516 _ (List.mem_cons_self : Cond.code yX12_apart cX12_apart 4 (some .int) ∈ Cond.code yX12_apart cX12_apart 4 (some .int) :: wtGB_517)
theorem twGB_517 : ∀ w ∈ wtGB_517, w ∈ wsGB := fun w h => twGB_516 w (List.mem_cons_of_mem (Cond.code yX12_apart cX12_apart 4 (some .int)) h)
theorem mGB_517 : Cond.methodLink RX12 462 yX12_keepsOfficial ∈ wsGB := twGB_517 _ (List.mem_cons_self : Cond.methodLink RX12 462 yX12_keepsOfficial ∈ Cond.methodLink RX12 462 yX12_keepsOfficial :: wtGB_518)
theorem twGB_518 : ∀ w ∈ wtGB_518, w ∈ wsGB := fun w h => twGB_517 w (List.mem_cons_of_mem (Cond.methodLink RX12 462 yX12_keepsOfficial) h)
theorem mGB_518 : Cond.instanceMethod yX12_keepsOfficial ∈ wsGB := twGB_518 _ (List.mem_cons_self : Cond.instanceMethod yX12_keepsOfficial ∈ Cond.instanceMethod yX12_keepsOfficial :: wtGB_519)
theorem twGB_519 : ∀ w ∈ wtGB_519, w ∈ wsGB := fun w h => twGB_518 w (List.mem_cons_of_mem (Cond.instanceMethod yX12_keepsOfficial) h)
theorem mGB_519 : Cond.selects RX12 yX12_keepsOfficial yX12_keepsOfficial ∈ wsGB := twGB_519 _ (List.mem_cons_self : Cond.selects RX12 yX12_keepsOfficial yX12_keepsOfficial ∈ Cond.selects RX12 yX12_keepsOfficial yX12_keepsOfficial :: wtGB_520)
theorem twGB_520 : ∀ w ∈ wtGB_520, w ∈ wsGB := fun w h => twGB_519 w (List.mem_cons_of_mem (Cond.selects RX12 yX12_keepsOfficial yX12_keepsOfficial) h)
theorem mGB_520 : Cond.code yX12_keepsOfficial cX12_keepsOfficial 2 none ∈ wsGB := twGB_520 _ (List.mem_cons_self : Cond.code yX12_keepsOfficial cX12_keepsOfficial 2 none ∈ Cond.code yX12_keepsOfficial cX12_keepsOfficial 2 none :: wtGB_521)
theorem twGB_521 : ∀ w ∈ wtGB_521, w ∈ wsGB := fun w h => twGB_520 w (List.mem_cons_of_mem (Cond.code yX12_keepsOfficial cX12_keepsOfficial 2 none) h)
theorem mGB_521 : Cond.methodLink RX12 465 yX12_unlike ∈ wsGB := twGB_521 _ (List.mem_cons_self : Cond.methodLink RX12 465 yX12_unlike ∈ Cond.methodLink RX12 465 yX12_unlike :: wtGB_522)
theorem twGB_522 : ∀ w ∈ wtGB_522, w ∈ wsGB := fun w h => twGB_521 w (List.mem_cons_of_mem (Cond.methodLink RX12 465 yX12_unlike) h)
theorem mGB_522 : Cond.instanceMethod yX12_unlike ∈ wsGB := twGB_522 _ (List.mem_cons_self : Cond.instanceMethod yX12_unlike ∈ Cond.instanceMethod yX12_unlike :: wtGB_523)
theorem twGB_523 : ∀ w ∈ wtGB_523, w ∈ wsGB := fun w h => twGB_522 w (List.mem_cons_of_mem (Cond.instanceMethod yX12_unlike) h)
theorem mGB_523 : Cond.selects RX12 yX12_unlike yX12_unlike ∈ wsGB := twGB_523 _ (List.mem_cons_self : Cond.selects RX12 yX12_unlike yX12_unlike ∈ Cond.selects RX12 yX12_unlike yX12_unlike :: wtGB_524)
theorem twGB_524 : ∀ w ∈ wtGB_524, w ∈ wsGB := fun w h => twGB_523 w (List.mem_cons_of_mem (Cond.selects RX12 yX12_unlike yX12_unlike) h)
theorem mGB_524 : Cond.code yX12_unlike cX12_unlike 3 (some .int) ∈ wsGB := twGB_524 _ (List.mem_cons_self : Cond.code yX12_unlike cX12_unlike 3 (some .int) ∈ Cond.code yX12_unlike cX12_unlike 3 (some .int) :: wtGB_525)
theorem twGB_525 : ∀ w ∈ wtGB_525, w ∈ wsGB := fun w h => twGB_524 w (List.mem_cons_of_mem (Cond.code yX12_unlike cX12_unlike 3 (some .int)) h)
theorem mGB_525 : Cond.instanceMethod yX12_hang ∈ wsGB := twGB_525 _ (List.mem_cons_self : Cond.instanceMethod yX12_hang ∈ Cond.instanceMethod yX12_hang :: wtGB_526)
theorem twGB_526 : ∀ w ∈ wtGB_526, w ∈ wsGB := fun w h => twGB_525 w (List.mem_cons_of_mem (Cond.instanceMethod yX12_hang) h)
theorem mGB_526 : Cond.selects RX12 yX12_hang yX12_hang ∈ wsGB := twGB_526 _ (List.mem_cons_self : Cond.selects RX12 yX12_hang yX12_hang ∈ Cond.selects RX12 yX12_hang yX12_hang :: wtGB_527)
theorem twGB_527 : ∀ w ∈ wtGB_527, w ∈ wsGB := fun w h => twGB_526 w (List.mem_cons_of_mem (Cond.selects RX12 yX12_hang yX12_hang) h)
theorem mGB_527 : Cond.code yX12_hang cX12_hang 3 (some .int) ∈ wsGB := twGB_527 _ (List.mem_cons_self : Cond.code yX12_hang cX12_hang 3 (some .int) ∈ Cond.code yX12_hang cX12_hang 3 (some .int) :: wtGB_528)
theorem twGB_528 : ∀ w ∈ wtGB_528, w ∈ wsGB := fun w h => twGB_527 w (List.mem_cons_of_mem (Cond.code yX12_hang cX12_hang 3 (some .int)) h)
theorem mGB_528 : Cond.instanceMethod yX12_telling ∈ wsGB := twGB_528 _ (List.mem_cons_self : Cond.instanceMethod yX12_telling ∈ Cond.instanceMethod yX12_telling :: wtGB_529)
theorem twGB_529 : ∀ w ∈ wtGB_529, w ∈ wsGB := fun w h => twGB_528 w (List.mem_cons_of_mem (Cond.instanceMethod yX12_telling) h)
theorem mGB_529 : Cond.selects RX12 yX12_telling yX12_telling ∈ wsGB := twGB_529 _ (List.mem_cons_self : Cond.selects RX12 yX12_telling yX12_telling ∈ Cond.selects RX12 yX12_telling yX12_telling :: wtGB_530)
theorem twGB_530 : ∀ w ∈ wtGB_530, w ∈ wsGB := fun w h => twGB_529 w (List.mem_cons_of_mem (Cond.selects RX12 yX12_telling yX12_telling) h)
theorem mGB_530 : Cond.code yX12_telling cX12_telling 7 (some .int) ∈ wsGB := twGB_530 _ (List.mem_cons_self : Cond.code yX12_telling cX12_telling 7 (some .int) ∈ Cond.code yX12_telling cX12_telling 7 (some .int) :: wtGB_531)
theorem twGB_531 : ∀ w ∈ wtGB_531, w ∈ wsGB := fun w h => twGB_530 w (List.mem_cons_of_mem (Cond.code yX12_telling cX12_telling 7 (some .int)) h)
theorem mGB_531 : Cond.instanceMethod yX12_trusted ∈ wsGB := twGB_531 _ (List.mem_cons_self : Cond.instanceMethod yX12_trusted ∈ Cond.instanceMethod yX12_trusted :: wtGB_532)
theorem twGB_532 : ∀ w ∈ wtGB_532, w ∈ wsGB := fun w h => twGB_531 w (List.mem_cons_of_mem (Cond.instanceMethod yX12_trusted) h)
theorem mGB_532 : Cond.selects RX12 yX12_trusted yX12_trusted ∈ wsGB := twGB_532 _ (List.mem_cons_self : Cond.selects RX12 yX12_trusted yX12_trusted ∈ Cond.selects RX12 yX12_trusted yX12_trusted :: wtGB_533)
theorem twGB_533 : ∀ w ∈ wtGB_533, w ∈ wsGB := fun w h => twGB_532 w (List.mem_cons_of_mem (Cond.selects RX12 yX12_trusted yX12_trusted) h)
theorem mGB_533 : Cond.code yX12_trusted cX12_trusted 5 (some .int) ∈ wsGB := twGB_533 _ (List.mem_cons_self : Cond.code yX12_trusted cX12_trusted 5 (some .int) ∈ Cond.code yX12_trusted cX12_trusted 5 (some .int) :: wtGB_534)
theorem twGB_534 : ∀ w ∈ wtGB_534, w ∈ wsGB := fun w h => twGB_533 w (List.mem_cons_of_mem (Cond.code yX12_trusted cX12_trusted 5 (some .int)) h)
theorem mGB_534 : Cond.instanceMethod yX12_days ∈ wsGB := twGB_534 _ (List.mem_cons_self : Cond.instanceMethod yX12_days ∈ Cond.instanceMethod yX12_days :: wtGB_535)
theorem twGB_535 : ∀ w ∈ wtGB_535, w ∈ wsGB := fun w h => twGB_534 w (List.mem_cons_of_mem (Cond.instanceMethod yX12_days) h)
theorem mGB_535 : Cond.selects RX12 yX12_days yX12_days ∈ wsGB := twGB_535 _ (List.mem_cons_self : Cond.selects RX12 yX12_days yX12_days ∈ Cond.selects RX12 yX12_days yX12_days :: wtGB_536)
theorem twGB_536 : ∀ w ∈ wtGB_536, w ∈ wsGB := fun w h => twGB_535 w (List.mem_cons_of_mem (Cond.selects RX12 yX12_days yX12_days) h)
theorem mGB_536 : Cond.code yX12_days cX12_days 3 (some .int) ∈ wsGB := twGB_536 _ (List.mem_cons_self : Cond.code yX12_days cX12_days 3 (some .int) ∈ Cond.code yX12_days cX12_days 3 (some .int) :: wtGB_537)
theorem twGB_537 : ∀ w ∈ wtGB_537, w ∈ wsGB := fun w h => twGB_536 w (List.mem_cons_of_mem (Cond.code yX12_days cX12_days 3 (some .int)) h)
theorem mGB_537 : Cond.instanceMethod yX12_weekday ∈ wsGB := twGB_537 _ (List.mem_cons_self : Cond.instanceMethod yX12_weekday ∈ Cond.instanceMethod yX12_weekday :: wtGB_538)
theorem twGB_538 : ∀ w ∈ wtGB_538, w ∈ wsGB := fun w h => twGB_537 w (List.mem_cons_of_mem (Cond.instanceMethod yX12_weekday) h)
theorem mGB_538 : Cond.selects RX12 yX12_weekday yX12_weekday ∈ wsGB := twGB_538 _ (List.mem_cons_self : Cond.selects RX12 yX12_weekday yX12_weekday ∈ Cond.selects RX12 yX12_weekday yX12_weekday :: wtGB_539)
theorem twGB_539 : ∀ w ∈ wtGB_539, w ∈ wsGB := fun w h => twGB_538 w (List.mem_cons_of_mem (Cond.selects RX12 yX12_weekday yX12_weekday) h)
theorem mGB_539 : Cond.code yX12_weekday cX12_weekday 7 (some .int) ∈ wsGB := twGB_539 _ (List.mem_cons_self : Cond.code yX12_weekday cX12_weekday 7 (some .int) ∈ Cond.code yX12_weekday cX12_weekday 7 (some .int) :: wtGB_540)
theorem twGB_540 : ∀ w ∈ wtGB_540, w ∈ wsGB := fun w h => twGB_539 w (List.mem_cons_of_mem (Cond.code yX12_weekday cX12_weekday 7 (some .int)) h)
theorem mGB_540 : Cond.constantLong RX12 418 (6) ∈ wsGB := twGB_540 _ (List.mem_cons_self : Cond.constantLong RX12 418 (6) ∈ Cond.constantLong RX12 418 (6) :: wtGB_541)
theorem twGB_541 : ∀ w ∈ wtGB_541, w ∈ wsGB := fun w h => twGB_540 w (List.mem_cons_of_mem (Cond.constantLong RX12 418 (6)) h)
theorem mGB_541 : Cond.instanceMethod yX12_later ∈ wsGB := twGB_541 _ (List.mem_cons_self : Cond.instanceMethod yX12_later ∈ Cond.instanceMethod yX12_later :: wtGB_542)
theorem twGB_542 : ∀ w ∈ wtGB_542, w ∈ wsGB := fun w h => twGB_541 w (List.mem_cons_of_mem (Cond.instanceMethod yX12_later) h)
theorem mGB_542 : Cond.selects RX12 yX12_later yX12_later ∈ wsGB := twGB_542 _ (List.mem_cons_self : Cond.selects RX12 yX12_later yX12_later ∈ Cond.selects RX12 yX12_later yX12_later :: wtGB_543)
theorem twGB_543 : ∀ w ∈ wtGB_543, w ∈ wsGB := fun w h => twGB_542 w (List.mem_cons_of_mem (Cond.selects RX12 yX12_later yX12_later) h)
theorem mGB_543 : Cond.code yX12_later cX12_later 4 (some .int) ∈ wsGB := twGB_543 _ (List.mem_cons_self : Cond.code yX12_later cX12_later 4 (some .int) ∈ Cond.code yX12_later cX12_later 4 (some .int) :: wtGB_544)
theorem twGB_544 : ∀ w ∈ wtGB_544, w ∈ wsGB := fun w h => twGB_543 w (List.mem_cons_of_mem (Cond.code yX12_later cX12_later 4 (some .int)) h)
theorem mGB_544 : Cond.instanceMethod yX12_both ∈ wsGB := twGB_544 _ (List.mem_cons_self : Cond.instanceMethod yX12_both ∈ Cond.instanceMethod yX12_both :: wtGB_545)
theorem twGB_545 : ∀ w ∈ wtGB_545, w ∈ wsGB := fun w h => twGB_544 w (List.mem_cons_of_mem (Cond.instanceMethod yX12_both) h)
theorem mGB_545 : Cond.selects RX12 yX12_both yX12_both ∈ wsGB := twGB_545 _ (List.mem_cons_self : Cond.selects RX12 yX12_both yX12_both ∈ Cond.selects RX12 yX12_both yX12_both :: wtGB_546)
theorem twGB_546 : ∀ w ∈ wtGB_546, w ∈ wsGB := fun w h => twGB_545 w (List.mem_cons_of_mem (Cond.selects RX12 yX12_both yX12_both) h)
theorem mGB_546 : Cond.code yX12_both cX12_both 3 (some .int) ∈ wsGB := twGB_546 _ (List.mem_cons_self : Cond.code yX12_both cX12_both 3 (some .int) ∈ Cond.code yX12_both cX12_both 3 (some .int) :: wtGB_547)
theorem twGB_547 : ∀ w ∈ wtGB_547, w ∈ wsGB := fun w h => twGB_546 w (List.mem_cons_of_mem (Cond.code yX12_both cX12_both 3 (some .int)) h)
theorem mGB_547 : Cond.static Lib.Math.abs.name ∈ wsGB := twGB_547 _ (List.mem_cons_self : Cond.static Lib.Math.abs.name ∈ Cond.static Lib.Math.abs.name :: wtGB_548)
theorem twGB_548 : ∀ w ∈ wtGB_548, w ∈ wsGB := fun w h => twGB_547 w (List.mem_cons_of_mem (Cond.static Lib.Math.abs.name) h)
theorem mGB_548 : Cond.code Lib.Math.abs.name Lib.Math.abs.code 1 (some .int) ∈ wsGB := twGB_548 _ (List.mem_cons_self : Cond.code Lib.Math.abs.name Lib.Math.abs.code 1 (some .int) ∈ Cond.code Lib.Math.abs.name Lib.Math.abs.code 1 (some .int) :: wtGB_549)
theorem twGB_549 : ∀ w ∈ wtGB_549, w ∈ wsGB := fun w h => twGB_548 w (List.mem_cons_of_mem (Cond.code Lib.Math.abs.name Lib.Math.abs.code 1 (some .int)) h)
theorem mGB_549 : Cond.instanceMethod yX12_nearest ∈ wsGB := twGB_549 _ (List.mem_cons_self : Cond.instanceMethod yX12_nearest ∈ Cond.instanceMethod yX12_nearest :: wtGB_550)
theorem twGB_550 : ∀ w ∈ wtGB_550, w ∈ wsGB := fun w h => twGB_549 w (List.mem_cons_of_mem (Cond.instanceMethod yX12_nearest) h)
theorem mGB_550 : Cond.selects RX12 yX12_nearest yX12_nearest ∈ wsGB := twGB_550 _ (List.mem_cons_self : Cond.selects RX12 yX12_nearest yX12_nearest ∈ Cond.selects RX12 yX12_nearest yX12_nearest :: wtGB_551)
theorem twGB_551 : ∀ w ∈ wtGB_551, w ∈ wsGB := fun w h => twGB_550 w (List.mem_cons_of_mem (Cond.selects RX12 yX12_nearest yX12_nearest) h)
theorem mGB_551 : Cond.code yX12_nearest cX12_nearest 4 (some .int) ∈ wsGB := twGB_551 _ (List.mem_cons_self : Cond.code yX12_nearest cX12_nearest 4 (some .int) ∈ Cond.code yX12_nearest cX12_nearest 4 (some .int) :: wtGB_552)
theorem twGB_552 : ∀ w ∈ wtGB_552, w ∈ wsGB := fun w h => twGB_551 w (List.mem_cons_of_mem (Cond.code yX12_nearest cX12_nearest 4 (some .int)) h)
theorem mGB_552 : Cond.fieldLink RX12 479 "SightedMonthsModel" "worthFull" "I" ∈ wsGB := twGB_552 _ (List.mem_cons_self : Cond.fieldLink RX12 479 "SightedMonthsModel" "worthFull" "I" ∈ Cond.fieldLink RX12 479 "SightedMonthsModel" "worthFull" "I" :: wtGB_553)
theorem twGB_553 : ∀ w ∈ wtGB_553, w ∈ wsGB := fun w h => twGB_552 w (List.mem_cons_of_mem (Cond.fieldLink RX12 479 "SightedMonthsModel" "worthFull" "I") h)
theorem mGB_553 : Cond.methodLink RX12 482 yX12_laysWorth ∈ wsGB := twGB_553 _ (List.mem_cons_self : Cond.methodLink RX12 482 yX12_laysWorth ∈ Cond.methodLink RX12 482 yX12_laysWorth :: wtGB_554)
theorem twGB_554 : ∀ w ∈ wtGB_554, w ∈ wsGB := fun w h => twGB_553 w (List.mem_cons_of_mem (Cond.methodLink RX12 482 yX12_laysWorth) h)
theorem mGB_554 : Cond.instanceMethod yX12_laysWorth ∈ wsGB := twGB_554 _ (List.mem_cons_self : Cond.instanceMethod yX12_laysWorth ∈ Cond.instanceMethod yX12_laysWorth :: wtGB_555)
theorem twGB_555 : ∀ w ∈ wtGB_555, w ∈ wsGB := fun w h => twGB_554 w (List.mem_cons_of_mem (Cond.instanceMethod yX12_laysWorth) h)
theorem mGB_555 : Cond.selects RX12 yX12_laysWorth yX12_laysWorth ∈ wsGB := twGB_555 _ (List.mem_cons_self : Cond.selects RX12 yX12_laysWorth yX12_laysWorth ∈ Cond.selects RX12 yX12_laysWorth yX12_laysWorth :: wtGB_556)
theorem twGB_556 : ∀ w ∈ wtGB_556, w ∈ wsGB := fun w h => twGB_555 w (List.mem_cons_of_mem (Cond.selects RX12 yX12_laysWorth yX12_laysWorth) h)
theorem mGB_556 : Cond.code yX12_laysWorth cX12_laysWorth 8 (some .int) ∈ wsGB := twGB_556 _ (List.mem_cons_self : Cond.code yX12_laysWorth cX12_laysWorth 8 (some .int) ∈ Cond.code yX12_laysWorth cX12_laysWorth 8 (some .int) :: wtGB_557)
theorem twGB_557 : ∀ w ∈ wtGB_557, w ∈ wsGB := fun w h => twGB_556 w (List.mem_cons_of_mem (Cond.code yX12_laysWorth cX12_laysWorth 8 (some .int)) h)
theorem mGB_557 : Cond.constant RX12 468 (100000000) ∈ wsGB := twGB_557 _ (List.mem_cons_self : Cond.constant RX12 468 (100000000) ∈ Cond.constant RX12 468 (100000000) :: wtGB_558)
theorem twGB_558 : ∀ w ∈ wtGB_558, w ∈ wsGB := fun w h => twGB_557 w (List.mem_cons_of_mem (Cond.constant RX12 468 (100000000)) h)
theorem mGB_558 : Cond.methodLink RX12 472 yX12_costOf ∈ wsGB := twGB_558 _ (List.mem_cons_self : Cond.methodLink RX12 472 yX12_costOf ∈ Cond.methodLink RX12 472 yX12_costOf :: wtGB_559)
theorem twGB_559 : ∀ w ∈ wtGB_559, w ∈ wsGB := fun w h => twGB_558 w (List.mem_cons_of_mem (Cond.methodLink RX12 472 yX12_costOf) h)
theorem mGB_559 : Cond.instanceMethod yX12_costOf ∈ wsGB := twGB_559 _ (List.mem_cons_self : Cond.instanceMethod yX12_costOf ∈ Cond.instanceMethod yX12_costOf :: wtGB_560)
theorem twGB_560 : ∀ w ∈ wtGB_560, w ∈ wsGB := fun w h => twGB_559 w (List.mem_cons_of_mem (Cond.instanceMethod yX12_costOf) h)
theorem mGB_560 : Cond.selects RX12 yX12_costOf yX12_costOf ∈ wsGB := twGB_560 _ (List.mem_cons_self : Cond.selects RX12 yX12_costOf yX12_costOf ∈ Cond.selects RX12 yX12_costOf yX12_costOf :: wtGB_561)
theorem twGB_561 : ∀ w ∈ wtGB_561, w ∈ wsGB := fun w h => twGB_560 w (List.mem_cons_of_mem (Cond.selects RX12 yX12_costOf yX12_costOf) h)
theorem mGB_561 : Cond.code yX12_costOf cX12_costOf 8 (some .int) ∈ wsGB := twGB_561 _ (List.mem_cons_self : Cond.code yX12_costOf cX12_costOf 8 (some .int) ∈ Cond.code yX12_costOf cX12_costOf 8 (some .int) :: wtGB_562)
theorem twGB_562 : ∀ w ∈ wtGB_562, w ∈ wsGB := fun w h => twGB_561 w (List.mem_cons_of_mem (Cond.code yX12_costOf cX12_costOf 8 (some .int)) h)
theorem mGB_562 : Cond.methodLink RX12 469 Lib.Math.abs.name ∈ wsGB := twGB_562 _ (List.mem_cons_self : Cond.methodLink RX12 469 Lib.Math.abs.name ∈ Cond.methodLink RX12 469 Lib.Math.abs.name :: wtGB_563)
theorem twGB_563 : ∀ w ∈ wtGB_563, w ∈ wsGB := fun w h => twGB_562 w (List.mem_cons_of_mem (Cond.methodLink RX12 469 Lib.Math.abs.name) h)
theorem mGB_563 : Cond.methodLink RX12 476 yX12_worthBy ∈ wsGB := twGB_563 _ (List.mem_cons_self : Cond.methodLink RX12 476 yX12_worthBy ∈ Cond.methodLink RX12 476 yX12_worthBy :: wtGB_564)
theorem twGB_564 : ∀ w ∈ wtGB_564, w ∈ wsGB := fun w h => twGB_563 w (List.mem_cons_of_mem (Cond.methodLink RX12 476 yX12_worthBy) h)
theorem mGB_564 : Cond.instanceMethod yX12_worthBy ∈ wsGB := twGB_564 _ (List.mem_cons_self : Cond.instanceMethod yX12_worthBy ∈ Cond.instanceMethod yX12_worthBy :: wtGB_565)
theorem twGB_565 : ∀ w ∈ wtGB_565, w ∈ wsGB := fun w h => twGB_564 w (List.mem_cons_of_mem (Cond.instanceMethod yX12_worthBy) h)
theorem mGB_565 : Cond.selects RX12 yX12_worthBy yX12_worthBy ∈ wsGB := twGB_565 _ (List.mem_cons_self : Cond.selects RX12 yX12_worthBy yX12_worthBy ∈ Cond.selects RX12 yX12_worthBy yX12_worthBy :: wtGB_566)
theorem twGB_566 : ∀ w ∈ wtGB_566, w ∈ wsGB := fun w h => twGB_565 w (List.mem_cons_of_mem (Cond.selects RX12 yX12_worthBy yX12_worthBy) h)
theorem mGB_566 : Cond.code yX12_worthBy cX12_worthBy 6 (some .int) ∈ wsGB := twGB_566 _ (List.mem_cons_self : Cond.code yX12_worthBy cX12_worthBy 6 (some .int) ∈ Cond.code yX12_worthBy cX12_worthBy 6 (some .int) :: wtGB_567)
theorem twGB_567 : ∀ w ∈ wtGB_567, w ∈ wsGB := fun w h => twGB_566 w (List.mem_cons_of_mem (Cond.code yX12_worthBy cX12_worthBy 6 (some .int)) h)
theorem mGB_567 : Cond.instanceMethod yX12_backed ∈ wsGB := twGB_567 _ (List.mem_cons_self : Cond.instanceMethod yX12_backed ∈ Cond.instanceMethod yX12_backed :: wtGB_568)
theorem twGB_568 : ∀ w ∈ wtGB_568, w ∈ wsGB := fun w h => twGB_567 w (List.mem_cons_of_mem (Cond.instanceMethod yX12_backed) h)
theorem mGB_568 : Cond.selects RX12 yX12_backed yX12_backed ∈ wsGB := twGB_568 _ (List.mem_cons_self : Cond.selects RX12 yX12_backed yX12_backed ∈ Cond.selects RX12 yX12_backed yX12_backed :: wtGB_569)
theorem twGB_569 : ∀ w ∈ wtGB_569, w ∈ wsGB := fun w h => twGB_568 w (List.mem_cons_of_mem (Cond.selects RX12 yX12_backed yX12_backed) h)
theorem mGB_569 : Cond.code yX12_backed cX12_backed 5 (some .int) ∈ wsGB := twGB_569 _ (List.mem_cons_self : Cond.code yX12_backed cX12_backed 5 (some .int) ∈ Cond.code yX12_backed cX12_backed 5 (some .int) :: wtGB_570)
theorem twGB_570 : ∀ w ∈ wtGB_570, w ∈ wsGB := fun w h => twGB_569 w (List.mem_cons_of_mem (Cond.code yX12_backed cX12_backed 5 (some .int)) h)
theorem mGB_570 : Cond.instanceMethod yX12_tell ∈ wsGB := twGB_570 _ (List.mem_cons_self : Cond.instanceMethod yX12_tell ∈ Cond.instanceMethod yX12_tell :: wtGB_571)
theorem twGB_571 : ∀ w ∈ wtGB_571, w ∈ wsGB := fun w h => twGB_570 w (List.mem_cons_of_mem (Cond.instanceMethod yX12_tell) h)
theorem mGB_571 : Cond.selects RX12 yX12_tell yX12_tell ∈ wsGB := twGB_571 _ (List.mem_cons_self : Cond.selects RX12 yX12_tell yX12_tell ∈ Cond.selects RX12 yX12_tell yX12_tell :: wtGB_572)
theorem twGB_572 : ∀ w ∈ wtGB_572, w ∈ wsGB := fun w h => twGB_571 w (List.mem_cons_of_mem (Cond.selects RX12 yX12_tell yX12_tell) h)
theorem mGB_572 : Cond.code yX12_tell cX12_tell 3 (some .int) ∈ wsGB := twGB_572 _ (List.mem_cons_self : Cond.code yX12_tell cX12_tell 3 (some .int) ∈ Cond.code yX12_tell cX12_tell 3 (some .int) :: wtGB_573)
theorem twGB_573 : ∀ w ∈ wtGB_573, w ∈ wsGB := fun w h => twGB_572 w (List.mem_cons_of_mem (Cond.code yX12_tell cX12_tell 3 (some .int)) h)
theorem mGB_573 : Cond.instanceMethod yX12_octet ∈ wsGB := twGB_573 _ (List.mem_cons_self : Cond.instanceMethod yX12_octet ∈ Cond.instanceMethod yX12_octet :: wtGB_574)
theorem twGB_574 : ∀ w ∈ wtGB_574, w ∈ wsGB := fun w h => twGB_573 w (List.mem_cons_of_mem (Cond.instanceMethod yX12_octet) h)
theorem mGB_574 : Cond.selects RX12 yX12_octet yX12_octet ∈ wsGB := twGB_574 _ (List.mem_cons_self : Cond.selects RX12 yX12_octet yX12_octet ∈ Cond.selects RX12 yX12_octet yX12_octet :: wtGB_575)
theorem twGB_575 : ∀ w ∈ wtGB_575, w ∈ wsGB := fun w h => twGB_574 w (List.mem_cons_of_mem (Cond.selects RX12 yX12_octet yX12_octet) h)
theorem mGB_575 : Cond.code yX12_octet cX12_octet 2 (some .int) ∈ wsGB := twGB_575 _ (List.mem_cons_self : Cond.code yX12_octet cX12_octet 2 (some .int) ∈ Cond.code yX12_octet cX12_octet 2 (some .int) :: wtGB_576)
theorem twGB_576 : ∀ w ∈ wtGB_576, w ∈ wsGB := fun w h => twGB_575 w (List.mem_cons_of_mem (Cond.code yX12_octet cX12_octet 2 (some .int)) h)
theorem mGB_576 : Cond.instanceMethod yX12_reports ∈ wsGB := twGB_576 _ (List.mem_cons_self : Cond.instanceMethod yX12_reports ∈ Cond.instanceMethod yX12_reports :: wtGB_577)
theorem twGB_577 : ∀ w ∈ wtGB_577, w ∈ wsGB := fun w h => twGB_576 w (List.mem_cons_of_mem (Cond.instanceMethod yX12_reports) h)
theorem mGB_577 : Cond.selects RX12 yX12_reports yX12_reports ∈ wsGB := twGB_577 _ (List.mem_cons_self : Cond.selects RX12 yX12_reports yX12_reports ∈ Cond.selects RX12 yX12_reports yX12_reports :: wtGB_578)
theorem twGB_578 : ∀ w ∈ wtGB_578, w ∈ wsGB := fun w h => twGB_577 w (List.mem_cons_of_mem (Cond.selects RX12 yX12_reports yX12_reports) h)
theorem mGB_578 : Cond.code yX12_reports cX12_reports 6 (some .int) ∈ wsGB := twGB_578 _ (List.mem_cons_self : Cond.code yX12_reports cX12_reports 6 (some .int) ∈ Cond.code yX12_reports cX12_reports 6 (some .int) :: wtGB_579)
theorem twGB_579 : ∀ w ∈ wtGB_579, w ∈ wsGB := fun w h => twGB_578 w (List.mem_cons_of_mem (Cond.code yX12_reports cX12_reports 6 (some .int)) h)
theorem mGB_579 : Cond.instanceMethod yX12_strikes ∈ wsGB := twGB_579 _ (List.mem_cons_self : Cond.instanceMethod yX12_strikes ∈ Cond.instanceMethod yX12_strikes :: wtGB_580)
theorem twGB_580 : ∀ w ∈ wtGB_580, w ∈ wsGB := fun w h => twGB_579 w (List.mem_cons_of_mem (Cond.instanceMethod yX12_strikes) h)
theorem mGB_580 : Cond.selects RX12 yX12_strikes yX12_strikes ∈ wsGB := twGB_580 _ (List.mem_cons_self : Cond.selects RX12 yX12_strikes yX12_strikes ∈ Cond.selects RX12 yX12_strikes yX12_strikes :: wtGB_581)
theorem twGB_581 : ∀ w ∈ wtGB_581, w ∈ wsGB := fun w h => twGB_580 w (List.mem_cons_of_mem (Cond.selects RX12 yX12_strikes yX12_strikes) h)
theorem mGB_581 : Cond.code yX12_strikes cX12_strikes 4 (some .int) ∈ wsGB := twGB_581 _ (List.mem_cons_self : Cond.code yX12_strikes cX12_strikes 4 (some .int) ∈ Cond.code yX12_strikes cX12_strikes 4 (some .int) :: wtGB_582)
theorem twGB_582 : ∀ w ∈ wtGB_582, w ∈ wsGB := fun w h => twGB_581 w (List.mem_cons_of_mem (Cond.code yX12_strikes cX12_strikes 4 (some .int)) h)
theorem mGB_582 : Cond.instanceMethod yX12_trusts ∈ wsGB := twGB_582 _ (List.mem_cons_self : Cond.instanceMethod yX12_trusts ∈ Cond.instanceMethod yX12_trusts :: wtGB_583)
theorem twGB_583 : ∀ w ∈ wtGB_583, w ∈ wsGB := fun w h => twGB_582 w (List.mem_cons_of_mem (Cond.instanceMethod yX12_trusts) h)
theorem mGB_583 : Cond.selects RX12 yX12_trusts yX12_trusts ∈ wsGB := twGB_583 _ (List.mem_cons_self : Cond.selects RX12 yX12_trusts yX12_trusts ∈ Cond.selects RX12 yX12_trusts yX12_trusts :: wtGB_584)
theorem twGB_584 : ∀ w ∈ wtGB_584, w ∈ wsGB := fun w h => twGB_583 w (List.mem_cons_of_mem (Cond.selects RX12 yX12_trusts yX12_trusts) h)
theorem mGB_584 : Cond.code yX12_trusts cX12_trusts 4 (some .int) ∈ wsGB := twGB_584 _ (List.mem_cons_self : Cond.code yX12_trusts cX12_trusts 4 (some .int) ∈ Cond.code yX12_trusts cX12_trusts 4 (some .int) :: wtGB_585)
theorem twGB_585 : ∀ w ∈ wtGB_585, w ∈ wsGB := fun w h => twGB_584 w (List.mem_cons_of_mem (Cond.code yX12_trusts cX12_trusts 4 (some .int)) h)
theorem mGB_585 : Cond.constantLong RX12 486 (9) ∈ wsGB := twGB_585 _ (List.mem_cons_self : Cond.constantLong RX12 486 (9) ∈ Cond.constantLong RX12 486 (9) :: wtGB_586)
theorem twGB_586 : ∀ w ∈ wtGB_586, w ∈ wsGB := fun w h => twGB_585 w (List.mem_cons_of_mem (Cond.constantLong RX12 486 (9)) h)
theorem mGB_586 : Cond.instanceMethod yX12_moon ∈ wsGB := twGB_586 _ (List.mem_cons_self : Cond.instanceMethod yX12_moon ∈ Cond.instanceMethod yX12_moon :: wtGB_587)
theorem twGB_587 : ∀ w ∈ wtGB_587, w ∈ wsGB := fun w h => twGB_586 w (List.mem_cons_of_mem (Cond.instanceMethod yX12_moon) h)
theorem mGB_587 : Cond.selects RX12 yX12_moon yX12_moon ∈ wsGB := twGB_587 _ (List.mem_cons_self : Cond.selects RX12 yX12_moon yX12_moon ∈ Cond.selects RX12 yX12_moon yX12_moon :: wtGB_588)
theorem twGB_588 : ∀ w ∈ wtGB_588, w ∈ wsGB := fun w h => twGB_587 w (List.mem_cons_of_mem (Cond.selects RX12 yX12_moon yX12_moon) h)
theorem mGB_588 : Cond.code yX12_moon cX12_moon 3 (some .int) ∈ wsGB := twGB_588 _ (List.mem_cons_self : Cond.code yX12_moon cX12_moon 3 (some .int) ∈ Cond.code yX12_moon cX12_moon 3 (some .int) :: wtGB_589)
theorem twGB_589 : ∀ w ∈ wtGB_589, w ∈ wsGB := fun w h => twGB_588 w (List.mem_cons_of_mem (Cond.code yX12_moon cX12_moon 3 (some .int)) h)
theorem mGB_589 : Cond.constantLong RX12 488 (99999) ∈ wsGB := twGB_589 _ (List.mem_cons_self : Cond.constantLong RX12 488 (99999) ∈ Cond.constantLong RX12 488 (99999) :: wtGB_590)
theorem twGB_590 : ∀ w ∈ wtGB_590, w ∈ wsGB := fun w h => twGB_589 w (List.mem_cons_of_mem (Cond.constantLong RX12 488 (99999)) h)
theorem mGB_590 : Cond.constantLong RX12 490 (28000) ∈ wsGB := twGB_590 _ (List.mem_cons_self : Cond.constantLong RX12 490 (28000) ∈ Cond.constantLong RX12 490 (28000) :: wtGB_591)
theorem twGB_591 : ∀ w ∈ wtGB_591, w ∈ wsGB := fun w h => twGB_590 w (List.mem_cons_of_mem (Cond.constantLong RX12 490 (28000)) h)
theorem mGB_591 : Cond.constantLong RX12 492 (31000) ∈ wsGB := twGB_591 _ (List.mem_cons_self : Cond.constantLong RX12 492 (31000) ∈ Cond.constantLong RX12 492 (31000) :: wtGB_592)
theorem twGB_592 : ∀ w ∈ wtGB_592, w ∈ wsGB := fun w h => twGB_591 w (List.mem_cons_of_mem (Cond.constantLong RX12 492 (31000)) h)
theorem mGB_592 : Cond.instanceMethod yX12_runs ∈ wsGB := twGB_592 _ (List.mem_cons_self : Cond.instanceMethod yX12_runs ∈ Cond.instanceMethod yX12_runs :: wtGB_593)
theorem twGB_593 : ∀ w ∈ wtGB_593, w ∈ wsGB := fun w h => twGB_592 w (List.mem_cons_of_mem (Cond.instanceMethod yX12_runs) h)
theorem mGB_593 : Cond.selects RX12 yX12_runs yX12_runs ∈ wsGB := twGB_593 _ (List.mem_cons_self : Cond.selects RX12 yX12_runs yX12_runs ∈ Cond.selects RX12 yX12_runs yX12_runs :: wtGB_594)
theorem twGB_594 : ∀ w ∈ wtGB_594, w ∈ wsGB := fun w h => twGB_593 w (List.mem_cons_of_mem (Cond.selects RX12 yX12_runs yX12_runs) h)
theorem mGB_594 : Cond.code yX12_runs cX12_runs 6 (some .int) ∈ wsGB := twGB_594 _ (List.mem_cons_self : Cond.code yX12_runs cX12_runs 6 (some .int) ∈ Cond.code yX12_runs cX12_runs 6 (some .int) :: wtGB_595)
theorem twGB_595 : ∀ w ∈ wtGB_595, w ∈ wsGB := fun w h => twGB_594 w (List.mem_cons_of_mem (Cond.code yX12_runs cX12_runs 6 (some .int)) h)
theorem mGB_595 : Cond.constantLong RX12 494 (5) ∈ wsGB := twGB_595 _ (List.mem_cons_self : Cond.constantLong RX12 494 (5) ∈ Cond.constantLong RX12 494 (5) :: wtGB_596)
theorem twGB_596 : ∀ w ∈ wtGB_596, w ∈ wsGB := fun w h => twGB_595 w (List.mem_cons_of_mem (Cond.constantLong RX12 494 (5)) h)
theorem jnGB_X12 : ∀ w ∈ wsX120, w ∈ wsGB := fun w h => twGB_596 w (h)
theorem gwGB_596 : wtGB_596.all goodWord = true := by decide +kernel
theorem gwGB_595 : wtGB_595.all goodWord = true := gz_all (w := Cond.constantLong RX12 494 (5)) rfl gwGB_596
theorem gwGB_594 : wtGB_594.all goodWord = true := gz_all (w := Cond.code yX12_runs cX12_runs 6 (some .int)) rfl gwGB_595
theorem gwGB_593 : wtGB_593.all goodWord = true := gz_all (w := Cond.selects RX12 yX12_runs yX12_runs) rfl gwGB_594
theorem gwGB_592 : wtGB_592.all goodWord = true := gz_all (w := Cond.instanceMethod yX12_runs) rfl gwGB_593
theorem gwGB_591 : wtGB_591.all goodWord = true := gz_all (w := Cond.constantLong RX12 492 (31000)) rfl gwGB_592
theorem gwGB_590 : wtGB_590.all goodWord = true := gz_all (w := Cond.constantLong RX12 490 (28000)) rfl gwGB_591
theorem gwGB_589 : wtGB_589.all goodWord = true := gz_all (w := Cond.constantLong RX12 488 (99999)) rfl gwGB_590
theorem gwGB_588 : wtGB_588.all goodWord = true := gz_all (w := Cond.code yX12_moon cX12_moon 3 (some .int)) rfl gwGB_589
theorem gwGB_587 : wtGB_587.all goodWord = true := gz_all (w := Cond.selects RX12 yX12_moon yX12_moon) rfl gwGB_588
theorem gwGB_586 : wtGB_586.all goodWord = true := gz_all (w := Cond.instanceMethod yX12_moon) rfl gwGB_587
theorem gwGB_585 : wtGB_585.all goodWord = true := gz_all (w := Cond.constantLong RX12 486 (9)) rfl gwGB_586
theorem gwGB_584 : wtGB_584.all goodWord = true := gz_all (w := Cond.code yX12_trusts cX12_trusts 4 (some .int)) rfl gwGB_585
theorem gwGB_583 : wtGB_583.all goodWord = true := gz_all (w := Cond.selects RX12 yX12_trusts yX12_trusts) rfl gwGB_584
theorem gwGB_582 : wtGB_582.all goodWord = true := gz_all (w := Cond.instanceMethod yX12_trusts) rfl gwGB_583
theorem gwGB_581 : wtGB_581.all goodWord = true := gz_all (w := Cond.code yX12_strikes cX12_strikes 4 (some .int)) rfl gwGB_582
theorem gwGB_580 : wtGB_580.all goodWord = true := gz_all (w := Cond.selects RX12 yX12_strikes yX12_strikes) rfl gwGB_581
theorem gwGB_579 : wtGB_579.all goodWord = true := gz_all (w := Cond.instanceMethod yX12_strikes) rfl gwGB_580
theorem gwGB_578 : wtGB_578.all goodWord = true := gz_all (w := Cond.code yX12_reports cX12_reports 6 (some .int)) rfl gwGB_579
theorem gwGB_577 : wtGB_577.all goodWord = true := gz_all (w := Cond.selects RX12 yX12_reports yX12_reports) rfl gwGB_578
theorem gwGB_576 : wtGB_576.all goodWord = true := gz_all (w := Cond.instanceMethod yX12_reports) rfl gwGB_577
theorem gwGB_575 : wtGB_575.all goodWord = true := gz_all (w := Cond.code yX12_octet cX12_octet 2 (some .int)) rfl gwGB_576
theorem gwGB_574 : wtGB_574.all goodWord = true := gz_all (w := Cond.selects RX12 yX12_octet yX12_octet) rfl gwGB_575
theorem gwGB_573 : wtGB_573.all goodWord = true := gz_all (w := Cond.instanceMethod yX12_octet) rfl gwGB_574
theorem gwGB_572 : wtGB_572.all goodWord = true := gz_all (w := Cond.code yX12_tell cX12_tell 3 (some .int)) rfl gwGB_573
theorem gwGB_571 : wtGB_571.all goodWord = true := gz_all (w := Cond.selects RX12 yX12_tell yX12_tell) rfl gwGB_572
theorem gwGB_570 : wtGB_570.all goodWord = true := gz_all (w := Cond.instanceMethod yX12_tell) rfl gwGB_571
theorem gwGB_569 : wtGB_569.all goodWord = true := gz_all (w := Cond.code yX12_backed cX12_backed 5 (some .int)) rfl gwGB_570
theorem gwGB_568 : wtGB_568.all goodWord = true := gz_all (w := Cond.selects RX12 yX12_backed yX12_backed) rfl gwGB_569
theorem gwGB_567 : wtGB_567.all goodWord = true := gz_all (w := Cond.instanceMethod yX12_backed) rfl gwGB_568
theorem gwGB_566 : wtGB_566.all goodWord = true := gz_all (w := Cond.code yX12_worthBy cX12_worthBy 6 (some .int)) rfl gwGB_567
theorem gwGB_565 : wtGB_565.all goodWord = true := gz_all (w := Cond.selects RX12 yX12_worthBy yX12_worthBy) rfl gwGB_566
theorem gwGB_564 : wtGB_564.all goodWord = true := gz_all (w := Cond.instanceMethod yX12_worthBy) rfl gwGB_565
theorem gwGB_563 : wtGB_563.all goodWord = true := gz_all (w := Cond.methodLink RX12 476 yX12_worthBy) rfl gwGB_564
theorem gwGB_562 : wtGB_562.all goodWord = true := gz_all (w := Cond.methodLink RX12 469 Lib.Math.abs.name) rfl gwGB_563
theorem gwGB_561 : wtGB_561.all goodWord = true := gz_all (w := Cond.code yX12_costOf cX12_costOf 8 (some .int)) rfl gwGB_562
theorem gwGB_560 : wtGB_560.all goodWord = true := gz_all (w := Cond.selects RX12 yX12_costOf yX12_costOf) rfl gwGB_561
theorem gwGB_559 : wtGB_559.all goodWord = true := gz_all (w := Cond.instanceMethod yX12_costOf) rfl gwGB_560
theorem gwGB_558 : wtGB_558.all goodWord = true := gz_all (w := Cond.methodLink RX12 472 yX12_costOf) rfl gwGB_559
theorem gwGB_557 : wtGB_557.all goodWord = true := gz_all (w := Cond.constant RX12 468 (100000000)) rfl gwGB_558
theorem gwGB_556 : wtGB_556.all goodWord = true := gz_all (w := Cond.code yX12_laysWorth cX12_laysWorth 8 (some .int)) rfl gwGB_557
theorem gwGB_555 : wtGB_555.all goodWord = true := gz_all (w := Cond.selects RX12 yX12_laysWorth yX12_laysWorth) rfl gwGB_556
theorem gwGB_554 : wtGB_554.all goodWord = true := gz_all (w := Cond.instanceMethod yX12_laysWorth) rfl gwGB_555
theorem gwGB_553 : wtGB_553.all goodWord = true := gz_all (w := Cond.methodLink RX12 482 yX12_laysWorth) rfl gwGB_554
theorem gwGB_552 : wtGB_552.all goodWord = true := gz_all (w := Cond.fieldLink RX12 479 "SightedMonthsModel" "worthFull" "I") rfl gwGB_553
theorem gwGB_551 : wtGB_551.all goodWord = true := gz_all (w := Cond.code yX12_nearest cX12_nearest 4 (some .int)) rfl gwGB_552
theorem gwGB_550 : wtGB_550.all goodWord = true := gz_all (w := Cond.selects RX12 yX12_nearest yX12_nearest) rfl gwGB_551
theorem gwGB_549 : wtGB_549.all goodWord = true := gz_all (w := Cond.instanceMethod yX12_nearest) rfl gwGB_550
theorem gwGB_548 : wtGB_548.all goodWord = true := gz_all (w := Cond.code Lib.Math.abs.name Lib.Math.abs.code 1 (some .int)) rfl gwGB_549
theorem gwGB_547 : wtGB_547.all goodWord = true := gz_all (w := Cond.static Lib.Math.abs.name) rfl gwGB_548
theorem gwGB_546 : wtGB_546.all goodWord = true := gz_all (w := Cond.code yX12_both cX12_both 3 (some .int)) rfl gwGB_547
theorem gwGB_545 : wtGB_545.all goodWord = true := gz_all (w := Cond.selects RX12 yX12_both yX12_both) rfl gwGB_546
theorem gwGB_544 : wtGB_544.all goodWord = true := gz_all (w := Cond.instanceMethod yX12_both) rfl gwGB_545
theorem gwGB_543 : wtGB_543.all goodWord = true := gz_all (w := Cond.code yX12_later cX12_later 4 (some .int)) rfl gwGB_544
theorem gwGB_542 : wtGB_542.all goodWord = true := gz_all (w := Cond.selects RX12 yX12_later yX12_later) rfl gwGB_543
theorem gwGB_541 : wtGB_541.all goodWord = true := gz_all (w := Cond.instanceMethod yX12_later) rfl gwGB_542
theorem gwGB_540 : wtGB_540.all goodWord = true := gz_all (w := Cond.constantLong RX12 418 (6)) rfl gwGB_541
theorem gwGB_539 : wtGB_539.all goodWord = true := gz_all (w := Cond.code yX12_weekday cX12_weekday 7 (some .int)) rfl gwGB_540
theorem gwGB_538 : wtGB_538.all goodWord = true := gz_all (w := Cond.selects RX12 yX12_weekday yX12_weekday) rfl gwGB_539
theorem gwGB_537 : wtGB_537.all goodWord = true := gz_all (w := Cond.instanceMethod yX12_weekday) rfl gwGB_538
theorem gwGB_536 : wtGB_536.all goodWord = true := gz_all (w := Cond.code yX12_days cX12_days 3 (some .int)) rfl gwGB_537
theorem gwGB_535 : wtGB_535.all goodWord = true := gz_all (w := Cond.selects RX12 yX12_days yX12_days) rfl gwGB_536
theorem gwGB_534 : wtGB_534.all goodWord = true := gz_all (w := Cond.instanceMethod yX12_days) rfl gwGB_535
theorem gwGB_533 : wtGB_533.all goodWord = true := gz_all (w := Cond.code yX12_trusted cX12_trusted 5 (some .int)) rfl gwGB_534
theorem gwGB_532 : wtGB_532.all goodWord = true := gz_all (w := Cond.selects RX12 yX12_trusted yX12_trusted) rfl gwGB_533
theorem gwGB_531 : wtGB_531.all goodWord = true := gz_all (w := Cond.instanceMethod yX12_trusted) rfl gwGB_532
theorem gwGB_530 : wtGB_530.all goodWord = true := gz_all (w := Cond.code yX12_telling cX12_telling 7 (some .int)) rfl gwGB_531
theorem gwGB_529 : wtGB_529.all goodWord = true := gz_all (w := Cond.selects RX12 yX12_telling yX12_telling) rfl gwGB_530
theorem gwGB_528 : wtGB_528.all goodWord = true := gz_all (w := Cond.instanceMethod yX12_telling) rfl gwGB_529
theorem gwGB_527 : wtGB_527.all goodWord = true := gz_all (w := Cond.code yX12_hang cX12_hang 3 (some .int)) rfl gwGB_528
theorem gwGB_526 : wtGB_526.all goodWord = true := gz_all (w := Cond.selects RX12 yX12_hang yX12_hang) rfl gwGB_527
theorem gwGB_525 : wtGB_525.all goodWord = true := gz_all (w := Cond.instanceMethod yX12_hang) rfl gwGB_526
theorem gwGB_524 : wtGB_524.all goodWord = true := gz_all (w := Cond.code yX12_unlike cX12_unlike 3 (some .int)) rfl gwGB_525
theorem gwGB_523 : wtGB_523.all goodWord = true := gz_all (w := Cond.selects RX12 yX12_unlike yX12_unlike) rfl gwGB_524
theorem gwGB_522 : wtGB_522.all goodWord = true := gz_all (w := Cond.instanceMethod yX12_unlike) rfl gwGB_523
theorem gwGB_521 : wtGB_521.all goodWord = true := gz_all (w := Cond.methodLink RX12 465 yX12_unlike) rfl gwGB_522
theorem gwGB_520 : wtGB_520.all goodWord = true := gz_all (w := Cond.code yX12_keepsOfficial cX12_keepsOfficial 2 none) rfl gwGB_521
theorem gwGB_519 : wtGB_519.all goodWord = true := gz_all (w := Cond.selects RX12 yX12_keepsOfficial yX12_keepsOfficial) rfl gwGB_520
theorem gwGB_518 : wtGB_518.all goodWord = true := gz_all (w := Cond.instanceMethod yX12_keepsOfficial) rfl gwGB_519
theorem gwGB_517 : wtGB_517.all goodWord = true := gz_all (w := Cond.methodLink RX12 462 yX12_keepsOfficial) rfl gwGB_518
theorem gwGB_516 : wtGB_516.all goodWord = true := gz_all (w := Cond.code yX12_apart cX12_apart 4 (some .int)) rfl gwGB_517
theorem gwGB_515 : wtGB_515.all goodWord = true := gz_all (w := Cond.selects RX12 yX12_apart yX12_apart) rfl gwGB_516
theorem gwGB_514 : wtGB_514.all goodWord = true := gz_all (w := Cond.instanceMethod yX12_apart) rfl gwGB_515
theorem gwGB_513 : wtGB_513.all goodWord = true := gz_all (w := Cond.code yX12_ownBy cX12_ownBy 3 none) rfl gwGB_514
theorem gwGB_512 : wtGB_512.all goodWord = true := gz_all (w := Cond.selects RX12 yX12_ownBy yX12_ownBy) rfl gwGB_513
theorem gwGB_511 : wtGB_511.all goodWord = true := gz_all (w := Cond.instanceMethod yX12_ownBy) rfl gwGB_512
theorem gwGB_510 : wtGB_510.all goodWord = true := gz_all (w := Cond.methodLink RX12 459 yX12_ownBy) rfl gwGB_511
theorem gwGB_509 : wtGB_509.all goodWord = true := gz_all (w := Cond.code yX12_own cX12_own 4 (some .int)) rfl gwGB_510
theorem gwGB_508 : wtGB_508.all goodWord = true := gz_all (w := Cond.selects RX12 yX12_own yX12_own) rfl gwGB_509
theorem gwGB_507 : wtGB_507.all goodWord = true := gz_all (w := Cond.instanceMethod yX12_own) rfl gwGB_508
theorem gwGB_506 : wtGB_506.all goodWord = true := gz_all (w := Cond.code yX12_compares cX12_compares 5 none) rfl gwGB_507
theorem gwGB_505 : wtGB_505.all goodWord = true := gz_all (w := Cond.selects RX12 yX12_compares yX12_compares) rfl gwGB_506
theorem gwGB_504 : wtGB_504.all goodWord = true := gz_all (w := Cond.instanceMethod yX12_compares) rfl gwGB_505
theorem gwGB_503 : wtGB_503.all goodWord = true := gz_all (w := Cond.methodLink RX12 456 yX12_compares) rfl gwGB_504
theorem gwGB_502 : wtGB_502.all goodWord = true := gz_all (w := Cond.fieldLink RX12 453 "SightedMonthsModel" "canBeMore" "Z") rfl gwGB_503
theorem gwGB_501 : wtGB_501.all goodWord = true := gz_all (w := Cond.fieldLink RX12 450 "SightedMonthsModel" "canBeLess" "Z") rfl gwGB_502
theorem gwGB_500 : wtGB_500.all goodWord = true := gz_all (w := Cond.code yX12_longer cX12_longer 8 (some .int)) rfl gwGB_501
theorem gwGB_499 : wtGB_499.all goodWord = true := gz_all (w := Cond.selects RX12 yX12_longer yX12_longer) rfl gwGB_500
theorem gwGB_498 : wtGB_498.all goodWord = true := gz_all (w := Cond.instanceMethod yX12_longer) rfl gwGB_499
theorem gwGB_497 : wtGB_497.all goodWord = true := gz_all (w := Cond.code yX12_redated cX12_redated 2 (some .int)) rfl gwGB_498
theorem gwGB_496 : wtGB_496.all goodWord = true := gz_all (w := Cond.selects RX12 yX12_redated yX12_redated) rfl gwGB_497
theorem gwGB_495 : wtGB_495.all goodWord = true := gz_all (w := Cond.instanceMethod yX12_redated) rfl gwGB_496
theorem gwGB_494 : wtGB_494.all goodWord = true := gz_all (w := Cond.code yX12_dueOn cX12_dueOn 4 (some .int)) rfl gwGB_495
theorem gwGB_493 : wtGB_493.all goodWord = true := gz_all (w := Cond.selects RX12 yX12_dueOn yX12_dueOn) rfl gwGB_494
theorem gwGB_492 : wtGB_492.all goodWord = true := gz_all (w := Cond.instanceMethod yX12_dueOn) rfl gwGB_493
theorem gwGB_491 : wtGB_491.all goodWord = true := gz_all (w := Cond.code yX12_fallsOn cX12_fallsOn 5 (some .int)) rfl gwGB_492
theorem gwGB_490 : wtGB_490.all goodWord = true := gz_all (w := Cond.selects RX12 yX12_fallsOn yX12_fallsOn) rfl gwGB_491
theorem gwGB_489 : wtGB_489.all goodWord = true := gz_all (w := Cond.instanceMethod yX12_fallsOn) rfl gwGB_490
theorem gwGB_488 : wtGB_488.all goodWord = true := gz_all (w := Cond.methodLink RX12 420 yX12_fallsOn) rfl gwGB_489
theorem gwGB_487 : wtGB_487.all goodWord = true := gz_all (w := Cond.code yX12_duesOn cX12_duesOn 4 (some .int)) rfl gwGB_488
theorem gwGB_486 : wtGB_486.all goodWord = true := gz_all (w := Cond.selects RX12 yX12_duesOn yX12_duesOn) rfl gwGB_487
theorem gwGB_485 : wtGB_485.all goodWord = true := gz_all (w := Cond.instanceMethod yX12_duesOn) rfl gwGB_486
theorem gwGB_484 : wtGB_484.all goodWord = true := gz_all (w := Cond.methodLink RX12 444 yX12_duesOn) rfl gwGB_485
theorem gwGB_483 : wtGB_483.all goodWord = true := gz_all (w := Cond.code yX12_dueSpanOf cX12_dueSpanOf 7 (some .int)) rfl gwGB_484
theorem gwGB_482 : wtGB_482.all goodWord = true := gz_all (w := Cond.selects RX12 yX12_dueSpanOf yX12_dueSpanOf) rfl gwGB_483
theorem gwGB_481 : wtGB_481.all goodWord = true := gz_all (w := Cond.instanceMethod yX12_dueSpanOf) rfl gwGB_482
theorem gwGB_480 : wtGB_480.all goodWord = true := gz_all (w := Cond.methodLink RX12 447 yX12_dueSpanOf) rfl gwGB_481
theorem gwGB_479 : wtGB_479.all goodWord = true := gz_all (w := Cond.code yX12_dueSpan cX12_dueSpan 4 (some .int)) rfl gwGB_480
theorem gwGB_478 : wtGB_478.all goodWord = true := gz_all (w := Cond.selects RX12 yX12_dueSpan yX12_dueSpan) rfl gwGB_479
theorem gwGB_477 : wtGB_477.all goodWord = true := gz_all (w := Cond.instanceMethod yX12_dueSpan) rfl gwGB_478
theorem gwGB_476 : wtGB_476.all goodWord = true := gz_all (w := Cond.code yX12_due cX12_due 3 (some .int)) rfl gwGB_477
theorem gwGB_475 : wtGB_475.all goodWord = true := gz_all (w := Cond.selects RX12 yX12_due yX12_due) rfl gwGB_476
theorem gwGB_474 : wtGB_474.all goodWord = true := gz_all (w := Cond.instanceMethod yX12_due) rfl gwGB_475
theorem gwGB_473 : wtGB_473.all goodWord = true := gz_all (w := Cond.code yX12_settled cX12_settled 2 (some .int)) rfl gwGB_474
theorem gwGB_472 : wtGB_472.all goodWord = true := gz_all (w := Cond.selects RX12 yX12_settled yX12_settled) rfl gwGB_473
theorem gwGB_471 : wtGB_471.all goodWord = true := gz_all (w := Cond.instanceMethod yX12_settled) rfl gwGB_472
theorem gwGB_470 : wtGB_470.all goodWord = true := gz_all (w := Cond.code yX12_nextTime cX12_nextTime 4 (some .int)) rfl gwGB_471
theorem gwGB_469 : wtGB_469.all goodWord = true := gz_all (w := Cond.selects RX12 yX12_nextTime yX12_nextTime) rfl gwGB_470
theorem gwGB_468 : wtGB_468.all goodWord = true := gz_all (w := Cond.instanceMethod yX12_nextTime) rfl gwGB_469
theorem gwGB_467 : wtGB_467.all goodWord = true := gz_all (w := Cond.methodLink RX12 432 yX12_nextTime) rfl gwGB_468
theorem gwGB_466 : wtGB_466.all goodWord = true := gz_all (w := Cond.code yX12_behindOf cX12_behindOf 2 (some .int)) rfl gwGB_467
theorem gwGB_465 : wtGB_465.all goodWord = true := gz_all (w := Cond.selects RX12 yX12_behindOf yX12_behindOf) rfl gwGB_466
theorem gwGB_464 : wtGB_464.all goodWord = true := gz_all (w := Cond.instanceMethod yX12_behindOf) rfl gwGB_465
theorem gwGB_463 : wtGB_463.all goodWord = true := gz_all (w := Cond.methodLink RX12 441 yX12_behindOf) rfl gwGB_464
theorem gwGB_462 : wtGB_462.all goodWord = true := gz_all (w := Cond.code yX12_monthOf cX12_monthOf 2 (some .int)) rfl gwGB_463
theorem gwGB_461 : wtGB_461.all goodWord = true := gz_all (w := Cond.selects RX12 yX12_monthOf yX12_monthOf) rfl gwGB_462
theorem gwGB_460 : wtGB_460.all goodWord = true := gz_all (w := Cond.instanceMethod yX12_monthOf) rfl gwGB_461
theorem gwGB_459 : wtGB_459.all goodWord = true := gz_all (w := Cond.methodLink RX12 438 yX12_monthOf) rfl gwGB_460
theorem gwGB_458 : wtGB_458.all goodWord = true := gz_all (w := Cond.code yX12_dueBy cX12_dueBy 2 (some .int)) rfl gwGB_459
theorem gwGB_457 : wtGB_457.all goodWord = true := gz_all (w := Cond.selects RX12 yX12_dueBy yX12_dueBy) rfl gwGB_458
theorem gwGB_456 : wtGB_456.all goodWord = true := gz_all (w := Cond.instanceMethod yX12_dueBy) rfl gwGB_457
theorem gwGB_455 : wtGB_455.all goodWord = true := gz_all (w := Cond.methodLink RX12 429 yX12_dueBy) rfl gwGB_456
theorem gwGB_454 : wtGB_454.all goodWord = true := gz_all (w := Cond.fieldLink RX12 426 "SightedMonthsModel" "latestChange" "I") rfl gwGB_455
theorem gwGB_453 : wtGB_453.all goodWord = true := gz_all (w := Cond.code yX12_follows cX12_follows 6 none) rfl gwGB_454
theorem gwGB_452 : wtGB_452.all goodWord = true := gz_all (w := Cond.selects RX12 yX12_follows yX12_follows) rfl gwGB_453
theorem gwGB_451 : wtGB_451.all goodWord = true := gz_all (w := Cond.instanceMethod yX12_follows) rfl gwGB_452
theorem gwGB_450 : wtGB_450.all goodWord = true := gz_all (w := Cond.methodLink RX12 435 yX12_follows) rfl gwGB_451
theorem gwGB_449 : wtGB_449.all goodWord = true := gz_all (w := Cond.fieldLink RX12 423 "SightedMonthsModel" "changes" "I") rfl gwGB_450
theorem gwGB_448 : wtGB_448.all goodWord = true := gz_all (w := Cond.code yX12_shifts cX12_shifts 2 (some .int)) rfl gwGB_449
theorem gwGB_447 : wtGB_447.all goodWord = true := gz_all (w := Cond.selects RX12 yX12_shifts yX12_shifts) rfl gwGB_448
theorem gwGB_446 : wtGB_446.all goodWord = true := gz_all (w := Cond.instanceMethod yX12_shifts) rfl gwGB_447
theorem gwGB_445 : wtGB_445.all goodWord = true := gz_all (w := Cond.initialized "java/lang/System") rfl gwGB_446
theorem gwGB_444 : wtGB_444.all goodWord = true := gz_all (w := Cond.static arraycopyName) rfl gwGB_445
theorem gwGB_443 : wtGB_443.all goodWord = true := gz_all (w := Cond.native arraycopyName) rfl gwGB_444
theorem gwGB_442 : wtGB_442.all goodWord = true := gz_all (w := Cond.code yX12_moved cX12_moved 5 (some .int)) rfl gwGB_443
theorem gwGB_441 : wtGB_441.all goodWord = true := gz_all (w := Cond.selects RX12 yX12_moved yX12_moved) rfl gwGB_442
theorem gwGB_440 : wtGB_440.all goodWord = true := gz_all (w := Cond.instanceMethod yX12_moved) rfl gwGB_441
theorem gwGB_439 : wtGB_439.all goodWord = true := gz_all (w := Cond.code yX12_likely cX12_likely 8 (some .int)) rfl gwGB_440
theorem gwGB_438 : wtGB_438.all goodWord = true := gz_all (w := Cond.selects RX12 yX12_likely yX12_likely) rfl gwGB_439
theorem gwGB_437 : wtGB_437.all goodWord = true := gz_all (w := Cond.instanceMethod yX12_likely) rfl gwGB_438
theorem gwGB_436 : wtGB_436.all goodWord = true := gz_all (w := Cond.code yX12_datesWith cX12_datesWith 5 (some .int)) rfl gwGB_437
theorem gwGB_435 : wtGB_435.all goodWord = true := gz_all (w := Cond.selects RX12 yX12_datesWith yX12_datesWith) rfl gwGB_436
theorem gwGB_434 : wtGB_434.all goodWord = true := gz_all (w := Cond.instanceMethod yX12_datesWith) rfl gwGB_435
theorem gwGB_433 : wtGB_433.all goodWord = true := gz_all (w := Cond.methodLink RX12 415 yX12_datesWith) rfl gwGB_434
theorem gwGB_432 : wtGB_432.all goodWord = true := gz_all (w := Cond.code yX12_dates cX12_dates 6 (some .int)) rfl gwGB_433
theorem gwGB_431 : wtGB_431.all goodWord = true := gz_all (w := Cond.selects RX12 yX12_dates yX12_dates) rfl gwGB_432
theorem gwGB_430 : wtGB_430.all goodWord = true := gz_all (w := Cond.instanceMethod yX12_dates) rfl gwGB_431
theorem gwGB_429 : wtGB_429.all goodWord = true := gz_all (w := Cond.code yX12_date cX12_date 4 (some .int)) rfl gwGB_430
theorem gwGB_428 : wtGB_428.all goodWord = true := gz_all (w := Cond.selects RX12 yX12_date yX12_date) rfl gwGB_429
theorem gwGB_427 : wtGB_427.all goodWord = true := gz_all (w := Cond.instanceMethod yX12_date) rfl gwGB_428
theorem gwGB_426 : wtGB_426.all goodWord = true := gz_all (w := Cond.code yX12_lengthBy cX12_lengthBy 2 (some .int)) rfl gwGB_427
theorem gwGB_425 : wtGB_425.all goodWord = true := gz_all (w := Cond.selects RX12 yX12_lengthBy yX12_lengthBy) rfl gwGB_426
theorem gwGB_424 : wtGB_424.all goodWord = true := gz_all (w := Cond.instanceMethod yX12_lengthBy) rfl gwGB_425
theorem gwGB_423 : wtGB_423.all goodWord = true := gz_all (w := Cond.methodLink RX12 404 yX12_lengthBy) rfl gwGB_424
theorem gwGB_422 : wtGB_422.all goodWord = true := gz_all (w := Cond.code yX12_dayBy cX12_dayBy 3 (some .int)) rfl gwGB_423
theorem gwGB_421 : wtGB_421.all goodWord = true := gz_all (w := Cond.selects RX12 yX12_dayBy yX12_dayBy) rfl gwGB_422
theorem gwGB_420 : wtGB_420.all goodWord = true := gz_all (w := Cond.instanceMethod yX12_dayBy) rfl gwGB_421
theorem gwGB_419 : wtGB_419.all goodWord = true := gz_all (w := Cond.methodLink RX12 412 yX12_dayBy) rfl gwGB_420
theorem gwGB_418 : wtGB_418.all goodWord = true := gz_all (w := Cond.constantLong RX12 407 (30)) rfl gwGB_419
theorem gwGB_417 : wtGB_417.all goodWord = true := gz_all (w := Cond.code yX12_isInMonth cX12_isInMonth 1 (some .boolean)) rfl gwGB_418
theorem gwGB_416 : wtGB_416.all goodWord = true := gz_all (w := Cond.static yX12_isInMonth) rfl gwGB_417
theorem gwGB_415 : wtGB_415.all goodWord = true := gz_all (w := Cond.methodLink RX12 409 yX12_isInMonth) rfl gwGB_416
theorem gwGB_414 : wtGB_414.all goodWord = true := gz_all (w := Cond.code yX12_day cX12_day 4 (some .int)) rfl gwGB_415
theorem gwGB_413 : wtGB_413.all goodWord = true := gz_all (w := Cond.selects RX12 yX12_day yX12_day) rfl gwGB_414
theorem gwGB_412 : wtGB_412.all goodWord = true := gz_all (w := Cond.instanceMethod yX12_day) rfl gwGB_413
theorem gwGB_411 : wtGB_411.all goodWord = true := gz_all (w := Cond.constant RX12 403 (1103515245)) rfl gwGB_412
theorem gwGB_410 : wtGB_410.all goodWord = true := gz_all (w := Cond.code yX12_drawn cX12_drawn 3 (some .int)) rfl gwGB_411
theorem gwGB_409 : wtGB_409.all goodWord = true := gz_all (w := Cond.selects RX12 yX12_drawn yX12_drawn) rfl gwGB_410
theorem gwGB_408 : wtGB_408.all goodWord = true := gz_all (w := Cond.instanceMethod yX12_drawn) rfl gwGB_409
theorem gwGB_407 : wtGB_407.all goodWord = true := gz_all (w := Cond.code yX12_rank cX12_rank 8 (some .int)) rfl gwGB_408
theorem gwGB_406 : wtGB_406.all goodWord = true := gz_all (w := Cond.selects RX12 yX12_rank yX12_rank) rfl gwGB_407
theorem gwGB_405 : wtGB_405.all goodWord = true := gz_all (w := Cond.instanceMethod yX12_rank) rfl gwGB_406
theorem gwGB_404 : wtGB_404.all goodWord = true := gz_all (w := Cond.fieldLink RX12 397 "SightedMonthsModel" "rankedFull" "I") rfl gwGB_405
theorem gwGB_403 : wtGB_403.all goodWord = true := gz_all (w := Cond.code yX12_laysRanked cX12_laysRanked 8 none) rfl gwGB_404
theorem gwGB_402 : wtGB_402.all goodWord = true := gz_all (w := Cond.selects RX12 yX12_laysRanked yX12_laysRanked) rfl gwGB_403
theorem gwGB_401 : wtGB_401.all goodWord = true := gz_all (w := Cond.instanceMethod yX12_laysRanked) rfl gwGB_402
theorem gwGB_400 : wtGB_400.all goodWord = true := gz_all (w := Cond.methodLink RX12 400 yX12_laysRanked) rfl gwGB_401
theorem gwGB_399 : wtGB_399.all goodWord = true := gz_all (w := Cond.code yX12_ranked cX12_ranked 4 (some .int)) rfl gwGB_400
theorem gwGB_398 : wtGB_398.all goodWord = true := gz_all (w := Cond.selects RX12 yX12_ranked yX12_ranked) rfl gwGB_399
theorem gwGB_397 : wtGB_397.all goodWord = true := gz_all (w := Cond.instanceMethod yX12_ranked) rfl gwGB_398
theorem gwGB_396 : wtGB_396.all goodWord = true := gz_all (w := Cond.code yX12_lean cX12_lean 5 (some .int)) rfl gwGB_397
theorem gwGB_395 : wtGB_395.all goodWord = true := gz_all (w := Cond.selects RX12 yX12_lean yX12_lean) rfl gwGB_396
theorem gwGB_394 : wtGB_394.all goodWord = true := gz_all (w := Cond.instanceMethod yX12_lean) rfl gwGB_395
theorem gwGB_393 : wtGB_393.all goodWord = true := gz_all (w := Cond.code yX12_could cX12_could 4 (some .int)) rfl gwGB_394
theorem gwGB_392 : wtGB_392.all goodWord = true := gz_all (w := Cond.selects RX12 yX12_could yX12_could) rfl gwGB_393
theorem gwGB_391 : wtGB_391.all goodWord = true := gz_all (w := Cond.instanceMethod yX12_could) rfl gwGB_392
theorem gwGB_390 : wtGB_390.all goodWord = true := gz_all (w := Cond.code yX12_isMonth cX12_isMonth 2 (some .boolean)) rfl gwGB_391
theorem gwGB_389 : wtGB_389.all goodWord = true := gz_all (w := Cond.selects RX12 yX12_isMonth yX12_isMonth) rfl gwGB_390
theorem gwGB_388 : wtGB_388.all goodWord = true := gz_all (w := Cond.instanceMethod yX12_isMonth) rfl gwGB_389
theorem gwGB_387 : wtGB_387.all goodWord = true := gz_all (w := Cond.methodLink RX12 394 yX12_isMonth) rfl gwGB_388
theorem gwGB_386 : wtGB_386.all goodWord = true := gz_all (w := Cond.code yX12_lasts cX12_lasts 3 (some .int)) rfl gwGB_387
theorem gwGB_385 : wtGB_385.all goodWord = true := gz_all (w := Cond.selects RX12 yX12_lasts yX12_lasts) rfl gwGB_386
theorem gwGB_384 : wtGB_384.all goodWord = true := gz_all (w := Cond.instanceMethod yX12_lasts) rfl gwGB_385
theorem gwGB_383 : wtGB_383.all goodWord = true := gz_all (w := Cond.code yX12_sure cX12_sure 4 (some .int)) rfl gwGB_384
theorem gwGB_382 : wtGB_382.all goodWord = true := gz_all (w := Cond.selects RX12 yX12_sure yX12_sure) rfl gwGB_383
theorem gwGB_381 : wtGB_381.all goodWord = true := gz_all (w := Cond.instanceMethod yX12_sure) rfl gwGB_382
theorem gwGB_380 : wtGB_380.all goodWord = true := gz_all (w := Cond.code yX12_countsWith cX12_countsWith 9 (some .int)) rfl gwGB_381
theorem gwGB_379 : wtGB_379.all goodWord = true := gz_all (w := Cond.selects RX12 yX12_countsWith yX12_countsWith) rfl gwGB_380
theorem gwGB_378 : wtGB_378.all goodWord = true := gz_all (w := Cond.instanceMethod yX12_countsWith) rfl gwGB_379
theorem gwGB_377 : wtGB_377.all goodWord = true := gz_all (w := Cond.methodLink RX12 385 yX12_countsWith) rfl gwGB_378
theorem gwGB_376 : wtGB_376.all goodWord = true := gz_all (w := Cond.code yX12_beginsOn cX12_beginsOn 3 (some .int)) rfl gwGB_377
theorem gwGB_375 : wtGB_375.all goodWord = true := gz_all (w := Cond.selects RX12 yX12_beginsOn yX12_beginsOn) rfl gwGB_376
theorem gwGB_374 : wtGB_374.all goodWord = true := gz_all (w := Cond.instanceMethod yX12_beginsOn) rfl gwGB_375
theorem gwGB_373 : wtGB_373.all goodWord = true := gz_all (w := Cond.methodLink RX12 388 yX12_beginsOn) rfl gwGB_374
theorem gwGB_372 : wtGB_372.all goodWord = true := gz_all (w := Cond.code yX12_spanOf cX12_spanOf 5 (some .int)) rfl gwGB_373
theorem gwGB_371 : wtGB_371.all goodWord = true := gz_all (w := Cond.selects RX12 yX12_spanOf yX12_spanOf) rfl gwGB_372
theorem gwGB_370 : wtGB_370.all goodWord = true := gz_all (w := Cond.instanceMethod yX12_spanOf) rfl gwGB_371
theorem gwGB_369 : wtGB_369.all goodWord = true := gz_all (w := Cond.methodLink RX12 391 yX12_spanOf) rfl gwGB_370
theorem gwGB_368 : wtGB_368.all goodWord = true := gz_all (w := Cond.code yX12_span cX12_span 4 (some .int)) rfl gwGB_369
theorem gwGB_367 : wtGB_367.all goodWord = true := gz_all (w := Cond.selects RX12 yX12_span yX12_span) rfl gwGB_368
theorem gwGB_366 : wtGB_366.all goodWord = true := gz_all (w := Cond.instanceMethod yX12_span) rfl gwGB_367
theorem gwGB_365 : wtGB_365.all goodWord = true := gz_all (w := Cond.code yX12_laysOfficial cX12_laysOfficial 5 none) rfl gwGB_366
theorem gwGB_364 : wtGB_364.all goodWord = true := gz_all (w := Cond.selects RX12 yX12_laysOfficial yX12_laysOfficial) rfl gwGB_365
theorem gwGB_363 : wtGB_363.all goodWord = true := gz_all (w := Cond.instanceMethod yX12_laysOfficial) rfl gwGB_364
theorem gwGB_362 : wtGB_362.all goodWord = true := gz_all (w := Cond.methodLink RX12 376 yX12_laysOfficial) rfl gwGB_363
theorem gwGB_361 : wtGB_361.all goodWord = true := gz_all (w := Cond.code yX12_officialBy cX12_officialBy 2 none) rfl gwGB_362
theorem gwGB_360 : wtGB_360.all goodWord = true := gz_all (w := Cond.selects RX12 yX12_officialBy yX12_officialBy) rfl gwGB_361
theorem gwGB_359 : wtGB_359.all goodWord = true := gz_all (w := Cond.instanceMethod yX12_officialBy) rfl gwGB_360
theorem gwGB_358 : wtGB_358.all goodWord = true := gz_all (w := Cond.methodLink RX12 382 yX12_officialBy) rfl gwGB_359
theorem gwGB_357 : wtGB_357.all goodWord = true := gz_all (w := Cond.code yX12_isBegin cX12_isBegin 2 (some .boolean)) rfl gwGB_358
theorem gwGB_356 : wtGB_356.all goodWord = true := gz_all (w := Cond.selects RX12 yX12_isBegin yX12_isBegin) rfl gwGB_357
theorem gwGB_355 : wtGB_355.all goodWord = true := gz_all (w := Cond.instanceMethod yX12_isBegin) rfl gwGB_356
theorem gwGB_354 : wtGB_354.all goodWord = true := gz_all (w := Cond.methodLink RX12 379 yX12_isBegin) rfl gwGB_355
theorem gwGB_353 : wtGB_353.all goodWord = true := gz_all (w := Cond.code yX12_begin cX12_begin 3 (some .int)) rfl gwGB_354
theorem gwGB_352 : wtGB_352.all goodWord = true := gz_all (w := Cond.selects RX12 yX12_begin yX12_begin) rfl gwGB_353
theorem gwGB_351 : wtGB_351.all goodWord = true := gz_all (w := Cond.instanceMethod yX12_begin) rfl gwGB_352
theorem gwGB_350 : wtGB_350.all goodWord = true := gz_all (w := Cond.code yX12_ways cX12_ways 2 (some .int)) rfl gwGB_351
theorem gwGB_349 : wtGB_349.all goodWord = true := gz_all (w := Cond.selects RX12 yX12_ways yX12_ways) rfl gwGB_350
theorem gwGB_348 : wtGB_348.all goodWord = true := gz_all (w := Cond.instanceMethod yX12_ways) rfl gwGB_349
theorem gwGB_347 : wtGB_347.all goodWord = true := gz_all (w := Cond.code yJ7_fill_53178 cJ7_fill_53178 4 none) rfl gwGB_348
theorem gwGB_346 : wtGB_346.all goodWord = true := gz_all (w := Cond.initialized RJ7) rfl gwGB_347
theorem gwGB_345 : wtGB_345.all goodWord = true := gz_all (w := Cond.static yJ7_fill_53178) rfl gwGB_346
theorem gwGB_344 : wtGB_344.all goodWord = true := gz_all (w := Cond.code yX12_blind cX12_blind 5 (some .int)) rfl gwGB_345
theorem gwGB_343 : wtGB_343.all goodWord = true := gz_all (w := Cond.selects RX12 yX12_blind yX12_blind) rfl gwGB_344
theorem gwGB_342 : wtGB_342.all goodWord = true := gz_all (w := Cond.instanceMethod yX12_blind) rfl gwGB_343
theorem gwGB_341 : wtGB_341.all goodWord = true := gz_all (w := Cond.code yX12_areBoth cX12_areBoth 3 (some .boolean)) rfl gwGB_342
theorem gwGB_340 : wtGB_340.all goodWord = true := gz_all (w := Cond.selects RX12 yX12_areBoth yX12_areBoth) rfl gwGB_341
theorem gwGB_339 : wtGB_339.all goodWord = true := gz_all (w := Cond.instanceMethod yX12_areBoth) rfl gwGB_340
theorem gwGB_338 : wtGB_338.all goodWord = true := gz_all (w := Cond.methodLink RX12 373 yX12_areBoth) rfl gwGB_339
theorem gwGB_337 : wtGB_337.all goodWord = true := gz_all (w := Cond.code yX12_against cX12_against 5 (some .int)) rfl gwGB_338
theorem gwGB_336 : wtGB_336.all goodWord = true := gz_all (w := Cond.selects RX12 yX12_against yX12_against) rfl gwGB_337
theorem gwGB_335 : wtGB_335.all goodWord = true := gz_all (w := Cond.instanceMethod yX12_against) rfl gwGB_336
theorem gwGB_334 : wtGB_334.all goodWord = true := gz_all (w := Cond.code yX12_order cX12_order 3 (some .int)) rfl gwGB_335
theorem gwGB_333 : wtGB_333.all goodWord = true := gz_all (w := Cond.selects RX12 yX12_order yX12_order) rfl gwGB_334
theorem gwGB_332 : wtGB_332.all goodWord = true := gz_all (w := Cond.instanceMethod yX12_order) rfl gwGB_333
theorem gwGB_331 : wtGB_331.all goodWord = true := gz_all (w := Cond.methodLink RX12 368 yJ6_bitCount_0f7a4) rfl gwGB_332
theorem gwGB_330 : wtGB_330.all goodWord = true := gz_all (w := Cond.code yX12_takenBits cX12_takenBits 3 (some .int)) rfl gwGB_331
theorem gwGB_329 : wtGB_329.all goodWord = true := gz_all (w := Cond.selects RX12 yX12_takenBits yX12_takenBits) rfl gwGB_330
theorem gwGB_328 : wtGB_328.all goodWord = true := gz_all (w := Cond.instanceMethod yX12_takenBits) rfl gwGB_329
theorem gwGB_327 : wtGB_327.all goodWord = true := gz_all (w := Cond.methodLink RX12 365 yX12_takenBits) rfl gwGB_328
theorem gwGB_326 : wtGB_326.all goodWord = true := gz_all (w := Cond.code yX12_taken cX12_taken 2 (some .int)) rfl gwGB_327
theorem gwGB_325 : wtGB_325.all goodWord = true := gz_all (w := Cond.selects RX12 yX12_taken yX12_taken) rfl gwGB_326
theorem gwGB_324 : wtGB_324.all goodWord = true := gz_all (w := Cond.instanceMethod yX12_taken) rfl gwGB_325
theorem gwGB_323 : wtGB_323.all goodWord = true := gz_all (w := Cond.constant RJ6 267 (252645135)) rfl gwGB_324
theorem gwGB_322 : wtGB_322.all goodWord = true := gz_all (w := Cond.constant RJ6 266 (858993459)) rfl gwGB_323
theorem gwGB_321 : wtGB_321.all goodWord = true := gz_all (w := Cond.constant RJ6 265 (1431655765)) rfl gwGB_322
theorem gwGB_320 : wtGB_320.all goodWord = true := gz_all (w := Cond.code yJ6_bitCount_0f7a4 cJ6_bitCount_0f7a4 1 (some .int)) rfl gwGB_321
theorem gwGB_319 : wtGB_319.all goodWord = true := gz_all (w := Cond.initialized RJ6) rfl gwGB_320
theorem gwGB_318 : wtGB_318.all goodWord = true := gz_all (w := Cond.static yJ6_bitCount_0f7a4) rfl gwGB_319
theorem gwGB_317 : wtGB_317.all goodWord = true := gz_all (w := Cond.code yX12_placeOf cX12_placeOf 3 (some .int)) rfl gwGB_318
theorem gwGB_316 : wtGB_316.all goodWord = true := gz_all (w := Cond.static yX12_placeOf) rfl gwGB_317
theorem gwGB_315 : wtGB_315.all goodWord = true := gz_all (w := Cond.methodLink RX12 321 yX12_placeOf) rfl gwGB_316
theorem gwGB_314 : wtGB_314.all goodWord = true := gz_all (w := Cond.code yX12_runBehind cX12_runBehind 4 (some .int)) rfl gwGB_315
theorem gwGB_313 : wtGB_313.all goodWord = true := gz_all (w := Cond.selects RX12 yX12_runBehind yX12_runBehind) rfl gwGB_314
theorem gwGB_312 : wtGB_312.all goodWord = true := gz_all (w := Cond.instanceMethod yX12_runBehind) rfl gwGB_313
theorem gwGB_311 : wtGB_311.all goodWord = true := gz_all (w := Cond.methodLink RX12 318 yX12_runBehind) rfl gwGB_312
theorem gwGB_310 : wtGB_310.all goodWord = true := gz_all (w := Cond.code yX12_waysBy cX12_waysBy 6 (some .int)) rfl gwGB_311
theorem gwGB_309 : wtGB_309.all goodWord = true := gz_all (w := Cond.selects RX12 yX12_waysBy yX12_waysBy) rfl gwGB_310
theorem gwGB_308 : wtGB_308.all goodWord = true := gz_all (w := Cond.instanceMethod yX12_waysBy) rfl gwGB_309
theorem gwGB_307 : wtGB_307.all goodWord = true := gz_all (w := Cond.methodLink RX12 328 yX12_waysBy) rfl gwGB_308
theorem gwGB_306 : wtGB_306.all goodWord = true := gz_all (w := Cond.code yX12_isOpen cX12_isOpen 3 (some .boolean)) rfl gwGB_307
theorem gwGB_305 : wtGB_305.all goodWord = true := gz_all (w := Cond.selects RX12 yX12_isOpen yX12_isOpen) rfl gwGB_306
theorem gwGB_304 : wtGB_304.all goodWord = true := gz_all (w := Cond.instanceMethod yX12_isOpen) rfl gwGB_305
theorem gwGB_303 : wtGB_303.all goodWord = true := gz_all (w := Cond.methodLink RX12 325 yX12_isOpen) rfl gwGB_304
theorem gwGB_302 : wtGB_302.all goodWord = true := gz_all (w := Cond.code yX12_counts cX12_counts 6 (some .int)) rfl gwGB_303
theorem gwGB_301 : wtGB_301.all goodWord = true := gz_all (w := Cond.selects RX12 yX12_counts yX12_counts) rfl gwGB_302
theorem gwGB_300 : wtGB_300.all goodWord = true := gz_all (w := Cond.instanceMethod yX12_counts) rfl gwGB_301
theorem gwGB_299 : wtGB_299.all goodWord = true := gz_all (w := Cond.methodLink RX12 332 yX12_counts) rfl gwGB_300
theorem gwGB_298 : wtGB_298.all goodWord = true := gz_all (w := Cond.code yX12_holds cX12_holds 4 none) rfl gwGB_299
theorem gwGB_297 : wtGB_297.all goodWord = true := gz_all (w := Cond.selects RX12 yX12_holds yX12_holds) rfl gwGB_298
theorem gwGB_296 : wtGB_296.all goodWord = true := gz_all (w := Cond.instanceMethod yX12_holds) rfl gwGB_297
theorem gwGB_295 : wtGB_295.all goodWord = true := gz_all (w := Cond.methodLink RX12 347 yX12_holds) rfl gwGB_296
theorem gwGB_294 : wtGB_294.all goodWord = true := gz_all (w := Cond.code yX12_judges cX12_judges 5 (some .int)) rfl gwGB_295
theorem gwGB_293 : wtGB_293.all goodWord = true := gz_all (w := Cond.selects RX12 yX12_judges yX12_judges) rfl gwGB_294
theorem gwGB_292 : wtGB_292.all goodWord = true := gz_all (w := Cond.instanceMethod yX12_judges) rfl gwGB_293
theorem gwGB_291 : wtGB_291.all goodWord = true := gz_all (w := Cond.methodLink RX12 356 yX12_judges) rfl gwGB_292
theorem gwGB_290 : wtGB_290.all goodWord = true := gz_all (w := Cond.code yX12_trustOf cX12_trustOf 2 (some .int)) rfl gwGB_291
theorem gwGB_289 : wtGB_289.all goodWord = true := gz_all (w := Cond.selects RX12 yX12_trustOf yX12_trustOf) rfl gwGB_290
theorem gwGB_288 : wtGB_288.all goodWord = true := gz_all (w := Cond.instanceMethod yX12_trustOf) rfl gwGB_289
theorem gwGB_287 : wtGB_287.all goodWord = true := gz_all (w := Cond.methodLink RX12 335 yX12_trustOf) rfl gwGB_288
theorem gwGB_286 : wtGB_286.all goodWord = true := gz_all (w := Cond.code yX12_isAhead cX12_isAhead 5 (some .boolean)) rfl gwGB_287
theorem gwGB_285 : wtGB_285.all goodWord = true := gz_all (w := Cond.selects RX12 yX12_isAhead yX12_isAhead) rfl gwGB_286
theorem gwGB_284 : wtGB_284.all goodWord = true := gz_all (w := Cond.instanceMethod yX12_isAhead) rfl gwGB_285
theorem gwGB_283 : wtGB_283.all goodWord = true := gz_all (w := Cond.methodLink RX12 344 yX12_isAhead) rfl gwGB_284
theorem gwGB_282 : wtGB_282.all goodWord = true := gz_all (w := Cond.code yX12_isKnown cX12_isKnown 3 (some .boolean)) rfl gwGB_283
theorem gwGB_281 : wtGB_281.all goodWord = true := gz_all (w := Cond.selects RX12 yX12_isKnown yX12_isKnown) rfl gwGB_282
theorem gwGB_280 : wtGB_280.all goodWord = true := gz_all (w := Cond.instanceMethod yX12_isKnown) rfl gwGB_281
theorem gwGB_279 : wtGB_279.all goodWord = true := gz_all (w := Cond.methodLink RX12 341 yX12_isKnown) rfl gwGB_280
theorem gwGB_278 : wtGB_278.all goodWord = true := gz_all (w := Cond.code yX12_laysRow cX12_laysRow 4 none) rfl gwGB_279
theorem gwGB_277 : wtGB_277.all goodWord = true := gz_all (w := Cond.selects RX12 yX12_laysRow yX12_laysRow) rfl gwGB_278
theorem gwGB_276 : wtGB_276.all goodWord = true := gz_all (w := Cond.instanceMethod yX12_laysRow) rfl gwGB_277
theorem gwGB_275 : wtGB_275.all goodWord = true := gz_all (w := Cond.methodLink RX12 353 yX12_laysRow) rfl gwGB_276
theorem gwGB_274 : wtGB_274.all goodWord = true := gz_all (w := Cond.code yX12_unpins cX12_unpins 2 none) rfl gwGB_275
theorem gwGB_273 : wtGB_273.all goodWord = true := gz_all (w := Cond.selects RX12 yX12_unpins yX12_unpins) rfl gwGB_274
theorem gwGB_272 : wtGB_272.all goodWord = true := gz_all (w := Cond.instanceMethod yX12_unpins) rfl gwGB_273
theorem gwGB_271 : wtGB_271.all goodWord = true := gz_all (w := Cond.methodLink RX12 315 yX12_unpins) rfl gwGB_272
theorem gwGB_270 : wtGB_270.all goodWord = true := gz_all (w := Cond.fieldLink RX12 312 "SightedMonthsModel" "isBroken" "Z") rfl gwGB_271
theorem gwGB_269 : wtGB_269.all goodWord = true := gz_all (w := Cond.code yX12_frees cX12_frees 2 none) rfl gwGB_270
theorem gwGB_268 : wtGB_268.all goodWord = true := gz_all (w := Cond.selects RX12 yX12_frees yX12_frees) rfl gwGB_269
theorem gwGB_267 : wtGB_267.all goodWord = true := gz_all (w := Cond.instanceMethod yX12_frees) rfl gwGB_268
theorem gwGB_266 : wtGB_266.all goodWord = true := gz_all (w := Cond.methodLink RX12 350 yX12_frees) rfl gwGB_267
theorem gwGB_265 : wtGB_265.all goodWord = true := gz_all (w := Cond.fieldLink RX12 338 "SightedMonthsModel" "rowMany" "I") rfl gwGB_266
theorem gwGB_264 : wtGB_264.all goodWord = true := gz_all (w := Cond.code yX12_judgesAll cX12_judgesAll 3 none) rfl gwGB_265
theorem gwGB_263 : wtGB_263.all goodWord = true := gz_all (w := Cond.selects RX12 yX12_judgesAll yX12_judgesAll) rfl gwGB_264
theorem gwGB_262 : wtGB_262.all goodWord = true := gz_all (w := Cond.instanceMethod yX12_judgesAll) rfl gwGB_263
theorem gwGB_261 : wtGB_261.all goodWord = true := gz_all (w := Cond.methodLink RX12 362 yX12_judgesAll) rfl gwGB_262
theorem gwGB_260 : wtGB_260.all goodWord = true := gz_all (w := Cond.constantLong RX12 292 (999)) rfl gwGB_261
theorem gwGB_259 : wtGB_259.all goodWord = true := gz_all (w := Cond.code yX12_isTime cX12_isTime 2 (some .boolean)) rfl gwGB_260
theorem gwGB_258 : wtGB_258.all goodWord = true := gz_all (w := Cond.selects RX12 yX12_isTime yX12_isTime) rfl gwGB_259
theorem gwGB_257 : wtGB_257.all goodWord = true := gz_all (w := Cond.instanceMethod yX12_isTime) rfl gwGB_258
theorem gwGB_256 : wtGB_256.all goodWord = true := gz_all (w := Cond.methodLink RX12 359 yX12_isTime) rfl gwGB_257
theorem gwGB_255 : wtGB_255.all goodWord = true := gz_all (w := Cond.code yX12_judged cX12_judged 3 (some .int)) rfl gwGB_256
theorem gwGB_254 : wtGB_254.all goodWord = true := gz_all (w := Cond.selects RX12 yX12_judged yX12_judged) rfl gwGB_255
theorem gwGB_253 : wtGB_253.all goodWord = true := gz_all (w := Cond.instanceMethod yX12_judged) rfl gwGB_254
theorem gwGB_252 : wtGB_252.all goodWord = true := gz_all (w := Cond.code yX12_earlyOf cX12_earlyOf 2 (some .int)) rfl gwGB_253
theorem gwGB_251 : wtGB_251.all goodWord = true := gz_all (w := Cond.selects RX12 yX12_earlyOf yX12_earlyOf) rfl gwGB_252
theorem gwGB_250 : wtGB_250.all goodWord = true := gz_all (w := Cond.instanceMethod yX12_earlyOf) rfl gwGB_251
theorem gwGB_249 : wtGB_249.all goodWord = true := gz_all (w := Cond.methodLink RX12 309 yX12_earlyOf) rfl gwGB_250
theorem gwGB_248 : wtGB_248.all goodWord = true := gz_all (w := Cond.code yX12_early cX12_early 2 (some .int)) rfl gwGB_249
theorem gwGB_247 : wtGB_247.all goodWord = true := gz_all (w := Cond.selects RX12 yX12_early yX12_early) rfl gwGB_248
theorem gwGB_246 : wtGB_246.all goodWord = true := gz_all (w := Cond.instanceMethod yX12_early) rfl gwGB_247
theorem gwGB_245 : wtGB_245.all goodWord = true := gz_all (w := Cond.code yX12_isDeed cX12_isDeed 2 (some .boolean)) rfl gwGB_246
theorem gwGB_244 : wtGB_244.all goodWord = true := gz_all (w := Cond.selects RX12 yX12_isDeed yX12_isDeed) rfl gwGB_245
theorem gwGB_243 : wtGB_243.all goodWord = true := gz_all (w := Cond.instanceMethod yX12_isDeed) rfl gwGB_244
theorem gwGB_242 : wtGB_242.all goodWord = true := gz_all (w := Cond.methodLink RX12 306 yX12_isDeed) rfl gwGB_243
theorem gwGB_241 : wtGB_241.all goodWord = true := gz_all (w := Cond.code yX12_deed cX12_deed 3 (some .int)) rfl gwGB_242
theorem gwGB_240 : wtGB_240.all goodWord = true := gz_all (w := Cond.selects RX12 yX12_deed yX12_deed) rfl gwGB_241
theorem gwGB_239 : wtGB_239.all goodWord = true := gz_all (w := Cond.instanceMethod yX12_deed) rfl gwGB_240
theorem gwGB_238 : wtGB_238.all goodWord = true := gz_all (w := Cond.code yX12_isReport cX12_isReport 2 (some .boolean)) rfl gwGB_239
theorem gwGB_237 : wtGB_237.all goodWord = true := gz_all (w := Cond.selects RX12 yX12_isReport yX12_isReport) rfl gwGB_238
theorem gwGB_236 : wtGB_236.all goodWord = true := gz_all (w := Cond.instanceMethod yX12_isReport) rfl gwGB_237
theorem gwGB_235 : wtGB_235.all goodWord = true := gz_all (w := Cond.methodLink RX12 303 yX12_isReport) rfl gwGB_236
theorem gwGB_234 : wtGB_234.all goodWord = true := gz_all (w := Cond.code yX12_report cX12_report 3 (some .int)) rfl gwGB_235
theorem gwGB_233 : wtGB_233.all goodWord = true := gz_all (w := Cond.selects RX12 yX12_report yX12_report) rfl gwGB_234
theorem gwGB_232 : wtGB_232.all goodWord = true := gz_all (w := Cond.instanceMethod yX12_report) rfl gwGB_233
theorem gwGB_231 : wtGB_231.all goodWord = true := gz_all (w := Cond.code yX12_isNameAhead cX12_isNameAhead 6 (some .boolean)) rfl gwGB_232
theorem gwGB_230 : wtGB_230.all goodWord = true := gz_all (w := Cond.selects RX12 yX12_isNameAhead yX12_isNameAhead) rfl gwGB_231
theorem gwGB_229 : wtGB_229.all goodWord = true := gz_all (w := Cond.instanceMethod yX12_isNameAhead) rfl gwGB_230
theorem gwGB_228 : wtGB_228.all goodWord = true := gz_all (w := Cond.methodLink RX12 300 yX12_isNameAhead) rfl gwGB_229
theorem gwGB_227 : wtGB_227.all goodWord = true := gz_all (w := Cond.code yX12_isPlace cX12_isPlace 2 (some .boolean)) rfl gwGB_228
theorem gwGB_226 : wtGB_226.all goodWord = true := gz_all (w := Cond.selects RX12 yX12_isPlace yX12_isPlace) rfl gwGB_227
theorem gwGB_225 : wtGB_225.all goodWord = true := gz_all (w := Cond.instanceMethod yX12_isPlace) rfl gwGB_226
theorem gwGB_224 : wtGB_224.all goodWord = true := gz_all (w := Cond.methodLink RX12 294 yX12_isPlace) rfl gwGB_225
theorem gwGB_223 : wtGB_223.all goodWord = true := gz_all (w := Cond.constantLong RX12 298 (2)) rfl gwGB_224
theorem gwGB_222 : wtGB_222.all goodWord = true := gz_all (w := Cond.code yX12_place cX12_place 6 (some .int)) rfl gwGB_223
theorem gwGB_221 : wtGB_221.all goodWord = true := gz_all (w := Cond.selects RX12 yX12_place yX12_place) rfl gwGB_222
theorem gwGB_220 : wtGB_220.all goodWord = true := gz_all (w := Cond.instanceMethod yX12_place) rfl gwGB_221
theorem gwGB_219 : wtGB_219.all goodWord = true := gz_all (w := Cond.fieldLink RX12 289 "SightedMonthsModel" "outs" "I") rfl gwGB_220
theorem gwGB_218 : wtGB_218.all goodWord = true := gz_all (w := Cond.code yX12_count cX12_count 2 (some .int)) rfl gwGB_219
theorem gwGB_217 : wtGB_217.all goodWord = true := gz_all (w := Cond.selects RX12 yX12_count yX12_count) rfl gwGB_218
theorem gwGB_216 : wtGB_216.all goodWord = true := gz_all (w := Cond.instanceMethod yX12_count) rfl gwGB_217
theorem gwGB_215 : wtGB_215.all goodWord = true := gz_all (w := Cond.code yX12_fault cX12_fault 2 (some .int)) rfl gwGB_216
theorem gwGB_214 : wtGB_214.all goodWord = true := gz_all (w := Cond.selects RX12 yX12_fault yX12_fault) rfl gwGB_215
theorem gwGB_213 : wtGB_213.all goodWord = true := gz_all (w := Cond.instanceMethod yX12_fault) rfl gwGB_214
theorem gwGB_212 : wtGB_212.all goodWord = true := gz_all (w := Cond.code yX12_readsDeed cX12_readsDeed 6 none) rfl gwGB_213
theorem gwGB_211 : wtGB_211.all goodWord = true := gz_all (w := Cond.selects RX12 yX12_readsDeed yX12_readsDeed) rfl gwGB_212
theorem gwGB_210 : wtGB_210.all goodWord = true := gz_all (w := Cond.instanceMethod yX12_readsDeed) rfl gwGB_211
theorem gwGB_209 : wtGB_209.all goodWord = true := gz_all (w := Cond.methodLink RX12 280 yX12_readsDeed) rfl gwGB_210
theorem gwGB_208 : wtGB_208.all goodWord = true := gz_all (w := Cond.code yX12_lays cX12_lays 6 none) rfl gwGB_209
theorem gwGB_207 : wtGB_207.all goodWord = true := gz_all (w := Cond.selects RX12 yX12_lays yX12_lays) rfl gwGB_208
theorem gwGB_206 : wtGB_206.all goodWord = true := gz_all (w := Cond.instanceMethod yX12_lays) rfl gwGB_207
theorem gwGB_205 : wtGB_205.all goodWord = true := gz_all (w := Cond.methodLink RX12 236 yX12_lays) rfl gwGB_206
theorem gwGB_204 : wtGB_204.all goodWord = true := gz_all (w := Cond.code Lib.Math.max.name Lib.Math.max.code 2 (some .int)) rfl gwGB_205
theorem gwGB_203 : wtGB_203.all goodWord = true := gz_all (w := Cond.static Lib.Math.max.name) rfl gwGB_204
theorem gwGB_202 : wtGB_202.all goodWord = true := gz_all (w := Cond.methodLink RX12 219 Lib.Math.max.name) rfl gwGB_203
theorem gwGB_201 : wtGB_201.all goodWord = true := gz_all (w := Cond.code yX12_placeHere cX12_placeHere 2 (some .int)) rfl gwGB_202
theorem gwGB_200 : wtGB_200.all goodWord = true := gz_all (w := Cond.selects RX12 yX12_placeHere yX12_placeHere) rfl gwGB_201
theorem gwGB_199 : wtGB_199.all goodWord = true := gz_all (w := Cond.instanceMethod yX12_placeHere) rfl gwGB_200
theorem gwGB_198 : wtGB_198.all goodWord = true := gz_all (w := Cond.methodLink RX12 227 yX12_placeHere) rfl gwGB_199
theorem gwGB_197 : wtGB_197.all goodWord = true := gz_all (w := Cond.code yX12_readsReport cX12_readsReport 6 none) rfl gwGB_198
theorem gwGB_196 : wtGB_196.all goodWord = true := gz_all (w := Cond.selects RX12 yX12_readsReport yX12_readsReport) rfl gwGB_197
theorem gwGB_195 : wtGB_195.all goodWord = true := gz_all (w := Cond.instanceMethod yX12_readsReport) rfl gwGB_196
theorem gwGB_194 : wtGB_194.all goodWord = true := gz_all (w := Cond.methodLink RX12 275 yX12_readsReport) rfl gwGB_195
theorem gwGB_193 : wtGB_193.all goodWord = true := gz_all (w := Cond.code yX12_named cX12_named 4 (some .int)) rfl gwGB_194
theorem gwGB_192 : wtGB_192.all goodWord = true := gz_all (w := Cond.selects RX12 yX12_named yX12_named) rfl gwGB_193
theorem gwGB_191 : wtGB_191.all goodWord = true := gz_all (w := Cond.instanceMethod yX12_named) rfl gwGB_192
theorem gwGB_190 : wtGB_190.all goodWord = true := gz_all (w := Cond.methodLink RX12 216 yX12_named) rfl gwGB_191
theorem gwGB_189 : wtGB_189.all goodWord = true := gz_all (w := Cond.code yX12_readsPlace cX12_readsPlace 2 none) rfl gwGB_190
theorem gwGB_188 : wtGB_188.all goodWord = true := gz_all (w := Cond.selects RX12 yX12_readsPlace yX12_readsPlace) rfl gwGB_189
theorem gwGB_187 : wtGB_187.all goodWord = true := gz_all (w := Cond.instanceMethod yX12_readsPlace) rfl gwGB_188
theorem gwGB_186 : wtGB_186.all goodWord = true := gz_all (w := Cond.methodLink RX12 266 yX12_readsPlace) rfl gwGB_187
theorem gwGB_185 : wtGB_185.all goodWord = true := gz_all (w := Cond.constant RX12 247 (99999)) rfl gwGB_186
theorem gwGB_184 : wtGB_184.all goodWord = true := gz_all (w := Cond.code yX12_readsMoon cX12_readsMoon 1 none) rfl gwGB_185
theorem gwGB_183 : wtGB_183.all goodWord = true := gz_all (w := Cond.selects RX12 yX12_readsMoon yX12_readsMoon) rfl gwGB_184
theorem gwGB_182 : wtGB_182.all goodWord = true := gz_all (w := Cond.instanceMethod yX12_readsMoon) rfl gwGB_183
theorem gwGB_181 : wtGB_181.all goodWord = true := gz_all (w := Cond.methodLink RX12 261 yX12_readsMoon) rfl gwGB_182
theorem gwGB_180 : wtGB_180.all goodWord = true := gz_all (w := Cond.code yX12_number cX12_number 4 (some .int)) rfl gwGB_181
theorem gwGB_179 : wtGB_179.all goodWord = true := gz_all (w := Cond.selects RX12 yX12_number yX12_number) rfl gwGB_180
theorem gwGB_178 : wtGB_178.all goodWord = true := gz_all (w := Cond.instanceMethod yX12_number) rfl gwGB_179
theorem gwGB_177 : wtGB_177.all goodWord = true := gz_all (w := Cond.methodLink RX12 213 yX12_number) rfl gwGB_178
theorem gwGB_176 : wtGB_176.all goodWord = true := gz_all (w := Cond.code yX12_numberBehind cX12_numberBehind 4 (some .int)) rfl gwGB_177
theorem gwGB_175 : wtGB_175.all goodWord = true := gz_all (w := Cond.selects RX12 yX12_numberBehind yX12_numberBehind) rfl gwGB_176
theorem gwGB_174 : wtGB_174.all goodWord = true := gz_all (w := Cond.instanceMethod yX12_numberBehind) rfl gwGB_175
theorem gwGB_173 : wtGB_173.all goodWord = true := gz_all (w := Cond.methodLink RX12 223 yX12_numberBehind) rfl gwGB_174
theorem gwGB_172 : wtGB_172.all goodWord = true := gz_all (w := Cond.code yX12_faultsAt cX12_faultsAt 3 none) rfl gwGB_173
theorem gwGB_171 : wtGB_171.all goodWord = true := gz_all (w := Cond.selects RX12 yX12_faultsAt yX12_faultsAt) rfl gwGB_172
theorem gwGB_170 : wtGB_170.all goodWord = true := gz_all (w := Cond.instanceMethod yX12_faultsAt) rfl gwGB_171
theorem gwGB_169 : wtGB_169.all goodWord = true := gz_all (w := Cond.methodLink RX12 180 yX12_faultsAt) rfl gwGB_170
theorem gwGB_168 : wtGB_168.all goodWord = true := gz_all (w := Cond.code yX12_faults cX12_faults 2 none) rfl gwGB_169
theorem gwGB_167 : wtGB_167.all goodWord = true := gz_all (w := Cond.selects RX12 yX12_faults yX12_faults) rfl gwGB_168
theorem gwGB_166 : wtGB_166.all goodWord = true := gz_all (w := Cond.instanceMethod yX12_faults) rfl gwGB_167
theorem gwGB_165 : wtGB_165.all goodWord = true := gz_all (w := Cond.methodLink RX12 194 yX12_faults) rfl gwGB_166
theorem gwGB_164 : wtGB_164.all goodWord = true := gz_all (w := Cond.code yX12_passes cX12_passes 2 none) rfl gwGB_165
theorem gwGB_163 : wtGB_163.all goodWord = true := gz_all (w := Cond.selects RX12 yX12_passes yX12_passes) rfl gwGB_164
theorem gwGB_162 : wtGB_162.all goodWord = true := gz_all (w := Cond.instanceMethod yX12_passes) rfl gwGB_163
theorem gwGB_161 : wtGB_161.all goodWord = true := gz_all (w := Cond.methodLink RX12 205 yX12_passes) rfl gwGB_162
theorem gwGB_160 : wtGB_160.all goodWord = true := gz_all (w := Cond.methodLink RX12 190 yJ0_charAt_5068e) rfl gwGB_161
theorem gwGB_159 : wtGB_159.all goodWord = true := gz_all (w := Cond.methodLink RX12 184 yJ0_length_8abf5) rfl gwGB_160
theorem gwGB_158 : wtGB_158.all goodWord = true := gz_all (w := Cond.code yX12_isWord cX12_isWord 4 (some .boolean)) rfl gwGB_159
theorem gwGB_157 : wtGB_157.all goodWord = true := gz_all (w := Cond.selects RX12 yX12_isWord yX12_isWord) rfl gwGB_158
theorem gwGB_156 : wtGB_156.all goodWord = true := gz_all (w := Cond.instanceMethod yX12_isWord) rfl gwGB_157
theorem gwGB_155 : wtGB_155.all goodWord = true := gz_all (w := Cond.methodLink RX12 201 yX12_isWord) rfl gwGB_156
theorem gwGB_154 : wtGB_154.all goodWord = true := gz_all (w := Cond.code yX12_word cX12_word 2 none) rfl gwGB_155
theorem gwGB_153 : wtGB_153.all goodWord = true := gz_all (w := Cond.selects RX12 yX12_word yX12_word) rfl gwGB_154
theorem gwGB_152 : wtGB_152.all goodWord = true := gz_all (w := Cond.instanceMethod yX12_word) rfl gwGB_153
theorem gwGB_151 : wtGB_151.all goodWord = true := gz_all (w := Cond.methodLink RX12 209 yX12_word) rfl gwGB_152
theorem gwGB_150 : wtGB_150.all goodWord = true := gz_all (w := Cond.code yX12_readsHead cX12_readsHead 1 none) rfl gwGB_151
theorem gwGB_149 : wtGB_149.all goodWord = true := gz_all (w := Cond.selects RX12 yX12_readsHead yX12_readsHead) rfl gwGB_150
theorem gwGB_148 : wtGB_148.all goodWord = true := gz_all (w := Cond.instanceMethod yX12_readsHead) rfl gwGB_149
theorem gwGB_147 : wtGB_147.all goodWord = true := gz_all (w := Cond.methodLink RX12 256 yX12_readsHead) rfl gwGB_148
theorem gwGB_146 : wtGB_146.all goodWord = true := gz_all (w := Cond.code yX12_readsLine cX12_readsLine 1 none) rfl gwGB_147
theorem gwGB_145 : wtGB_145.all goodWord = true := gz_all (w := Cond.selects RX12 yX12_readsLine yX12_readsLine) rfl gwGB_146
theorem gwGB_144 : wtGB_144.all goodWord = true := gz_all (w := Cond.instanceMethod yX12_readsLine) rfl gwGB_145
theorem gwGB_143 : wtGB_143.all goodWord = true := gz_all (w := Cond.methodLink RX12 286 yX12_readsLine) rfl gwGB_144
theorem gwGB_142 : wtGB_142.all goodWord = true := gz_all (w := Cond.code yX12_isAt cX12_isAt 3 (some .boolean)) rfl gwGB_143
theorem gwGB_141 : wtGB_141.all goodWord = true := gz_all (w := Cond.selects RX12 yX12_isAt yX12_isAt) rfl gwGB_142
theorem gwGB_140 : wtGB_140.all goodWord = true := gz_all (w := Cond.instanceMethod yX12_isAt) rfl gwGB_141
theorem gwGB_139 : wtGB_139.all goodWord = true := gz_all (w := Cond.methodLink RX12 154 yX12_isAt) rfl gwGB_140
theorem gwGB_138 : wtGB_138.all goodWord = true := gz_all (w := Cond.methodLink RX12 168 Lib.Math.min.name) rfl gwGB_139
theorem gwGB_137 : wtGB_137.all goodWord = true := gz_all (w := Cond.constant RX12 167 (100000)) rfl gwGB_138
theorem gwGB_136 : wtGB_136.all goodWord = true := gz_all (w := Cond.fieldLink RX12 161 "SightedMonthsModel" "value" "I") rfl gwGB_137
theorem gwGB_135 : wtGB_135.all goodWord = true := gz_all (w := Cond.fieldLink RX12 158 "SightedMonthsModel" "begin" "I") rfl gwGB_136
theorem gwGB_134 : wtGB_134.all goodWord = true := gz_all (w := Cond.code yX12_next cX12_next 1 none) rfl gwGB_135
theorem gwGB_133 : wtGB_133.all goodWord = true := gz_all (w := Cond.selects RX12 yX12_next yX12_next) rfl gwGB_134
theorem gwGB_132 : wtGB_132.all goodWord = true := gz_all (w := Cond.instanceMethod yX12_next) rfl gwGB_133
theorem gwGB_131 : wtGB_131.all goodWord = true := gz_all (w := Cond.methodLink RX12 198 yX12_next) rfl gwGB_132
theorem gwGB_130 : wtGB_130.all goodWord = true := gz_all (w := Cond.code yX12_movesRow cX12_movesRow 3 none) rfl gwGB_131
theorem gwGB_129 : wtGB_129.all goodWord = true := gz_all (w := Cond.selects RX12 yX12_movesRow yX12_movesRow) rfl gwGB_130
theorem gwGB_128 : wtGB_128.all goodWord = true := gz_all (w := Cond.instanceMethod yX12_movesRow) rfl gwGB_129
theorem gwGB_127 : wtGB_127.all goodWord = true := gz_all (w := Cond.methodLink RX12 147 yX12_movesRow) rfl gwGB_128
theorem gwGB_126 : wtGB_126.all goodWord = true := gz_all (w := Cond.code yX12_moves cX12_moves 3 (some .int)) rfl gwGB_127
theorem gwGB_125 : wtGB_125.all goodWord = true := gz_all (w := Cond.selects RX12 yX12_moves yX12_moves) rfl gwGB_126
theorem gwGB_124 : wtGB_124.all goodWord = true := gz_all (w := Cond.instanceMethod yX12_moves) rfl gwGB_125
theorem gwGB_123 : wtGB_123.all goodWord = true := gz_all (w := Cond.methodLink RX12 113 yX12_moves) rfl gwGB_124
theorem gwGB_122 : wtGB_122.all goodWord = true := gz_all (w := Cond.fieldLink RX12 110 "SightedMonthsModel" "keptAt" "I") rfl gwGB_123
theorem gwGB_121 : wtGB_121.all goodWord = true := gz_all (w := Cond.fieldLink RX12 106 "SightedMonthsModel" "keeps" "Z") rfl gwGB_122
theorem gwGB_120 : wtGB_120.all goodWord = true := gz_all (w := Cond.code yX12_movesAll cX12_movesAll 3 none) rfl gwGB_121
theorem gwGB_119 : wtGB_119.all goodWord = true := gz_all (w := Cond.selects RX12 yX12_movesAll yX12_movesAll) rfl gwGB_120
theorem gwGB_118 : wtGB_118.all goodWord = true := gz_all (w := Cond.instanceMethod yX12_movesAll) rfl gwGB_119
theorem gwGB_117 : wtGB_117.all goodWord = true := gz_all (w := Cond.methodLink RX12 283 yX12_movesAll) rfl gwGB_118
theorem gwGB_116 : wtGB_116.all goodWord = true := gz_all (w := Cond.fieldLink RX12 164 "SightedMonthsModel" "token" "I") rfl gwGB_117
theorem gwGB_115 : wtGB_115.all goodWord = true := gz_all (w := Cond.fieldLink RX12 177 "SightedMonthsModel" "faultKind" "I") rfl gwGB_116
theorem gwGB_114 : wtGB_114.all goodWord = true := gz_all (w := Cond.fieldLink RX12 174 "SightedMonthsModel" "bad" "Z") rfl gwGB_115
theorem gwGB_113 : wtGB_113.all goodWord = true := gz_all (w := Cond.fieldLink RX12 151 "SightedMonthsModel" "at" "I") rfl gwGB_114
theorem gwGB_112 : wtGB_112.all goodWord = true := gz_all (w := Cond.fieldLink RX12 144 "SightedMonthsModel" "deeds" "I") rfl gwGB_113
theorem gwGB_111 : wtGB_111.all goodWord = true := gz_all (w := Cond.fieldLink RX12 141 "SightedMonthsModel" "reports" "I") rfl gwGB_112
theorem gwGB_110 : wtGB_110.all goodWord = true := gz_all (w := Cond.fieldLink RX12 138 "SightedMonthsModel" "places" "I") rfl gwGB_111
theorem gwGB_109 : wtGB_109.all goodWord = true := gz_all (w := Cond.fieldLink RX12 135 "SightedMonthsModel" "moonStep" "I") rfl gwGB_110
theorem gwGB_108 : wtGB_108.all goodWord = true := gz_all (w := Cond.fieldLink RX12 132 "SightedMonthsModel" "moonFirst" "I") rfl gwGB_109
theorem gwGB_107 : wtGB_107.all goodWord = true := gz_all (w := Cond.fieldLink RX12 129 "SightedMonthsModel" "hasMoon" "Z") rfl gwGB_108
theorem gwGB_106 : wtGB_106.all goodWord = true := gz_all (w := Cond.fieldLink RX12 126 "SightedMonthsModel" "lines" "I") rfl gwGB_107
theorem gwGB_105 : wtGB_105.all goodWord = true := gz_all (w := Cond.fieldLink RX12 123 "SightedMonthsModel" "mostLean" "I") rfl gwGB_106
theorem gwGB_104 : wtGB_104.all goodWord = true := gz_all (w := Cond.fieldLink RX12 120 "SightedMonthsModel" "mostFull" "I") rfl gwGB_105
theorem gwGB_103 : wtGB_103.all goodWord = true := gz_all (w := Cond.fieldLink RX12 117 "SightedMonthsModel" "months" "I") rfl gwGB_104
theorem gwGB_102 : wtGB_102.all goodWord = true := gz_all (w := Cond.code yX12_almanac cX12_almanac 1 (some .int)) rfl gwGB_103
theorem gwGB_101 : wtGB_101.all goodWord = true := gz_all (w := Cond.selects RX12 yX12_almanac yX12_almanac) rfl gwGB_102
theorem gwGB_100 : wtGB_100.all goodWord = true := gz_all (w := Cond.instanceMethod yX12_almanac) rfl gwGB_101
theorem gwGB_99 : wtGB_99.all goodWord = true := gz_all (w := Cond.code Lib.Math.min.name Lib.Math.min.code 2 (some .int)) rfl gwGB_100
theorem gwGB_98 : wtGB_98.all goodWord = true := gz_all (w := Cond.initialized "java/lang/Math") rfl gwGB_99
theorem gwGB_97 : wtGB_97.all goodWord = true := gz_all (w := Cond.static Lib.Math.min.name) rfl gwGB_98
theorem gwGB_96 : wtGB_96.all goodWord = true := gz_all (w := Cond.fieldLink RJ2 63 "java/lang/StringUTF16" "LO_BYTE_SHIFT" "I") rfl gwGB_97
theorem gwGB_95 : wtGB_95.all goodWord = true := gz_all (w := Cond.fieldLink RJ2 59 "java/lang/StringUTF16" "HI_BYTE_SHIFT" "I") rfl gwGB_96
theorem gwGB_94 : wtGB_94.all goodWord = true := gz_all (w := Cond.fieldLink RJ2 44 "java/lang/StringUTF16" "$assertionsDisabled" "Z") rfl gwGB_95
theorem gwGB_93 : wtGB_93.all goodWord = true := gz_all (w := Cond.code yJ2_getChar_3b067 cJ2_getChar_3b067 2 (some .char)) rfl gwGB_94
theorem gwGB_92 : wtGB_92.all goodWord = true := gz_all (w := Cond.static yJ2_getChar_3b067) rfl gwGB_93
theorem gwGB_91 : wtGB_91.all goodWord = true := gz_all (w := Cond.methodLink RJ2 71 yJ2_getChar_3b067) rfl gwGB_92
theorem gwGB_90 : wtGB_90.all goodWord = true := gz_all (w := Cond.methodLink RJ2 414 yJ0_checkIndex_df160) rfl gwGB_91
theorem gwGB_89 : wtGB_89.all goodWord = true := gz_all (w := Cond.code yJ2_length_9d52b cJ2_length_9d52b 1 (some .int)) rfl gwGB_90
theorem gwGB_88 : wtGB_88.all goodWord = true := gz_all (w := Cond.static yJ2_length_9d52b) rfl gwGB_89
theorem gwGB_87 : wtGB_87.all goodWord = true := gz_all (w := Cond.methodLink RJ2 48 yJ2_length_9d52b) rfl gwGB_88
theorem gwGB_86 : wtGB_86.all goodWord = true := gz_all (w := Cond.code yJ2_checkIndex_2214a cJ2_checkIndex_2214a 2 none) rfl gwGB_87
theorem gwGB_85 : wtGB_85.all goodWord = true := gz_all (w := Cond.static yJ2_checkIndex_2214a) rfl gwGB_86
theorem gwGB_84 : wtGB_84.all goodWord = true := gz_all (w := Cond.methodLink RJ2 67 yJ2_checkIndex_2214a) rfl gwGB_85
theorem gwGB_83 : wtGB_83.all goodWord = true := gz_all (w := Cond.code yJ2_charAt_3b067 cJ2_charAt_3b067 2 (some .char)) rfl gwGB_84
theorem gwGB_82 : wtGB_82.all goodWord = true := gz_all (w := Cond.initialized RJ2) rfl gwGB_83
theorem gwGB_81 : wtGB_81.all goodWord = true := gz_all (w := Cond.static yJ2_charAt_3b067) rfl gwGB_82
theorem gwGB_80 : wtGB_80.all goodWord = true := gz_all (w := Cond.methodLink RJ0 498 yJ2_charAt_3b067) rfl gwGB_81
theorem gwGB_79 : wtGB_79.all goodWord = true := gz_all (w := Cond.code yJ3_checkIndex_8e157 cJ3_checkIndex_8e157 3 (some .int)) rfl gwGB_80
theorem gwGB_78 : wtGB_78.all goodWord = true := gz_all (w := Cond.initialized RJ3) rfl gwGB_79
theorem gwGB_77 : wtGB_77.all goodWord = true := gz_all (w := Cond.static yJ3_checkIndex_8e157) rfl gwGB_78
theorem gwGB_76 : wtGB_76.all goodWord = true := gz_all (w := Cond.methodLink RJ0 1059 yJ3_checkIndex_8e157) rfl gwGB_77
theorem gwGB_75 : wtGB_75.all goodWord = true := gz_all (w := Cond.fieldLink RJ0 1053 "jdk/internal/util/Preconditions" "SIOOBE_FORMATTER" "Ljava/util/function/BiFunction;") rfl gwGB_76
theorem gwGB_74 : wtGB_74.all goodWord = true := gz_all (w := Cond.code yJ0_checkIndex_df160 cJ0_checkIndex_df160 2 none) rfl gwGB_75
theorem gwGB_73 : wtGB_73.all goodWord = true := gz_all (w := Cond.static yJ0_checkIndex_df160) rfl gwGB_74
theorem gwGB_72 : wtGB_72.all goodWord = true := gz_all (w := Cond.methodLink RJ1 9 yJ0_checkIndex_df160) rfl gwGB_73
theorem gwGB_71 : wtGB_71.all goodWord = true := gz_all (w := Cond.code yJ1_charAt_3b067 cJ1_charAt_3b067 2 (some .char)) rfl gwGB_72
theorem gwGB_70 : wtGB_70.all goodWord = true := gz_all (w := Cond.initialized RJ1) rfl gwGB_71
theorem gwGB_69 : wtGB_69.all goodWord = true := gz_all (w := Cond.static yJ1_charAt_3b067) rfl gwGB_70
theorem gwGB_68 : wtGB_68.all goodWord = true := gz_all (w := Cond.methodLink RJ0 495 yJ1_charAt_3b067) rfl gwGB_69
theorem gwGB_67 : wtGB_67.all goodWord = true := gz_all (w := Cond.code yJ0_isLatin1_aae02 cJ0_isLatin1_aae02 1 (some .boolean)) rfl gwGB_68
theorem gwGB_66 : wtGB_66.all goodWord = true := gz_all (w := Cond.selects RJ0 yJ0_isLatin1_aae02 yJ0_isLatin1_aae02) rfl gwGB_67
theorem gwGB_65 : wtGB_65.all goodWord = true := gz_all (w := Cond.instanceMethod yJ0_isLatin1_aae02) rfl gwGB_66
theorem gwGB_64 : wtGB_64.all goodWord = true := gz_all (w := Cond.methodLink RJ0 492 yJ0_isLatin1_aae02) rfl gwGB_65
theorem gwGB_63 : wtGB_63.all goodWord = true := gz_all (w := Cond.code yJ0_charAt_5068e cJ0_charAt_5068e 2 (some .char)) rfl gwGB_64
theorem gwGB_62 : wtGB_62.all goodWord = true := gz_all (w := Cond.selects RJ0 yJ0_charAt_5068e yJ0_charAt_5068e) rfl gwGB_63
theorem gwGB_61 : wtGB_61.all goodWord = true := gz_all (w := Cond.instanceMethod yJ0_charAt_5068e) rfl gwGB_62
theorem gwGB_60 : wtGB_60.all goodWord = true := gz_all (w := Cond.fieldLink RJ0 15 "java/lang/String" "coder" "B") rfl gwGB_61
theorem gwGB_59 : wtGB_59.all goodWord = true := gz_all (w := Cond.fieldLink RJ0 38 "java/lang/String" "COMPACT_STRINGS" "Z") rfl gwGB_60
theorem gwGB_58 : wtGB_58.all goodWord = true := gz_all (w := Cond.code yJ0_coder_7d493 cJ0_coder_7d493 1 (some .byte)) rfl gwGB_59
theorem gwGB_57 : wtGB_57.all goodWord = true := gz_all (w := Cond.selects RJ0 yJ0_coder_7d493 yJ0_coder_7d493) rfl gwGB_58
theorem gwGB_56 : wtGB_56.all goodWord = true := gz_all (w := Cond.instanceMethod yJ0_coder_7d493) rfl gwGB_57
theorem gwGB_55 : wtGB_55.all goodWord = true := gz_all (w := Cond.methodLink RJ0 335 yJ0_coder_7d493) rfl gwGB_56
theorem gwGB_54 : wtGB_54.all goodWord = true := gz_all (w := Cond.fieldLink RJ0 9 "java/lang/String" "value" "[B") rfl gwGB_55
theorem gwGB_53 : wtGB_53.all goodWord = true := gz_all (w := Cond.code yJ0_length_8abf5 cJ0_length_8abf5 1 (some .int)) rfl gwGB_54
theorem gwGB_52 : wtGB_52.all goodWord = true := gz_all (w := Cond.initialized RJ0) rfl gwGB_53
theorem gwGB_51 : wtGB_51.all goodWord = true := gz_all (w := Cond.selects RJ0 yJ0_length_8abf5 yJ0_length_8abf5) rfl gwGB_52
theorem gwGB_50 : wtGB_50.all goodWord = true := gz_all (w := Cond.instanceMethod yJ0_length_8abf5) rfl gwGB_51
theorem gwGB_49 : wtGB_49.all goodWord = true := gz_all (w := Cond.code yX12_in cX12_in 6 (some .boolean)) rfl gwGB_50
theorem gwGB_48 : wtGB_48.all goodWord = true := gz_all (w := Cond.static yX12_in) rfl gwGB_49
theorem gwGB_47 : wtGB_47.all goodWord = true := gz_all (w := Cond.methodLink RX12 102 yX12_in) rfl gwGB_48
theorem gwGB_46 : wtGB_46.all goodWord = true := gz_all (w := Cond.code yX12_end cX12_end 2 (some .int)) rfl gwGB_47
theorem gwGB_45 : wtGB_45.all goodWord = true := gz_all (w := Cond.selects RX12 yX12_end yX12_end) rfl gwGB_46
theorem gwGB_44 : wtGB_44.all goodWord = true := gz_all (w := Cond.instanceMethod yX12_end) rfl gwGB_45
theorem gwGB_43 : wtGB_43.all goodWord = true := gz_all (w := Cond.fieldLink RX12 99 "SightedMonthsModel" "taped" "I") rfl gwGB_44
theorem gwGB_42 : wtGB_42.all goodWord = true := gz_all (w := Cond.code yX12_feed cX12_feed 8 (some .int)) rfl gwGB_43
theorem gwGB_41 : wtGB_41.all goodWord = true := gz_all (w := Cond.selects RX12 yX12_feed yX12_feed) rfl gwGB_42
theorem gwGB_40 : wtGB_40.all goodWord = true := gz_all (w := Cond.instanceMethod yX12_feed) rfl gwGB_41
theorem gwGB_39 : wtGB_39.all goodWord = true := gz_all (w := Cond.fieldLink RX12 96 "SightedMonthsModel" "out" "[I") rfl gwGB_40
theorem gwGB_38 : wtGB_38.all goodWord = true := gz_all (w := Cond.fieldLink RX12 93 "SightedMonthsModel" "worth" "[I") rfl gwGB_39
theorem gwGB_37 : wtGB_37.all goodWord = true := gz_all (w := Cond.fieldLink RX12 90 "SightedMonthsModel" "aside" "[I") rfl gwGB_38
theorem gwGB_36 : wtGB_36.all goodWord = true := gz_all (w := Cond.fieldLink RX12 87 "SightedMonthsModel" "official" "[I") rfl gwGB_37
theorem gwGB_35 : wtGB_35.all goodWord = true := gz_all (w := Cond.fieldLink RX12 84 "SightedMonthsModel" "whose" "I") rfl gwGB_36
theorem gwGB_34 : wtGB_34.all goodWord = true := gz_all (w := Cond.fieldLink RX12 81 "SightedMonthsModel" "otherTrust" "I") rfl gwGB_35
theorem gwGB_33 : wtGB_33.all goodWord = true := gz_all (w := Cond.fieldLink RX12 78 "SightedMonthsModel" "without" "I") rfl gwGB_34
theorem gwGB_32 : wtGB_32.all goodWord = true := gz_all (w := Cond.fieldLink RX12 75 "SightedMonthsModel" "only" "I") rfl gwGB_33
theorem gwGB_31 : wtGB_31.all goodWord = true := gz_all (w := Cond.fieldLink RX12 72 "SightedMonthsModel" "row" "[I") rfl gwGB_32
theorem gwGB_30 : wtGB_30.all goodWord = true := gz_all (w := Cond.fieldLink RX12 69 "SightedMonthsModel" "verdict" "[I") rfl gwGB_31
theorem gwGB_29 : wtGB_29.all goodWord = true := gz_all (w := Cond.fieldLink RX12 66 "SightedMonthsModel" "ways" "[I") rfl gwGB_30
theorem gwGB_28 : wtGB_28.all goodWord = true := gz_all (w := Cond.fieldLink RX12 63 "SightedMonthsModel" "pin" "[I") rfl gwGB_29
theorem gwGB_27 : wtGB_27.all goodWord = true := gz_all (w := Cond.fieldLink RX12 60 "SightedMonthsModel" "least" "[I") rfl gwGB_28
theorem gwGB_26 : wtGB_26.all goodWord = true := gz_all (w := Cond.fieldLink RX12 57 "SightedMonthsModel" "must" "[I") rfl gwGB_27
theorem gwGB_25 : wtGB_25.all goodWord = true := gz_all (w := Cond.fieldLink RX12 53 "SightedMonthsModel" "faultPlace" "I") rfl gwGB_26
theorem gwGB_24 : wtGB_24.all goodWord = true := gz_all (w := Cond.fieldLink RX12 50 "SightedMonthsModel" "tape" "[I") rfl gwGB_25
theorem gwGB_23 : wtGB_23.all goodWord = true := gz_all (w := Cond.fieldLink RX12 47 "SightedMonthsModel" "kept" "[I") rfl gwGB_24
theorem gwGB_22 : wtGB_22.all goodWord = true := gz_all (w := Cond.fieldLink RX12 44 "SightedMonthsModel" "deedKind" "[I") rfl gwGB_23
theorem gwGB_21 : wtGB_21.all goodWord = true := gz_all (w := Cond.fieldLink RX12 41 "SightedMonthsModel" "deedLong" "[I") rfl gwGB_22
theorem gwGB_20 : wtGB_20.all goodWord = true := gz_all (w := Cond.fieldLink RX12 38 "SightedMonthsModel" "deedDay" "[I") rfl gwGB_21
theorem gwGB_19 : wtGB_19.all goodWord = true := gz_all (w := Cond.fieldLink RX12 35 "SightedMonthsModel" "deedMonth" "[I") rfl gwGB_20
theorem gwGB_18 : wtGB_18.all goodWord = true := gz_all (w := Cond.fieldLink RX12 32 "SightedMonthsModel" "reportKnown" "[I") rfl gwGB_19
theorem gwGB_17 : wtGB_17.all goodWord = true := gz_all (w := Cond.fieldLink RX12 29 "SightedMonthsModel" "reportDay" "[I") rfl gwGB_18
theorem gwGB_16 : wtGB_16.all goodWord = true := gz_all (w := Cond.fieldLink RX12 26 "SightedMonthsModel" "reportMonth" "[I") rfl gwGB_17
theorem gwGB_15 : wtGB_15.all goodWord = true := gz_all (w := Cond.fieldLink RX12 22 "SightedMonthsModel" "struck" "[Z") rfl gwGB_16
theorem gwGB_14 : wtGB_14.all goodWord = true := gz_all (w := Cond.arrayClass .boolean) rfl gwGB_15
theorem gwGB_13 : wtGB_13.all goodWord = true := gz_all (w := Cond.fieldLink RX12 19 "SightedMonthsModel" "reportKind" "[I") rfl gwGB_14
theorem gwGB_12 : wtGB_12.all goodWord = true := gz_all (w := Cond.fieldLink RX12 16 "SightedMonthsModel" "reportPlace" "[I") rfl gwGB_13
theorem gwGB_11 : wtGB_11.all goodWord = true := gz_all (w := Cond.fieldLink RX12 13 "SightedMonthsModel" "letter" "[I") rfl gwGB_12
theorem gwGB_10 : wtGB_10.all goodWord = true := gz_all (w := Cond.fieldLink RX12 7 "SightedMonthsModel" "trust" "[I") rfl gwGB_11
theorem gwGB_9 : wtGB_9.all goodWord = true := gz_all (w := Cond.methodLink RX12 1 objectInit) rfl gwGB_10
theorem gwGB_8 : wtGB_8.all goodWord = true := gz_all (w := Cond.code yX12_init cX12_init 1 none) rfl gwGB_9
theorem gwGB_7 : wtGB_7.all goodWord = true := gz_all (w := Cond.instanceMethod yX12_init) rfl gwGB_8
theorem gwGB_6 : wtGB_6.all goodWord = true := gz_all (w := Cond.arrayClass .long) rfl gwGB_7
theorem gwGB_5 : wtGB_5.all goodWord = true := gz_all (w := Cond.arrayClass .byte) rfl gwGB_6
theorem gwGB_4 : wtGB_4.all goodWord = true := gz_all (w := Cond.arrayClass .int) rfl gwGB_5
theorem gwGB_3 : wtGB_3.all goodWord = true := gz_all (w := Cond.code objectInit ⟨#[0xb1]⟩ 1 none) rfl gwGB_4
theorem gwGB_2 : wtGB_2.all goodWord = true := gz_all (w := Cond.instanceMethod objectInit) rfl gwGB_3
theorem gwGB_1 : wtGB_1.all goodWord = true := gz_all (w := Cond.initialized RX12) rfl gwGB_2
theorem gwGB_0 : wtGB_0.all goodWord = true := gz_all (w := Cond.instantiable RX12 57) rfl gwGB_1
theorem goodGB : wsGB.all goodWord = true := gwGB_0
def nzA (U : State) : Prop := va_Nw (.methodLinkNest RX11 11 yX6_init RX11) U ∧ va_Nw (.methodLinkNest RX6 11 yX10_init RX11) U ∧ va_Nw (.methodLinkNest RX0 29 yX5_init RX11) U ∧ va_Nw (.methodLinkNest RX0 30 yX7_init RX11) U ∧ va_Nw (.methodLinkNest RX0 31 yX2_init RX11) U ∧ va_Nw (.methodLinkNest RX11 28 yX3_init RX11) U ∧ va_Nw (.methodLinkNest RX11 35 yX1_init RX11) U ∧ va_Nw (.methodLinkNest RX1 11 yX3_init RX11) U ∧ va_Nw (.methodLinkNest RX11 45 yX9_init RX11) U ∧ va_Nw (.methodLinkNest RX11 52 yX8_init RX11) U ∧ va_Nw (.methodLinkNest RX11 59 yX4_init RX11) U ∧ va_Nw (.methodLinkNest RX3 48 yX11_firstRun RX11) U ∧ va_Nw (.methodLinkNest RX3 52 yX11_lastRun RX11) U ∧ va_Nw (.methodLinkNest RX3 56 yX11_runWithFull RX11) U ∧ va_Nw (.methodLinkNest RX3 60 yX11_runWithLean RX11) U ∧ va_Nw (.methodLinkNest RX3 63 yX11_dayOf RX11) U ∧ va_Nw (.methodLinkNest RX9 63 yX11_spot RX11) U ∧ va_Nw (.methodLinkNest RX9 67 yX11_firstRun RX11) U ∧ va_Nw (.methodLinkNest RX9 71 yX11_lastRun RX11) U ∧ va_Nw (.methodLinkNest RX9 74 yX11_runWithFull RX11) U ∧ va_Nw (.methodLinkNest RX9 78 yX11_runWithLean RX11) U ∧ va_Nw (.methodLinkNest RX9 92 yX11_cell RX11) U ∧ va_Nw (.methodLinkNest RX9 95 yX11_dayOf RX11) U ∧ va_Nw (.methodLinkNest RX8 24 yX11_cell RX11) U ∧ va_Nw (.methodLinkNest RX8 52 yX11_firstRun RX11) U ∧ va_Nw (.methodLinkNest RX8 56 yX11_lastRun RX11) U ∧ va_Nw (.methodLinkNest RX8 74 yX11_runWithFull RX11) U ∧ va_Nw (.methodLinkNest RX8 71 yX11_spot RX11) U ∧ va_Nw (.methodLinkNest RX8 77 yX11_runWithLean RX11) U ∧ va_Nw (.methodLinkNest RX2 23 yX11_anchorOf RX11) U ∧ va_Nw (.methodLinkNest RX2 29 yX11_offsetOf RX11) U ∧ va_AO RX5 U ∧ va_AO RX7 U ∧ va_AO RX2 U
theorem nzA_X11_11 {U : State} (h : nzA U) : va_Nw (.methodLinkNest RX11 11 yX6_init RX11) U := h.1
theorem nzA_X6_11 {U : State} (h : nzA U) : va_Nw (.methodLinkNest RX6 11 yX10_init RX11) U := h.2.1
theorem nzA_X0_29 {U : State} (h : nzA U) : va_Nw (.methodLinkNest RX0 29 yX5_init RX11) U := h.2.2.1
theorem nzA_X0_30 {U : State} (h : nzA U) : va_Nw (.methodLinkNest RX0 30 yX7_init RX11) U := h.2.2.2.1
theorem nzA_X0_31 {U : State} (h : nzA U) : va_Nw (.methodLinkNest RX0 31 yX2_init RX11) U := h.2.2.2.2.1
theorem nzA_X11_28 {U : State} (h : nzA U) : va_Nw (.methodLinkNest RX11 28 yX3_init RX11) U := h.2.2.2.2.2.1
theorem nzA_X11_35 {U : State} (h : nzA U) : va_Nw (.methodLinkNest RX11 35 yX1_init RX11) U := h.2.2.2.2.2.2.1
theorem nzA_X1_11 {U : State} (h : nzA U) : va_Nw (.methodLinkNest RX1 11 yX3_init RX11) U := h.2.2.2.2.2.2.2.1
theorem nzA_X11_45 {U : State} (h : nzA U) : va_Nw (.methodLinkNest RX11 45 yX9_init RX11) U := h.2.2.2.2.2.2.2.2.1
theorem nzA_X11_52 {U : State} (h : nzA U) : va_Nw (.methodLinkNest RX11 52 yX8_init RX11) U := h.2.2.2.2.2.2.2.2.2.1
theorem nzA_X11_59 {U : State} (h : nzA U) : va_Nw (.methodLinkNest RX11 59 yX4_init RX11) U := h.2.2.2.2.2.2.2.2.2.2.1
theorem nzA_X3_48 {U : State} (h : nzA U) : va_Nw (.methodLinkNest RX3 48 yX11_firstRun RX11) U := h.2.2.2.2.2.2.2.2.2.2.2.1
theorem nzA_X3_52 {U : State} (h : nzA U) : va_Nw (.methodLinkNest RX3 52 yX11_lastRun RX11) U := h.2.2.2.2.2.2.2.2.2.2.2.2.1
theorem nzA_X3_56 {U : State} (h : nzA U) : va_Nw (.methodLinkNest RX3 56 yX11_runWithFull RX11) U := h.2.2.2.2.2.2.2.2.2.2.2.2.2.1
theorem nzA_X3_60 {U : State} (h : nzA U) : va_Nw (.methodLinkNest RX3 60 yX11_runWithLean RX11) U := h.2.2.2.2.2.2.2.2.2.2.2.2.2.2.1
theorem nzA_X3_63 {U : State} (h : nzA U) : va_Nw (.methodLinkNest RX3 63 yX11_dayOf RX11) U := h.2.2.2.2.2.2.2.2.2.2.2.2.2.2.2.1
theorem nzA_X9_63 {U : State} (h : nzA U) : va_Nw (.methodLinkNest RX9 63 yX11_spot RX11) U := h.2.2.2.2.2.2.2.2.2.2.2.2.2.2.2.2.1
theorem nzA_X9_67 {U : State} (h : nzA U) : va_Nw (.methodLinkNest RX9 67 yX11_firstRun RX11) U := h.2.2.2.2.2.2.2.2.2.2.2.2.2.2.2.2.2.1
theorem nzA_X9_71 {U : State} (h : nzA U) : va_Nw (.methodLinkNest RX9 71 yX11_lastRun RX11) U := h.2.2.2.2.2.2.2.2.2.2.2.2.2.2.2.2.2.2.1
theorem nzA_X9_74 {U : State} (h : nzA U) : va_Nw (.methodLinkNest RX9 74 yX11_runWithFull RX11) U := h.2.2.2.2.2.2.2.2.2.2.2.2.2.2.2.2.2.2.2.1
theorem nzA_X9_78 {U : State} (h : nzA U) : va_Nw (.methodLinkNest RX9 78 yX11_runWithLean RX11) U := h.2.2.2.2.2.2.2.2.2.2.2.2.2.2.2.2.2.2.2.2.1
theorem nzA_X9_92 {U : State} (h : nzA U) : va_Nw (.methodLinkNest RX9 92 yX11_cell RX11) U := h.2.2.2.2.2.2.2.2.2.2.2.2.2.2.2.2.2.2.2.2.2.1
theorem nzA_X9_95 {U : State} (h : nzA U) : va_Nw (.methodLinkNest RX9 95 yX11_dayOf RX11) U := h.2.2.2.2.2.2.2.2.2.2.2.2.2.2.2.2.2.2.2.2.2.2.1
theorem nzA_X8_24 {U : State} (h : nzA U) : va_Nw (.methodLinkNest RX8 24 yX11_cell RX11) U := h.2.2.2.2.2.2.2.2.2.2.2.2.2.2.2.2.2.2.2.2.2.2.2.1
theorem nzA_X8_52 {U : State} (h : nzA U) : va_Nw (.methodLinkNest RX8 52 yX11_firstRun RX11) U := h.2.2.2.2.2.2.2.2.2.2.2.2.2.2.2.2.2.2.2.2.2.2.2.2.1
theorem nzA_X8_56 {U : State} (h : nzA U) : va_Nw (.methodLinkNest RX8 56 yX11_lastRun RX11) U := h.2.2.2.2.2.2.2.2.2.2.2.2.2.2.2.2.2.2.2.2.2.2.2.2.2.1
theorem nzA_X8_74 {U : State} (h : nzA U) : va_Nw (.methodLinkNest RX8 74 yX11_runWithFull RX11) U := h.2.2.2.2.2.2.2.2.2.2.2.2.2.2.2.2.2.2.2.2.2.2.2.2.2.2.1
theorem nzA_X8_71 {U : State} (h : nzA U) : va_Nw (.methodLinkNest RX8 71 yX11_spot RX11) U := h.2.2.2.2.2.2.2.2.2.2.2.2.2.2.2.2.2.2.2.2.2.2.2.2.2.2.2.1
theorem nzA_X8_77 {U : State} (h : nzA U) : va_Nw (.methodLinkNest RX8 77 yX11_runWithLean RX11) U := h.2.2.2.2.2.2.2.2.2.2.2.2.2.2.2.2.2.2.2.2.2.2.2.2.2.2.2.2.1
theorem nzA_X2_23 {U : State} (h : nzA U) : va_Nw (.methodLinkNest RX2 23 yX11_anchorOf RX11) U := h.2.2.2.2.2.2.2.2.2.2.2.2.2.2.2.2.2.2.2.2.2.2.2.2.2.2.2.2.2.1
theorem nzA_X2_29 {U : State} (h : nzA U) : va_Nw (.methodLinkNest RX2 29 yX11_offsetOf RX11) U := h.2.2.2.2.2.2.2.2.2.2.2.2.2.2.2.2.2.2.2.2.2.2.2.2.2.2.2.2.2.2.1
theorem nzA_ao_X5 {U : State} (h : nzA U) : va_AO RX5 U := h.2.2.2.2.2.2.2.2.2.2.2.2.2.2.2.2.2.2.2.2.2.2.2.2.2.2.2.2.2.2.2.1
theorem nzA_ao_X7 {U : State} (h : nzA U) : va_AO RX7 U := h.2.2.2.2.2.2.2.2.2.2.2.2.2.2.2.2.2.2.2.2.2.2.2.2.2.2.2.2.2.2.2.2.1
theorem nzA_ao_X2 {U : State} (h : nzA U) : va_AO RX2 U := h.2.2.2.2.2.2.2.2.2.2.2.2.2.2.2.2.2.2.2.2.2.2.2.2.2.2.2.2.2.2.2.2.2
theorem nzA_same {u U : State} (h : u.vm = U.vm) (hz : nzA u) : nzA U := ⟨va_Nw.same rfl h (nzA_X11_11 hz), va_Nw.same rfl h (nzA_X6_11 hz), va_Nw.same rfl h (nzA_X0_29 hz), va_Nw.same rfl h (nzA_X0_30 hz), va_Nw.same rfl h (nzA_X0_31 hz), va_Nw.same rfl h (nzA_X11_28 hz), va_Nw.same rfl h (nzA_X11_35 hz), va_Nw.same rfl h (nzA_X1_11 hz), va_Nw.same rfl h (nzA_X11_45 hz), va_Nw.same rfl h (nzA_X11_52 hz), va_Nw.same rfl h (nzA_X11_59 hz), va_Nw.same rfl h (nzA_X3_48 hz), va_Nw.same rfl h (nzA_X3_52 hz), va_Nw.same rfl h (nzA_X3_56 hz), va_Nw.same rfl h (nzA_X3_60 hz), va_Nw.same rfl h (nzA_X3_63 hz), va_Nw.same rfl h (nzA_X9_63 hz), va_Nw.same rfl h (nzA_X9_67 hz), va_Nw.same rfl h (nzA_X9_71 hz), va_Nw.same rfl h (nzA_X9_74 hz), va_Nw.same rfl h (nzA_X9_78 hz), va_Nw.same rfl h (nzA_X9_92 hz), va_Nw.same rfl h (nzA_X9_95 hz), va_Nw.same rfl h (nzA_X8_24 hz), va_Nw.same rfl h (nzA_X8_52 hz), va_Nw.same rfl h (nzA_X8_56 hz), va_Nw.same rfl h (nzA_X8_74 hz), va_Nw.same rfl h (nzA_X8_71 hz), va_Nw.same rfl h (nzA_X8_77 hz), va_Nw.same rfl h (nzA_X2_23 hz), va_Nw.same rfl h (nzA_X2_29 hz), va_AO.moved (h ▸ Vm.Alike.refl u.vm) (nzA_ao_X5 hz), va_AO.moved (h ▸ Vm.Alike.refl u.vm) (nzA_ao_X7 hz), va_AO.moved (h ▸ Vm.Alike.refl u.vm) (nzA_ao_X2 hz)⟩
theorem nzA_warm {s U : State} (hW : s.WarmedH U.vm) (hz : nzA s) : nzA U := ⟨va_Nw.warmM hW (nzA_X11_11 hz), va_Nw.warmM hW (nzA_X6_11 hz), va_Nw.warmM hW (nzA_X0_29 hz), va_Nw.warmM hW (nzA_X0_30 hz), va_Nw.warmM hW (nzA_X0_31 hz), va_Nw.warmM hW (nzA_X11_28 hz), va_Nw.warmM hW (nzA_X11_35 hz), va_Nw.warmM hW (nzA_X1_11 hz), va_Nw.warmM hW (nzA_X11_45 hz), va_Nw.warmM hW (nzA_X11_52 hz), va_Nw.warmM hW (nzA_X11_59 hz), va_Nw.warmM hW (nzA_X3_48 hz), va_Nw.warmM hW (nzA_X3_52 hz), va_Nw.warmM hW (nzA_X3_56 hz), va_Nw.warmM hW (nzA_X3_60 hz), va_Nw.warmM hW (nzA_X3_63 hz), va_Nw.warmM hW (nzA_X9_63 hz), va_Nw.warmM hW (nzA_X9_67 hz), va_Nw.warmM hW (nzA_X9_71 hz), va_Nw.warmM hW (nzA_X9_74 hz), va_Nw.warmM hW (nzA_X9_78 hz), va_Nw.warmM hW (nzA_X9_92 hz), va_Nw.warmM hW (nzA_X9_95 hz), va_Nw.warmM hW (nzA_X8_24 hz), va_Nw.warmM hW (nzA_X8_52 hz), va_Nw.warmM hW (nzA_X8_56 hz), va_Nw.warmM hW (nzA_X8_74 hz), va_Nw.warmM hW (nzA_X8_71 hz), va_Nw.warmM hW (nzA_X8_77 hz), va_Nw.warmM hW (nzA_X2_23 hz), va_Nw.warmM hW (nzA_X2_29 hz), va_AO.moved hW.alike (nzA_ao_X5 hz), va_AO.moved hW.alike (nzA_ao_X7 hz), va_AO.moved hW.alike (nzA_ao_X2 hz)⟩
theorem bl_nz : Bl (fun U => nzA U) := fun U g mk a h => nzA_same (u := U) (U := U.calling g mk a) rfl h
theorem hdS_X11_cell_X11_2 : yX11_cell.cls = RX11 ∧ yX11_cell.cls ≠ "java/lang/invoke/MethodHandle" ∧ yX11_cell.cls ≠ "java/lang/invoke/VarHandle" ∧ (parseMethodDescriptor yX11_cell.desc).map (fun d => d.parameters.length) = some 2 := by decide +kernel
theorem hdS_X11_firstRun_X11_1 : yX11_firstRun.cls = RX11 ∧ yX11_firstRun.cls ≠ "java/lang/invoke/MethodHandle" ∧ yX11_firstRun.cls ≠ "java/lang/invoke/VarHandle" ∧ (parseMethodDescriptor yX11_firstRun.desc).map (fun d => d.parameters.length) = some 1 := by decide +kernel
theorem hdS_X11_lastRun_X11_3 : yX11_lastRun.cls = RX11 ∧ yX11_lastRun.cls ≠ "java/lang/invoke/MethodHandle" ∧ yX11_lastRun.cls ≠ "java/lang/invoke/VarHandle" ∧ (parseMethodDescriptor yX11_lastRun.desc).map (fun d => d.parameters.length) = some 3 := by decide +kernel
theorem hdS_X11_runWithFull_X11_2 : yX11_runWithFull.cls = RX11 ∧ yX11_runWithFull.cls ≠ "java/lang/invoke/MethodHandle" ∧ yX11_runWithFull.cls ≠ "java/lang/invoke/VarHandle" ∧ (parseMethodDescriptor yX11_runWithFull.desc).map (fun d => d.parameters.length) = some 2 := by decide +kernel
theorem hdS_X11_runWithLean_X11_3 : yX11_runWithLean.cls = RX11 ∧ yX11_runWithLean.cls ≠ "java/lang/invoke/MethodHandle" ∧ yX11_runWithLean.cls ≠ "java/lang/invoke/VarHandle" ∧ (parseMethodDescriptor yX11_runWithLean.desc).map (fun d => d.parameters.length) = some 3 := by decide +kernel
theorem hdS_X11_dayOf_X11_2 : yX11_dayOf.cls = RX11 ∧ yX11_dayOf.cls ≠ "java/lang/invoke/MethodHandle" ∧ yX11_dayOf.cls ≠ "java/lang/invoke/VarHandle" ∧ (parseMethodDescriptor yX11_dayOf.desc).map (fun d => d.parameters.length) = some 2 := by decide +kernel
theorem fdX3_0 : parseFieldDescriptor (TX3 0).2.2.1 = some .int := by decide +kernel
theorem fdX3_1 : parseFieldDescriptor (TX3 1).2.2.1 = some .int := by decide +kernel
theorem fdX3_2 : parseFieldDescriptor (TX3 2).2.2.1 = some .int := by decide +kernel
theorem hdS_X3_rightFor_X3_1 : yX3_rightFor.cls = RX3 ∧ yX3_rightFor.cls ≠ "java/lang/invoke/MethodHandle" ∧ yX3_rightFor.cls ≠ "java/lang/invoke/VarHandle" ∧ (parseMethodDescriptor yX3_rightFor.desc).map (fun d => d.parameters.length) = some 1 := by decide +kernel
theorem hdS_J7_fill_53178_J7_2 : yJ7_fill_53178.cls = RJ7 ∧ yJ7_fill_53178.cls ≠ "java/lang/invoke/MethodHandle" ∧ yJ7_fill_53178.cls ≠ "java/lang/invoke/VarHandle" ∧ (parseMethodDescriptor yJ7_fill_53178.desc).map (fun d => d.parameters.length) = some 2 := by decide +kernel
theorem hdS_X11_spot_X11_3 : yX11_spot.cls = RX11 ∧ yX11_spot.cls ≠ "java/lang/invoke/MethodHandle" ∧ yX11_spot.cls ≠ "java/lang/invoke/VarHandle" ∧ (parseMethodDescriptor yX11_spot.desc).map (fun d => d.parameters.length) = some 3 := by decide +kernel
theorem hdV_X8_withFull_X8_3 : yX8_withFull.cls = RX8 ∧ yX8_withFull.cls ≠ "java/lang/invoke/MethodHandle" ∧ yX8_withFull.cls ≠ "java/lang/invoke/VarHandle" ∧ (parseMethodDescriptor yX8_withFull.desc).map (fun d => d.parameters.length) = some 3 := by decide +kernel
theorem hdV_X8_withLean_X8_3 : yX8_withLean.cls = RX8 ∧ yX8_withLean.cls ≠ "java/lang/invoke/MethodHandle" ∧ yX8_withLean.cls ≠ "java/lang/invoke/VarHandle" ∧ (parseMethodDescriptor yX8_withLean.desc).map (fun d => d.parameters.length) = some 3 := by decide +kernel
theorem fdX8_2 : parseFieldDescriptor (TX8 2).2.2.1 = some .int := by decide +kernel
theorem fdX8_3 : parseFieldDescriptor (TX8 3).2.2.1 = some .int := by decide +kernel
theorem fdX8_4 : parseFieldDescriptor (TX8 4).2.2.1 = some .int := by decide +kernel
theorem hdV_X3_allows_X3_2 : yX3_allows.cls = RX3 ∧ yX3_allows.cls ≠ "java/lang/invoke/MethodHandle" ∧ yX3_allows.cls ≠ "java/lang/invoke/VarHandle" ∧ (parseMethodDescriptor yX3_allows.desc).map (fun d => d.parameters.length) = some 2 := by decide +kernel
theorem hdV_X8_fillCell_X8_2 : yX8_fillCell.cls = RX8 ∧ yX8_fillCell.cls ≠ "java/lang/invoke/MethodHandle" ∧ yX8_fillCell.cls ≠ "java/lang/invoke/VarHandle" ∧ (parseMethodDescriptor yX8_fillCell.desc).map (fun d => d.parameters.length) = some 2 := by decide +kernel
theorem hdV_X9_withLean_X9_3 : yX9_withLean.cls = RX9 ∧ yX9_withLean.cls ≠ "java/lang/invoke/MethodHandle" ∧ yX9_withLean.cls ≠ "java/lang/invoke/VarHandle" ∧ (parseMethodDescriptor yX9_withLean.desc).map (fun d => d.parameters.length) = some 3 := by decide +kernel
theorem hdV_X9_withFull_X9_3 : yX9_withFull.cls = RX9 ∧ yX9_withFull.cls ≠ "java/lang/invoke/MethodHandle" ∧ yX9_withFull.cls ≠ "java/lang/invoke/VarHandle" ∧ (parseMethodDescriptor yX9_withFull.desc).map (fun d => d.parameters.length) = some 3 := by decide +kernel
theorem hdV_X9_takeOnWithLean_X9_2 : yX9_takeOnWithLean.cls = RX9 ∧ yX9_takeOnWithLean.cls ≠ "java/lang/invoke/MethodHandle" ∧ yX9_takeOnWithLean.cls ≠ "java/lang/invoke/VarHandle" ∧ (parseMethodDescriptor yX9_takeOnWithLean.desc).map (fun d => d.parameters.length) = some 2 := by decide +kernel
theorem hdV_X9_takeOnWithFull_X9_2 : yX9_takeOnWithFull.cls = RX9 ∧ yX9_takeOnWithFull.cls ≠ "java/lang/invoke/MethodHandle" ∧ yX9_takeOnWithFull.cls ≠ "java/lang/invoke/VarHandle" ∧ (parseMethodDescriptor yX9_takeOnWithFull.desc).map (fun d => d.parameters.length) = some 2 := by decide +kernel
theorem fdX9_3 : parseFieldDescriptor (TX9 3).2.2.1 = some .int := by decide +kernel
theorem fdX9_4 : parseFieldDescriptor (TX9 4).2.2.1 = some .int := by decide +kernel
theorem fdX9_5 : parseFieldDescriptor (TX9 5).2.2.1 = some .int := by decide +kernel
theorem hdV_X9_countBefore_X9_1 : yX9_countBefore.cls = RX9 ∧ yX9_countBefore.cls ≠ "java/lang/invoke/MethodHandle" ∧ yX9_countBefore.cls ≠ "java/lang/invoke/VarHandle" ∧ (parseMethodDescriptor yX9_countBefore.desc).map (fun d => d.parameters.length) = some 1 := by decide +kernel
theorem hdV_X9_countBehind_X9_0 : yX9_countBehind.cls = RX9 ∧ yX9_countBehind.cls ≠ "java/lang/invoke/MethodHandle" ∧ yX9_countBehind.cls ≠ "java/lang/invoke/VarHandle" ∧ (parseMethodDescriptor yX9_countBehind.desc).map (fun d => d.parameters.length) = some 0 := by decide +kernel
theorem hdV_X9_countStarts_X9_0 : yX9_countStarts.cls = RX9 ∧ yX9_countStarts.cls ≠ "java/lang/invoke/MethodHandle" ∧ yX9_countStarts.cls ≠ "java/lang/invoke/VarHandle" ∧ (parseMethodDescriptor yX9_countStarts.desc).map (fun d => d.parameters.length) = some 0 := by decide +kernel
theorem hdV_X4_changesAt_X4_2 : yX4_changesAt.cls = RX4 ∧ yX4_changesAt.cls ≠ "java/lang/invoke/MethodHandle" ∧ yX4_changesAt.cls ≠ "java/lang/invoke/VarHandle" ∧ (parseMethodDescriptor yX4_changesAt.desc).map (fun d => d.parameters.length) = some 2 := by decide +kernel
theorem fdX0_0 : parseFieldDescriptor (TX0 0).2.2.1 = some .int := by decide +kernel
theorem fdX0_1 : parseFieldDescriptor (TX0 1).2.2.1 = some .int := by decide +kernel
theorem fdX0_2 : parseFieldDescriptor (TX0 2).2.2.1 = some .int := by decide +kernel
theorem fdX0_3 : parseFieldDescriptor (TX0 3).2.2.1 = some .int := by decide +kernel
theorem fdX0_4 : parseFieldDescriptor (TX0 4).2.2.1 = some .boolean := by decide +kernel
theorem fdX0_5 : parseFieldDescriptor (TX0 5).2.2.1 = some .int := by decide +kernel
theorem fdX0_6 : parseFieldDescriptor (TX0 6).2.2.1 = some .int := by decide +kernel
theorem fdX0_7 : parseFieldDescriptor (TX0 7).2.2.1 = some .int := by decide +kernel
theorem fdX0_8 : parseFieldDescriptor (TX0 8).2.2.1 = some .int := by decide +kernel
theorem fdX0_9 : parseFieldDescriptor (TX0 9).2.2.1 = some .int := by decide +kernel
theorem fdX10_1 : parseFieldDescriptor (TX10 1).2.2.1 = some .int := by decide +kernel
theorem hdV_X0_standingOf_X0_1 : yX0_standingOf.cls = RX0 ∧ yX0_standingOf.cls ≠ "java/lang/invoke/MethodHandle" ∧ yX0_standingOf.cls ≠ "java/lang/invoke/VarHandle" ∧ (parseMethodDescriptor yX0_standingOf.desc).map (fun d => d.parameters.length) = some 1 := by decide +kernel
theorem hdV_X7_isKnownBy_X7_1 : yX7_isKnownBy.cls = RX7 ∧ yX7_isKnownBy.cls ≠ "java/lang/invoke/MethodHandle" ∧ yX7_isKnownBy.cls ≠ "java/lang/invoke/VarHandle" ∧ (parseMethodDescriptor yX7_isKnownBy.desc).map (fun d => d.parameters.length) = some 1 := by decide +kernel
theorem fdX1_5 : parseFieldDescriptor (TX1 5).2.2.1 = some .int := by decide +kernel
theorem hdS_X1_turnOf_X1_2 : yX1_turnOf.cls = RX1 ∧ yX1_turnOf.cls ≠ "java/lang/invoke/MethodHandle" ∧ yX1_turnOf.cls ≠ "java/lang/invoke/VarHandle" ∧ (parseMethodDescriptor yX1_turnOf.desc).map (fun d => d.parameters.length) = some 2 := by decide +kernel
theorem hdV_X1_insert_X1_2 : yX1_insert.cls = RX1 ∧ yX1_insert.cls ≠ "java/lang/invoke/MethodHandle" ∧ yX1_insert.cls ≠ "java/lang/invoke/VarHandle" ∧ (parseMethodDescriptor yX1_insert.desc).map (fun d => d.parameters.length) = some 2 := by decide +kernel
theorem hdV_X3_narrow_X3_1 : yX3_narrow.cls = RX3 ∧ yX3_narrow.cls ≠ "java/lang/invoke/MethodHandle" ∧ yX3_narrow.cls ≠ "java/lang/invoke/VarHandle" ∧ (parseMethodDescriptor yX3_narrow.desc).map (fun d => d.parameters.length) = some 1 := by decide +kernel
theorem hdV_X3_fits_X3_0 : yX3_fits.cls = RX3 ∧ yX3_fits.cls ≠ "java/lang/invoke/MethodHandle" ∧ yX3_fits.cls ≠ "java/lang/invoke/VarHandle" ∧ (parseMethodDescriptor yX3_fits.desc).map (fun d => d.parameters.length) = some 0 := by decide +kernel
theorem hdV_X0_earlyOf_X0_1 : yX0_earlyOf.cls = RX0 ∧ yX0_earlyOf.cls ≠ "java/lang/invoke/MethodHandle" ∧ yX0_earlyOf.cls ≠ "java/lang/invoke/VarHandle" ∧ (parseMethodDescriptor yX0_earlyOf.desc).map (fun d => d.parameters.length) = some 1 := by decide +kernel
theorem hdV_X1_lineUp_X1_2 : yX1_lineUp.cls = RX1 ∧ yX1_lineUp.cls ≠ "java/lang/invoke/MethodHandle" ∧ yX1_lineUp.cls ≠ "java/lang/invoke/VarHandle" ∧ (parseMethodDescriptor yX1_lineUp.desc).map (fun d => d.parameters.length) = some 2 := by decide +kernel
theorem hdV_X3_open_X3_1 : yX3_open.cls = RX3 ∧ yX3_open.cls ≠ "java/lang/invoke/MethodHandle" ∧ yX3_open.cls ≠ "java/lang/invoke/VarHandle" ∧ (parseMethodDescriptor yX3_open.desc).map (fun d => d.parameters.length) = some 1 := by decide +kernel
theorem fdX1_6 : parseFieldDescriptor (TX1 6).2.2.1 = some .int := by decide +kernel
theorem hdV_X3_beginsInto_X3_1 : yX3_beginsInto.cls = RX3 ∧ yX3_beginsInto.cls ≠ "java/lang/invoke/MethodHandle" ∧ yX3_beginsInto.cls ≠ "java/lang/invoke/VarHandle" ∧ (parseMethodDescriptor yX3_beginsInto.desc).map (fun d => d.parameters.length) = some 1 := by decide +kernel
theorem hdV_X1_verdictOn_X1_2 : yX1_verdictOn.cls = RX1 ∧ yX1_verdictOn.cls ≠ "java/lang/invoke/MethodHandle" ∧ yX1_verdictOn.cls ≠ "java/lang/invoke/VarHandle" ∧ (parseMethodDescriptor yX1_verdictOn.desc).map (fun d => d.parameters.length) = some 2 := by decide +kernel
theorem hdS_X12_in_X12_3 : yX12_in.cls = RX12 ∧ yX12_in.cls ≠ "java/lang/invoke/MethodHandle" ∧ yX12_in.cls ≠ "java/lang/invoke/VarHandle" ∧ (parseMethodDescriptor yX12_in.desc).map (fun d => d.parameters.length) = some 3 := by decide +kernel
theorem fdX12_37 : parseFieldDescriptor (TX12 37).2.2.1 = some .boolean := by decide +kernel
theorem hdV_X12_unpins_X12_0 : yX12_unpins.cls = RX12 ∧ yX12_unpins.cls ≠ "java/lang/invoke/MethodHandle" ∧ yX12_unpins.cls ≠ "java/lang/invoke/VarHandle" ∧ (parseMethodDescriptor yX12_unpins.desc).map (fun d => d.parameters.length) = some 0 := by decide +kernel
theorem hdV_X12_runBehind_X12_2 : yX12_runBehind.cls = RX12 ∧ yX12_runBehind.cls ≠ "java/lang/invoke/MethodHandle" ∧ yX12_runBehind.cls ≠ "java/lang/invoke/VarHandle" ∧ (parseMethodDescriptor yX12_runBehind.desc).map (fun d => d.parameters.length) = some 2 := by decide +kernel
theorem hdS_X12_placeOf_X12_3 : yX12_placeOf.cls = RX12 ∧ yX12_placeOf.cls ≠ "java/lang/invoke/MethodHandle" ∧ yX12_placeOf.cls ≠ "java/lang/invoke/VarHandle" ∧ (parseMethodDescriptor yX12_placeOf.desc).map (fun d => d.parameters.length) = some 3 := by decide +kernel
theorem hdV_X12_isOpen_X12_2 : yX12_isOpen.cls = RX12 ∧ yX12_isOpen.cls ≠ "java/lang/invoke/MethodHandle" ∧ yX12_isOpen.cls ≠ "java/lang/invoke/VarHandle" ∧ (parseMethodDescriptor yX12_isOpen.desc).map (fun d => d.parameters.length) = some 2 := by decide +kernel
theorem hdV_X12_waysBy_X12_4 : yX12_waysBy.cls = RX12 ∧ yX12_waysBy.cls ≠ "java/lang/invoke/MethodHandle" ∧ yX12_waysBy.cls ≠ "java/lang/invoke/VarHandle" ∧ (parseMethodDescriptor yX12_waysBy.desc).map (fun d => d.parameters.length) = some 4 := by decide +kernel
theorem hdV_X12_counts_X12_0 : yX12_counts.cls = RX12 ∧ yX12_counts.cls ≠ "java/lang/invoke/MethodHandle" ∧ yX12_counts.cls ≠ "java/lang/invoke/VarHandle" ∧ (parseMethodDescriptor yX12_counts.desc).map (fun d => d.parameters.length) = some 0 := by decide +kernel
theorem hdV_X12_trustOf_X12_1 : yX12_trustOf.cls = RX12 ∧ yX12_trustOf.cls ≠ "java/lang/invoke/MethodHandle" ∧ yX12_trustOf.cls ≠ "java/lang/invoke/VarHandle" ∧ (parseMethodDescriptor yX12_trustOf.desc).map (fun d => d.parameters.length) = some 1 := by decide +kernel
theorem hdV_X12_isNameAhead_X12_2 : yX12_isNameAhead.cls = RX12 ∧ yX12_isNameAhead.cls ≠ "java/lang/invoke/MethodHandle" ∧ yX12_isNameAhead.cls ≠ "java/lang/invoke/VarHandle" ∧ (parseMethodDescriptor yX12_isNameAhead.desc).map (fun d => d.parameters.length) = some 2 := by decide +kernel
theorem fdX12_41 : parseFieldDescriptor (TX12 41).2.2.1 = some .int := by decide +kernel
theorem hdV_X12_isKnown_X12_2 : yX12_isKnown.cls = RX12 ∧ yX12_isKnown.cls ≠ "java/lang/invoke/MethodHandle" ∧ yX12_isKnown.cls ≠ "java/lang/invoke/VarHandle" ∧ (parseMethodDescriptor yX12_isKnown.desc).map (fun d => d.parameters.length) = some 2 := by decide +kernel
theorem hdV_X12_isAhead_X12_2 : yX12_isAhead.cls = RX12 ∧ yX12_isAhead.cls ≠ "java/lang/invoke/MethodHandle" ∧ yX12_isAhead.cls ≠ "java/lang/invoke/VarHandle" ∧ (parseMethodDescriptor yX12_isAhead.desc).map (fun d => d.parameters.length) = some 2 := by decide +kernel
theorem hdV_X12_holds_X12_1 : yX12_holds.cls = RX12 ∧ yX12_holds.cls ≠ "java/lang/invoke/MethodHandle" ∧ yX12_holds.cls ≠ "java/lang/invoke/VarHandle" ∧ (parseMethodDescriptor yX12_holds.desc).map (fun d => d.parameters.length) = some 1 := by decide +kernel
theorem hdV_X12_earlyOf_X12_1 : yX12_earlyOf.cls = RX12 ∧ yX12_earlyOf.cls ≠ "java/lang/invoke/MethodHandle" ∧ yX12_earlyOf.cls ≠ "java/lang/invoke/VarHandle" ∧ (parseMethodDescriptor yX12_earlyOf.desc).map (fun d => d.parameters.length) = some 1 := by decide +kernel
theorem hdV_X12_frees_X12_0 : yX12_frees.cls = RX12 ∧ yX12_frees.cls ≠ "java/lang/invoke/MethodHandle" ∧ yX12_frees.cls ≠ "java/lang/invoke/VarHandle" ∧ (parseMethodDescriptor yX12_frees.desc).map (fun d => d.parameters.length) = some 0 := by decide +kernel
theorem hdV_X12_laysRow_X12_1 : yX12_laysRow.cls = RX12 ∧ yX12_laysRow.cls ≠ "java/lang/invoke/MethodHandle" ∧ yX12_laysRow.cls ≠ "java/lang/invoke/VarHandle" ∧ (parseMethodDescriptor yX12_laysRow.desc).map (fun d => d.parameters.length) = some 1 := by decide +kernel
theorem hdV_X12_judges_X12_1 : yX12_judges.cls = RX12 ∧ yX12_judges.cls ≠ "java/lang/invoke/MethodHandle" ∧ yX12_judges.cls ≠ "java/lang/invoke/VarHandle" ∧ (parseMethodDescriptor yX12_judges.desc).map (fun d => d.parameters.length) = some 1 := by decide +kernel
theorem hdV_X12_judgesAll_X12_1 : yX12_judgesAll.cls = RX12 ∧ yX12_judgesAll.cls ≠ "java/lang/invoke/MethodHandle" ∧ yX12_judgesAll.cls ≠ "java/lang/invoke/VarHandle" ∧ (parseMethodDescriptor yX12_judgesAll.desc).map (fun d => d.parameters.length) = some 1 := by decide +kernel
theorem hdV_X12_laysOfficial_X12_0 : yX12_laysOfficial.cls = RX12 ∧ yX12_laysOfficial.cls ≠ "java/lang/invoke/MethodHandle" ∧ yX12_laysOfficial.cls ≠ "java/lang/invoke/VarHandle" ∧ (parseMethodDescriptor yX12_laysOfficial.desc).map (fun d => d.parameters.length) = some 0 := by decide +kernel
theorem hdV_X12_countsWith_X12_4 : yX12_countsWith.cls = RX12 ∧ yX12_countsWith.cls ≠ "java/lang/invoke/MethodHandle" ∧ yX12_countsWith.cls ≠ "java/lang/invoke/VarHandle" ∧ (parseMethodDescriptor yX12_countsWith.desc).map (fun d => d.parameters.length) = some 4 := by decide +kernel
theorem hdV_X12_beginsOn_X12_2 : yX12_beginsOn.cls = RX12 ∧ yX12_beginsOn.cls ≠ "java/lang/invoke/MethodHandle" ∧ yX12_beginsOn.cls ≠ "java/lang/invoke/VarHandle" ∧ (parseMethodDescriptor yX12_beginsOn.desc).map (fun d => d.parameters.length) = some 2 := by decide +kernel
theorem hdV_X12_lengthBy_X12_1 : yX12_lengthBy.cls = RX12 ∧ yX12_lengthBy.cls ≠ "java/lang/invoke/MethodHandle" ∧ yX12_lengthBy.cls ≠ "java/lang/invoke/VarHandle" ∧ (parseMethodDescriptor yX12_lengthBy.desc).map (fun d => d.parameters.length) = some 1 := by decide +kernel
theorem hdV_X12_isTime_X12_1 : yX12_isTime.cls = RX12 ∧ yX12_isTime.cls ≠ "java/lang/invoke/MethodHandle" ∧ yX12_isTime.cls ≠ "java/lang/invoke/VarHandle" ∧ (parseMethodDescriptor yX12_isTime.desc).map (fun d => d.parameters.length) = some 1 := by decide +kernel
theorem hdV_X12_isReport_X12_1 : yX12_isReport.cls = RX12 ∧ yX12_isReport.cls ≠ "java/lang/invoke/MethodHandle" ∧ yX12_isReport.cls ≠ "java/lang/invoke/VarHandle" ∧ (parseMethodDescriptor yX12_isReport.desc).map (fun d => d.parameters.length) = some 1 := by decide +kernel
theorem hdV_X12_areBoth_X12_2 : yX12_areBoth.cls = RX12 ∧ yX12_areBoth.cls ≠ "java/lang/invoke/MethodHandle" ∧ yX12_areBoth.cls ≠ "java/lang/invoke/VarHandle" ∧ (parseMethodDescriptor yX12_areBoth.desc).map (fun d => d.parameters.length) = some 2 := by decide +kernel
theorem hdV_X12_isBegin_X12_1 : yX12_isBegin.cls = RX12 ∧ yX12_isBegin.cls ≠ "java/lang/invoke/MethodHandle" ∧ yX12_isBegin.cls ≠ "java/lang/invoke/VarHandle" ∧ (parseMethodDescriptor yX12_isBegin.desc).map (fun d => d.parameters.length) = some 1 := by decide +kernel
theorem hdV_X12_officialBy_X12_1 : yX12_officialBy.cls = RX12 ∧ yX12_officialBy.cls ≠ "java/lang/invoke/MethodHandle" ∧ yX12_officialBy.cls ≠ "java/lang/invoke/VarHandle" ∧ (parseMethodDescriptor yX12_officialBy.desc).map (fun d => d.parameters.length) = some 1 := by decide +kernel
theorem hdV_X12_spanOf_X12_2 : yX12_spanOf.cls = RX12 ∧ yX12_spanOf.cls ≠ "java/lang/invoke/MethodHandle" ∧ yX12_spanOf.cls ≠ "java/lang/invoke/VarHandle" ∧ (parseMethodDescriptor yX12_spanOf.desc).map (fun d => d.parameters.length) = some 2 := by decide +kernel
theorem hdV_X12_isMonth_X12_1 : yX12_isMonth.cls = RX12 ∧ yX12_isMonth.cls ≠ "java/lang/invoke/MethodHandle" ∧ yX12_isMonth.cls ≠ "java/lang/invoke/VarHandle" ∧ (parseMethodDescriptor yX12_isMonth.desc).map (fun d => d.parameters.length) = some 1 := by decide +kernel
theorem hdS_X12_isInMonth_X12_1 : yX12_isInMonth.cls = RX12 ∧ yX12_isInMonth.cls ≠ "java/lang/invoke/MethodHandle" ∧ yX12_isInMonth.cls ≠ "java/lang/invoke/VarHandle" ∧ (parseMethodDescriptor yX12_isInMonth.desc).map (fun d => d.parameters.length) = some 1 := by decide +kernel
theorem hdV_X12_dayBy_X12_2 : yX12_dayBy.cls = RX12 ∧ yX12_dayBy.cls ≠ "java/lang/invoke/MethodHandle" ∧ yX12_dayBy.cls ≠ "java/lang/invoke/VarHandle" ∧ (parseMethodDescriptor yX12_dayBy.desc).map (fun d => d.parameters.length) = some 2 := by decide +kernel
theorem hdV_X12_datesWith_X12_3 : yX12_datesWith.cls = RX12 ∧ yX12_datesWith.cls ≠ "java/lang/invoke/MethodHandle" ∧ yX12_datesWith.cls ≠ "java/lang/invoke/VarHandle" ∧ (parseMethodDescriptor yX12_datesWith.desc).map (fun d => d.parameters.length) = some 3 := by decide +kernel
theorem hdV_X12_fallsOn_X12_3 : yX12_fallsOn.cls = RX12 ∧ yX12_fallsOn.cls ≠ "java/lang/invoke/MethodHandle" ∧ yX12_fallsOn.cls ≠ "java/lang/invoke/VarHandle" ∧ (parseMethodDescriptor yX12_fallsOn.desc).map (fun d => d.parameters.length) = some 3 := by decide +kernel
theorem fdX12_42 : parseFieldDescriptor (TX12 42).2.2.1 = some .int := by decide +kernel
theorem hdV_X12_isPlace_X12_1 : yX12_isPlace.cls = RX12 ∧ yX12_isPlace.cls ≠ "java/lang/invoke/MethodHandle" ∧ yX12_isPlace.cls ≠ "java/lang/invoke/VarHandle" ∧ (parseMethodDescriptor yX12_isPlace.desc).map (fun d => d.parameters.length) = some 1 := by decide +kernel
theorem hdV_X12_ownBy_X12_2 : yX12_ownBy.cls = RX12 ∧ yX12_ownBy.cls ≠ "java/lang/invoke/MethodHandle" ∧ yX12_ownBy.cls ≠ "java/lang/invoke/VarHandle" ∧ (parseMethodDescriptor yX12_ownBy.desc).map (fun d => d.parameters.length) = some 2 := by decide +kernel
theorem hdV_X12_keepsOfficial_X12_0 : yX12_keepsOfficial.cls = RX12 ∧ yX12_keepsOfficial.cls ≠ "java/lang/invoke/MethodHandle" ∧ yX12_keepsOfficial.cls ≠ "java/lang/invoke/VarHandle" ∧ (parseMethodDescriptor yX12_keepsOfficial.desc).map (fun d => d.parameters.length) = some 0 := by decide +kernel
theorem hdV_X12_unlike_X12_0 : yX12_unlike.cls = RX12 ∧ yX12_unlike.cls ≠ "java/lang/invoke/MethodHandle" ∧ yX12_unlike.cls ≠ "java/lang/invoke/VarHandle" ∧ (parseMethodDescriptor yX12_unlike.desc).map (fun d => d.parameters.length) = some 0 := by decide +kernel
theorem fdX12_43 : parseFieldDescriptor (TX12 43).2.2.1 = some .int := by decide +kernel
theorem fdX12_45 : parseFieldDescriptor (TX12 45).2.2.1 = some .int := by decide +kernel
theorem fdX12_44 : parseFieldDescriptor (TX12 44).2.2.1 = some .int := by decide +kernel
theorem fdX12_4 : parseFieldDescriptor (TX12 4).2.2.1 = some .boolean := by decide +kernel
theorem fdX12_5 : parseFieldDescriptor (TX12 5).2.2.1 = some .int := by decide +kernel
theorem fdX12_6 : parseFieldDescriptor (TX12 6).2.2.1 = some .int := by decide +kernel
theorem fdX12_26 : parseFieldDescriptor (TX12 26).2.2.1 = some .int := by decide +kernel
theorem fdX12_47 : parseFieldDescriptor (TX12 47).2.2.1 = some .int := by decide +kernel
theorem hdV_X12_laysRanked_X12_1 : yX12_laysRanked.cls = RX12 ∧ yX12_laysRanked.cls ≠ "java/lang/invoke/MethodHandle" ∧ yX12_laysRanked.cls ≠ "java/lang/invoke/VarHandle" ∧ (parseMethodDescriptor yX12_laysRanked.desc).map (fun d => d.parameters.length) = some 1 := by decide +kernel
theorem hdV_X12_takenBits_X12_0 : yX12_takenBits.cls = RX12 ∧ yX12_takenBits.cls ≠ "java/lang/invoke/MethodHandle" ∧ yX12_takenBits.cls ≠ "java/lang/invoke/VarHandle" ∧ (parseMethodDescriptor yX12_takenBits.desc).map (fun d => d.parameters.length) = some 0 := by decide +kernel
theorem hdS_J6_bitCount_0f7a4_J6_1 : yJ6_bitCount_0f7a4.cls = RJ6 ∧ yJ6_bitCount_0f7a4.cls ≠ "java/lang/invoke/MethodHandle" ∧ yJ6_bitCount_0f7a4.cls ≠ "java/lang/invoke/VarHandle" ∧ (parseMethodDescriptor yJ6_bitCount_0f7a4.desc).map (fun d => d.parameters.length) = some 1 := by decide +kernel
theorem hdV_X12_costOf_X12_4 : yX12_costOf.cls = RX12 ∧ yX12_costOf.cls ≠ "java/lang/invoke/MethodHandle" ∧ yX12_costOf.cls ≠ "java/lang/invoke/VarHandle" ∧ (parseMethodDescriptor yX12_costOf.desc).map (fun d => d.parameters.length) = some 4 := by decide +kernel
theorem hdV_X12_worthBy_X12_4 : yX12_worthBy.cls = RX12 ∧ yX12_worthBy.cls ≠ "java/lang/invoke/MethodHandle" ∧ yX12_worthBy.cls ≠ "java/lang/invoke/VarHandle" ∧ (parseMethodDescriptor yX12_worthBy.desc).map (fun d => d.parameters.length) = some 4 := by decide +kernel
theorem fdX12_54 : parseFieldDescriptor (TX12 54).2.2.1 = some .int := by decide +kernel
theorem hdV_X12_laysWorth_X12_2 : yX12_laysWorth.cls = RX12 ∧ yX12_laysWorth.cls ≠ "java/lang/invoke/MethodHandle" ∧ yX12_laysWorth.cls ≠ "java/lang/invoke/VarHandle" ∧ (parseMethodDescriptor yX12_laysWorth.desc).map (fun d => d.parameters.length) = some 2 := by decide +kernel
theorem fdX12_10 : parseFieldDescriptor (TX12 10).2.2.1 = some .int := by decide +kernel
theorem hdV_X12_lays_X12_5 : yX12_lays.cls = RX12 ∧ yX12_lays.cls ≠ "java/lang/invoke/MethodHandle" ∧ yX12_lays.cls ≠ "java/lang/invoke/VarHandle" ∧ (parseMethodDescriptor yX12_lays.desc).map (fun d => d.parameters.length) = some 5 := by decide +kernel
theorem fdX12_1 : parseFieldDescriptor (TX12 1).2.2.1 = some .int := by decide +kernel
theorem fdX12_2 : parseFieldDescriptor (TX12 2).2.2.1 = some .int := by decide +kernel
theorem hdV_X12_monthOf_X12_1 : yX12_monthOf.cls = RX12 ∧ yX12_monthOf.cls ≠ "java/lang/invoke/MethodHandle" ∧ yX12_monthOf.cls ≠ "java/lang/invoke/VarHandle" ∧ (parseMethodDescriptor yX12_monthOf.desc).map (fun d => d.parameters.length) = some 1 := by decide +kernel
theorem hdV_X12_behindOf_X12_1 : yX12_behindOf.cls = RX12 ∧ yX12_behindOf.cls ≠ "java/lang/invoke/MethodHandle" ∧ yX12_behindOf.cls ≠ "java/lang/invoke/VarHandle" ∧ (parseMethodDescriptor yX12_behindOf.desc).map (fun d => d.parameters.length) = some 1 := by decide +kernel
theorem hdV_X12_isDeed_X12_1 : yX12_isDeed.cls = RX12 ∧ yX12_isDeed.cls ≠ "java/lang/invoke/MethodHandle" ∧ yX12_isDeed.cls ≠ "java/lang/invoke/VarHandle" ∧ (parseMethodDescriptor yX12_isDeed.desc).map (fun d => d.parameters.length) = some 1 := by decide +kernel
theorem hdV_X12_dueBy_X12_1 : yX12_dueBy.cls = RX12 ∧ yX12_dueBy.cls ≠ "java/lang/invoke/MethodHandle" ∧ yX12_dueBy.cls ≠ "java/lang/invoke/VarHandle" ∧ (parseMethodDescriptor yX12_dueBy.desc).map (fun d => d.parameters.length) = some 1 := by decide +kernel
theorem hdV_X12_duesOn_X12_2 : yX12_duesOn.cls = RX12 ∧ yX12_duesOn.cls ≠ "java/lang/invoke/MethodHandle" ∧ yX12_duesOn.cls ≠ "java/lang/invoke/VarHandle" ∧ (parseMethodDescriptor yX12_duesOn.desc).map (fun d => d.parameters.length) = some 2 := by decide +kernel
theorem hdV_X12_dueSpanOf_X12_2 : yX12_dueSpanOf.cls = RX12 ∧ yX12_dueSpanOf.cls ≠ "java/lang/invoke/MethodHandle" ∧ yX12_dueSpanOf.cls ≠ "java/lang/invoke/VarHandle" ∧ (parseMethodDescriptor yX12_dueSpanOf.desc).map (fun d => d.parameters.length) = some 2 := by decide +kernel
theorem fdX12_50 : parseFieldDescriptor (TX12 50).2.2.1 = some .boolean := by decide +kernel
theorem fdX12_51 : parseFieldDescriptor (TX12 51).2.2.1 = some .boolean := by decide +kernel
theorem hdV_X12_compares_X12_2 : yX12_compares.cls = RX12 ∧ yX12_compares.cls ≠ "java/lang/invoke/MethodHandle" ∧ yX12_compares.cls ≠ "java/lang/invoke/VarHandle" ∧ (parseMethodDescriptor yX12_compares.desc).map (fun d => d.parameters.length) = some 2 := by decide +kernel
theorem fdX12_48 : parseFieldDescriptor (TX12 48).2.2.1 = some .int := by decide +kernel
theorem fdX12_49 : parseFieldDescriptor (TX12 49).2.2.1 = some .int := by decide +kernel
theorem hdV_X12_nextTime_X12_1 : yX12_nextTime.cls = RX12 ∧ yX12_nextTime.cls ≠ "java/lang/invoke/MethodHandle" ∧ yX12_nextTime.cls ≠ "java/lang/invoke/VarHandle" ∧ (parseMethodDescriptor yX12_nextTime.desc).map (fun d => d.parameters.length) = some 1 := by decide +kernel
theorem hdV_X12_follows_X12_2 : yX12_follows.cls = RX12 ∧ yX12_follows.cls ≠ "java/lang/invoke/MethodHandle" ∧ yX12_follows.cls ≠ "java/lang/invoke/VarHandle" ∧ (parseMethodDescriptor yX12_follows.desc).map (fun d => d.parameters.length) = some 2 := by decide +kernel
theorem hdV_X11_isTold_X11_0 : yX11_isTold.cls = RX11 ∧ yX11_isTold.cls ≠ "java/lang/invoke/MethodHandle" ∧ yX11_isTold.cls ≠ "java/lang/invoke/VarHandle" ∧ (parseMethodDescriptor yX11_isTold.desc).map (fun d => d.parameters.length) = some 0 := by decide +kernel
theorem hdV_X11_hasMonth_X11_3 : yX11_hasMonth.cls = RX11 ∧ yX11_hasMonth.cls ≠ "java/lang/invoke/MethodHandle" ∧ yX11_hasMonth.cls ≠ "java/lang/invoke/VarHandle" ∧ (parseMethodDescriptor yX11_hasMonth.desc).map (fun d => d.parameters.length) = some 3 := by decide +kernel
theorem fdX11_12 : parseFieldDescriptor (TX11 12).2.2.1 = some .boolean := by decide +kernel
theorem fdX11_14 : parseFieldDescriptor (TX11 14).2.2.1 = some .boolean := by decide +kernel
theorem fdX11_15 : parseFieldDescriptor (TX11 15).2.2.1 = some .boolean := by decide +kernel
theorem fdX11_11 : parseFieldDescriptor (TX11 11).2.2.1 = some .int := by decide +kernel
theorem hdV_X0_latestNews_X0_1 : yX0_latestNews.cls = RX0 ∧ yX0_latestNews.cls ≠ "java/lang/invoke/MethodHandle" ∧ yX0_latestNews.cls ≠ "java/lang/invoke/VarHandle" ∧ (parseMethodDescriptor yX0_latestNews.desc).map (fun d => d.parameters.length) = some 1 := by decide +kernel
theorem hdV_X1_judge_X1_2 : yX1_judge.cls = RX1 ∧ yX1_judge.cls ≠ "java/lang/invoke/MethodHandle" ∧ yX1_judge.cls ≠ "java/lang/invoke/VarHandle" ∧ (parseMethodDescriptor yX1_judge.desc).map (fun d => d.parameters.length) = some 2 := by decide +kernel
theorem fdX11_13 : parseFieldDescriptor (TX11 13).2.2.1 = some .int := by decide +kernel
theorem hdV_X11_courtBy_X11_1 : yX11_courtBy.cls = RX11 ∧ yX11_courtBy.cls ≠ "java/lang/invoke/MethodHandle" ∧ yX11_courtBy.cls ≠ "java/lang/invoke/VarHandle" ∧ (parseMethodDescriptor yX11_courtBy.desc).map (fun d => d.parameters.length) = some 1 := by decide +kernel
theorem hdV_X9_fill_X9_1 : yX9_fill.cls = RX9 ∧ yX9_fill.cls ≠ "java/lang/invoke/MethodHandle" ∧ yX9_fill.cls ≠ "java/lang/invoke/VarHandle" ∧ (parseMethodDescriptor yX9_fill.desc).map (fun d => d.parameters.length) = some 1 := by decide +kernel
theorem hdV_X11_hasTime_X11_1 : yX11_hasTime.cls = RX11 ∧ yX11_hasTime.cls ≠ "java/lang/invoke/MethodHandle" ∧ yX11_hasTime.cls ≠ "java/lang/invoke/VarHandle" ∧ (parseMethodDescriptor yX11_hasTime.desc).map (fun d => d.parameters.length) = some 1 := by decide +kernel
theorem hdV_X11_hasReport_X11_1 : yX11_hasReport.cls = RX11 ∧ yX11_hasReport.cls ≠ "java/lang/invoke/MethodHandle" ∧ yX11_hasReport.cls ≠ "java/lang/invoke/VarHandle" ∧ (parseMethodDescriptor yX11_hasReport.desc).map (fun d => d.parameters.length) = some 1 := by decide +kernel
theorem hdV_X0_knownBits_X0_1 : yX0_knownBits.cls = RX0 ∧ yX0_knownBits.cls ≠ "java/lang/invoke/MethodHandle" ∧ yX0_knownBits.cls ≠ "java/lang/invoke/VarHandle" ∧ (parseMethodDescriptor yX0_knownBits.desc).map (fun d => d.parameters.length) = some 1 := by decide +kernel
theorem hdV_X1_lengthOf_X1_1 : yX1_lengthOf.cls = RX1 ∧ yX1_lengthOf.cls ≠ "java/lang/invoke/MethodHandle" ∧ yX1_lengthOf.cls ≠ "java/lang/invoke/VarHandle" ∧ (parseMethodDescriptor yX1_lengthOf.desc).map (fun d => d.parameters.length) = some 1 := by decide +kernel
theorem hdV_X11_hasDate_X11_2 : yX11_hasDate.cls = RX11 ∧ yX11_hasDate.cls ≠ "java/lang/invoke/MethodHandle" ∧ yX11_hasDate.cls ≠ "java/lang/invoke/VarHandle" ∧ (parseMethodDescriptor yX11_hasDate.desc).map (fun d => d.parameters.length) = some 2 := by decide +kernel
theorem hdS_X11_anchorOf_X11_2 : yX11_anchorOf.cls = RX11 ∧ yX11_anchorOf.cls ≠ "java/lang/invoke/MethodHandle" ∧ yX11_anchorOf.cls ≠ "java/lang/invoke/VarHandle" ∧ (parseMethodDescriptor yX11_anchorOf.desc).map (fun d => d.parameters.length) = some 2 := by decide +kernel
theorem hdS_X11_offsetOf_X11_1 : yX11_offsetOf.cls = RX11 ∧ yX11_offsetOf.cls ≠ "java/lang/invoke/MethodHandle" ∧ yX11_offsetOf.cls ≠ "java/lang/invoke/VarHandle" ∧ (parseMethodDescriptor yX11_offsetOf.desc).map (fun d => d.parameters.length) = some 1 := by decide +kernel
theorem hdV_X11_tallyBy_X11_1 : yX11_tallyBy.cls = RX11 ∧ yX11_tallyBy.cls ≠ "java/lang/invoke/MethodHandle" ∧ yX11_tallyBy.cls ≠ "java/lang/invoke/VarHandle" ∧ (parseMethodDescriptor yX11_tallyBy.desc).map (fun d => d.parameters.length) = some 1 := by decide +kernel
theorem hdV_X9_total_X9_0 : yX9_total.cls = RX9 ∧ yX9_total.cls ≠ "java/lang/invoke/MethodHandle" ∧ yX9_total.cls ≠ "java/lang/invoke/VarHandle" ∧ (parseMethodDescriptor yX9_total.desc).map (fun d => d.parameters.length) = some 0 := by decide +kernel
theorem hdS_X11_isEither_X11_1 : yX11_isEither.cls = RX11 ∧ yX11_isEither.cls ≠ "java/lang/invoke/MethodHandle" ∧ yX11_isEither.cls ≠ "java/lang/invoke/VarHandle" ∧ (parseMethodDescriptor yX11_isEither.desc).map (fun d => d.parameters.length) = some 1 := by decide +kernel
theorem hdV_X9_bound_X9_2 : yX9_bound.cls = RX9 ∧ yX9_bound.cls ≠ "java/lang/invoke/MethodHandle" ∧ yX9_bound.cls ≠ "java/lang/invoke/VarHandle" ∧ (parseMethodDescriptor yX9_bound.desc).map (fun d => d.parameters.length) = some 2 := by decide +kernel
theorem hdV_X9_onDay_X9_2 : yX9_onDay.cls = RX9 ∧ yX9_onDay.cls ≠ "java/lang/invoke/MethodHandle" ∧ yX9_onDay.cls ≠ "java/lang/invoke/VarHandle" ∧ (parseMethodDescriptor yX9_onDay.desc).map (fun d => d.parameters.length) = some 2 := by decide +kernel
theorem hdV_X9_leanIn_X9_1 : yX9_leanIn.cls = RX9 ∧ yX9_leanIn.cls ≠ "java/lang/invoke/MethodHandle" ∧ yX9_leanIn.cls ≠ "java/lang/invoke/VarHandle" ∧ (parseMethodDescriptor yX9_leanIn.desc).map (fun d => d.parameters.length) = some 1 := by decide +kernel
theorem hdV_X9_beginOf_X9_2 : yX9_beginOf.cls = RX9 ∧ yX9_beginOf.cls ≠ "java/lang/invoke/MethodHandle" ∧ yX9_beginOf.cls ≠ "java/lang/invoke/VarHandle" ∧ (parseMethodDescriptor yX9_beginOf.desc).map (fun d => d.parameters.length) = some 2 := by decide +kernel
theorem hdV_X9_indexOf_X9_1 : yX9_indexOf.cls = RX9 ∧ yX9_indexOf.cls ≠ "java/lang/invoke/MethodHandle" ∧ yX9_indexOf.cls ≠ "java/lang/invoke/VarHandle" ∧ (parseMethodDescriptor yX9_indexOf.desc).map (fun d => d.parameters.length) = some 1 := by decide +kernel
theorem hdV_X9_dated_X9_3 : yX9_dated.cls = RX9 ∧ yX9_dated.cls ≠ "java/lang/invoke/MethodHandle" ∧ yX9_dated.cls ≠ "java/lang/invoke/VarHandle" ∧ (parseMethodDescriptor yX9_dated.desc).map (fun d => d.parameters.length) = some 3 := by decide +kernel
theorem hdV_X9_mostLeft_X9_1 : yX9_mostLeft.cls = RX9 ∧ yX9_mostLeft.cls ≠ "java/lang/invoke/MethodHandle" ∧ yX9_mostLeft.cls ≠ "java/lang/invoke/VarHandle" ∧ (parseMethodDescriptor yX9_mostLeft.desc).map (fun d => d.parameters.length) = some 1 := by decide +kernel
theorem hdV_X9_onWeekday_X9_3 : yX9_onWeekday.cls = RX9 ∧ yX9_onWeekday.cls ≠ "java/lang/invoke/MethodHandle" ∧ yX9_onWeekday.cls ≠ "java/lang/invoke/VarHandle" ∧ (parseMethodDescriptor yX9_onWeekday.desc).map (fun d => d.parameters.length) = some 3 := by decide +kernel
theorem hdV_X11_putOut_X11_1 : yX11_putOut.cls = RX11 ∧ yX11_putOut.cls ≠ "java/lang/invoke/MethodHandle" ∧ yX11_putOut.cls ≠ "java/lang/invoke/VarHandle" ∧ (parseMethodDescriptor yX11_putOut.desc).map (fun d => d.parameters.length) = some 1 := by decide +kernel
theorem hdV_X11_hasPlace_X11_1 : yX11_hasPlace.cls = RX11 ∧ yX11_hasPlace.cls ≠ "java/lang/invoke/MethodHandle" ∧ yX11_hasPlace.cls ≠ "java/lang/invoke/VarHandle" ∧ (parseMethodDescriptor yX11_hasPlace.desc).map (fun d => d.parameters.length) = some 1 := by decide +kernel
theorem hdV_X0_namesAhead_X0_1 : yX0_namesAhead.cls = RX0 ∧ yX0_namesAhead.cls ≠ "java/lang/invoke/MethodHandle" ∧ yX0_namesAhead.cls ≠ "java/lang/invoke/VarHandle" ∧ (parseMethodDescriptor yX0_namesAhead.desc).map (fun d => d.parameters.length) = some 1 := by decide +kernel
theorem hdV_X11_canBothBe_X11_2 : yX11_canBothBe.cls = RX11 ∧ yX11_canBothBe.cls ≠ "java/lang/invoke/MethodHandle" ∧ yX11_canBothBe.cls ≠ "java/lang/invoke/VarHandle" ∧ (parseMethodDescriptor yX11_canBothBe.desc).map (fun d => d.parameters.length) = some 2 := by decide +kernel
theorem hdV_X8_charge_X8_3 : yX8_charge.cls = RX8 ∧ yX8_charge.cls ≠ "java/lang/invoke/MethodHandle" ∧ yX8_charge.cls ≠ "java/lang/invoke/VarHandle" ∧ (parseMethodDescriptor yX8_charge.desc).map (fun d => d.parameters.length) = some 3 := by decide +kernel
theorem hdV_X8_wipe_X8_0 : yX8_wipe.cls = RX8 ∧ yX8_wipe.cls ≠ "java/lang/invoke/MethodHandle" ∧ yX8_wipe.cls ≠ "java/lang/invoke/VarHandle" ∧ (parseMethodDescriptor yX8_wipe.desc).map (fun d => d.parameters.length) = some 0 := by decide +kernel
theorem hdV_X8_run_X8_1 : yX8_run.cls = RX8 ∧ yX8_run.cls ≠ "java/lang/invoke/MethodHandle" ∧ yX8_run.cls ≠ "java/lang/invoke/VarHandle" ∧ (parseMethodDescriptor yX8_run.desc).map (fun d => d.parameters.length) = some 1 := by decide +kernel
theorem hdV_X8_fullBits_X8_0 : yX8_fullBits.cls = RX8 ∧ yX8_fullBits.cls ≠ "java/lang/invoke/MethodHandle" ∧ yX8_fullBits.cls ≠ "java/lang/invoke/VarHandle" ∧ (parseMethodDescriptor yX8_fullBits.desc).map (fun d => d.parameters.length) = some 0 := by decide +kernel
theorem hdV_X8_least_X8_0 : yX8_least.cls = RX8 ∧ yX8_least.cls ≠ "java/lang/invoke/MethodHandle" ∧ yX8_least.cls ≠ "java/lang/invoke/VarHandle" ∧ (parseMethodDescriptor yX8_least.desc).map (fun d => d.parameters.length) = some 0 := by decide +kernel
theorem hdV_X11_backReport_X11_1 : yX11_backReport.cls = RX11 ∧ yX11_backReport.cls ≠ "java/lang/invoke/MethodHandle" ∧ yX11_backReport.cls ≠ "java/lang/invoke/VarHandle" ∧ (parseMethodDescriptor yX11_backReport.desc).map (fun d => d.parameters.length) = some 1 := by decide +kernel
theorem hdV_X10_put_X10_1 : yX10_put.cls = RX10 ∧ yX10_put.cls ≠ "java/lang/invoke/MethodHandle" ∧ yX10_put.cls ≠ "java/lang/invoke/VarHandle" ∧ (parseMethodDescriptor yX10_put.desc).map (fun d => d.parameters.length) = some 1 := by decide +kernel
theorem fdX5_0 : parseFieldDescriptor (TX5 0).2.2.1 = some .int := by decide +kernel
theorem fdX5_1 : parseFieldDescriptor (TX5 1).2.2.1 = some .int := by decide +kernel
theorem fdX7_0 : parseFieldDescriptor (TX7 0).2.2.1 = some .int := by decide +kernel
theorem fdX7_1 : parseFieldDescriptor (TX7 1).2.2.1 = some .int := by decide +kernel
theorem fdX7_2 : parseFieldDescriptor (TX7 2).2.2.1 = some .int := by decide +kernel
theorem fdX7_3 : parseFieldDescriptor (TX7 3).2.2.1 = some .int := by decide +kernel
theorem fdX7_4 : parseFieldDescriptor (TX7 4).2.2.1 = some .int := by decide +kernel
theorem fdX7_5 : parseFieldDescriptor (TX7 5).2.2.1 = some .boolean := by decide +kernel
theorem fdX2_0 : parseFieldDescriptor (TX2 0).2.2.1 = some .int := by decide +kernel
theorem fdX2_1 : parseFieldDescriptor (TX2 1).2.2.1 = some .int := by decide +kernel
theorem fdX2_2 : parseFieldDescriptor (TX2 2).2.2.1 = some .int := by decide +kernel
theorem fdX2_3 : parseFieldDescriptor (TX2 3).2.2.1 = some .boolean := by decide +kernel
theorem hdV_X0_wipe_X0_0 : yX0_wipe.cls = RX0 ∧ yX0_wipe.cls ≠ "java/lang/invoke/MethodHandle" ∧ yX0_wipe.cls ≠ "java/lang/invoke/VarHandle" ∧ (parseMethodDescriptor yX0_wipe.desc).map (fun d => d.parameters.length) = some 0 := by decide +kernel
theorem hdV_X0_addPlace_X0_2 : yX0_addPlace.cls = RX0 ∧ yX0_addPlace.cls ≠ "java/lang/invoke/MethodHandle" ∧ yX0_addPlace.cls ≠ "java/lang/invoke/VarHandle" ∧ (parseMethodDescriptor yX0_addPlace.desc).map (fun d => d.parameters.length) = some 2 := by decide +kernel
theorem hdV_X0_addReport_X0_5 : yX0_addReport.cls = RX0 ∧ yX0_addReport.cls ≠ "java/lang/invoke/MethodHandle" ∧ yX0_addReport.cls ≠ "java/lang/invoke/VarHandle" ∧ (parseMethodDescriptor yX0_addReport.desc).map (fun d => d.parameters.length) = some 5 := by decide +kernel
theorem hdV_X12_isAt_X12_2 : yX12_isAt.cls = RX12 ∧ yX12_isAt.cls ≠ "java/lang/invoke/MethodHandle" ∧ yX12_isAt.cls ≠ "java/lang/invoke/VarHandle" ∧ (parseMethodDescriptor yX12_isAt.desc).map (fun d => d.parameters.length) = some 2 := by decide +kernel
theorem fdX12_29 : parseFieldDescriptor (TX12 29).2.2.1 = some .int := by decide +kernel
theorem fdX12_30 : parseFieldDescriptor (TX12 30).2.2.1 = some .int := by decide +kernel
theorem fdX12_32 : parseFieldDescriptor (TX12 32).2.2.1 = some .int := by decide +kernel
theorem fdX12_31 : parseFieldDescriptor (TX12 31).2.2.1 = some .int := by decide +kernel
theorem fdX12_33 : parseFieldDescriptor (TX12 33).2.2.1 = some .boolean := by decide +kernel
theorem fdX12_27 : parseFieldDescriptor (TX12 27).2.2.1 = some .int := by decide +kernel
theorem fdX12_28 : parseFieldDescriptor (TX12 28).2.2.1 = some .int := by decide +kernel
theorem hdV_X12_faultsAt_X12_2 : yX12_faultsAt.cls = RX12 ∧ yX12_faultsAt.cls ≠ "java/lang/invoke/MethodHandle" ∧ yX12_faultsAt.cls ≠ "java/lang/invoke/VarHandle" ∧ (parseMethodDescriptor yX12_faultsAt.desc).map (fun d => d.parameters.length) = some 2 := by decide +kernel
theorem hdV_X12_next_X12_0 : yX12_next.cls = RX12 ∧ yX12_next.cls ≠ "java/lang/invoke/MethodHandle" ∧ yX12_next.cls ≠ "java/lang/invoke/VarHandle" ∧ (parseMethodDescriptor yX12_next.desc).map (fun d => d.parameters.length) = some 0 := by decide +kernel
theorem hdV_X12_faults_X12_1 : yX12_faults.cls = RX12 ∧ yX12_faults.cls ≠ "java/lang/invoke/MethodHandle" ∧ yX12_faults.cls ≠ "java/lang/invoke/VarHandle" ∧ (parseMethodDescriptor yX12_faults.desc).map (fun d => d.parameters.length) = some 1 := by decide +kernel
theorem hdV_X12_passes_X12_1 : yX12_passes.cls = RX12 ∧ yX12_passes.cls ≠ "java/lang/invoke/MethodHandle" ∧ yX12_passes.cls ≠ "java/lang/invoke/VarHandle" ∧ (parseMethodDescriptor yX12_passes.desc).map (fun d => d.parameters.length) = some 1 := by decide +kernel
theorem hdV_X12_named_X12_0 : yX12_named.cls = RX12 ∧ yX12_named.cls ≠ "java/lang/invoke/MethodHandle" ∧ yX12_named.cls ≠ "java/lang/invoke/VarHandle" ∧ (parseMethodDescriptor yX12_named.desc).map (fun d => d.parameters.length) = some 0 := by decide +kernel
theorem hdV_J0_coder_7d493_J0_0 : yJ0_coder_7d493.cls = RJ0 ∧ yJ0_coder_7d493.cls ≠ "java/lang/invoke/MethodHandle" ∧ yJ0_coder_7d493.cls ≠ "java/lang/invoke/VarHandle" ∧ (parseMethodDescriptor yJ0_coder_7d493.desc).map (fun d => d.parameters.length) = some 0 := by decide +kernel
theorem hdV_J0_isLatin1_aae02_J0_0 : yJ0_isLatin1_aae02.cls = RJ0 ∧ yJ0_isLatin1_aae02.cls ≠ "java/lang/invoke/MethodHandle" ∧ yJ0_isLatin1_aae02.cls ≠ "java/lang/invoke/VarHandle" ∧ (parseMethodDescriptor yJ0_isLatin1_aae02.desc).map (fun d => d.parameters.length) = some 0 := by decide +kernel
theorem fdX4_2 : parseFieldDescriptor (TX4 2).2.2.1 = some .int := by decide +kernel
theorem hdV_X0_newsBehind_X0_1 : yX0_newsBehind.cls = RX0 ∧ yX0_newsBehind.cls ≠ "java/lang/invoke/MethodHandle" ∧ yX0_newsBehind.cls ≠ "java/lang/invoke/VarHandle" ∧ (parseMethodDescriptor yX0_newsBehind.desc).map (fun d => d.parameters.length) = some 1 := by decide +kernel
theorem hdV_X4_fill_X4_2 : yX4_fill.cls = RX4 ∧ yX4_fill.cls ≠ "java/lang/invoke/MethodHandle" ∧ yX4_fill.cls ≠ "java/lang/invoke/VarHandle" ∧ (parseMethodDescriptor yX4_fill.desc).map (fun d => d.parameters.length) = some 2 := by decide +kernel
theorem hdV_X11_historyNow_X11_0 : yX11_historyNow.cls = RX11 ∧ yX11_historyNow.cls ≠ "java/lang/invoke/MethodHandle" ∧ yX11_historyNow.cls ≠ "java/lang/invoke/VarHandle" ∧ (parseMethodDescriptor yX11_historyNow.desc).map (fun d => d.parameters.length) = some 0 := by decide +kernel
theorem hdV_X4_changesOf_X4_1 : yX4_changesOf.cls = RX4 ∧ yX4_changesOf.cls ≠ "java/lang/invoke/MethodHandle" ∧ yX4_changesOf.cls ≠ "java/lang/invoke/VarHandle" ∧ (parseMethodDescriptor yX4_changesOf.desc).map (fun d => d.parameters.length) = some 1 := by decide +kernel
theorem hdV_X4_lastChangeOf_X4_1 : yX4_lastChangeOf.cls = RX4 ∧ yX4_lastChangeOf.cls ≠ "java/lang/invoke/MethodHandle" ∧ yX4_lastChangeOf.cls ≠ "java/lang/invoke/VarHandle" ∧ (parseMethodDescriptor yX4_lastChangeOf.desc).map (fun d => d.parameters.length) = some 1 := by decide +kernel
theorem hdV_X11_hasDeed_X11_1 : yX11_hasDeed.cls = RX11 ∧ yX11_hasDeed.cls ≠ "java/lang/invoke/MethodHandle" ∧ yX11_hasDeed.cls ≠ "java/lang/invoke/VarHandle" ∧ (parseMethodDescriptor yX11_hasDeed.desc).map (fun d => d.parameters.length) = some 1 := by decide +kernel
theorem hdV_X2_endAnchor_X2_0 : yX2_endAnchor.cls = RX2 ∧ yX2_endAnchor.cls ≠ "java/lang/invoke/MethodHandle" ∧ yX2_endAnchor.cls ≠ "java/lang/invoke/VarHandle" ∧ (parseMethodDescriptor yX2_endAnchor.desc).map (fun d => d.parameters.length) = some 0 := by decide +kernel
theorem hdV_X2_endOffset_X2_0 : yX2_endOffset.cls = RX2 ∧ yX2_endOffset.cls ≠ "java/lang/invoke/MethodHandle" ∧ yX2_endOffset.cls ≠ "java/lang/invoke/VarHandle" ∧ (parseMethodDescriptor yX2_endOffset.desc).map (fun d => d.parameters.length) = some 0 := by decide +kernel
theorem hdV_X11_endByOfficial_X11_2 : yX11_endByOfficial.cls = RX11 ∧ yX11_endByOfficial.cls ≠ "java/lang/invoke/MethodHandle" ∧ yX11_endByOfficial.cls ≠ "java/lang/invoke/VarHandle" ∧ (parseMethodDescriptor yX11_endByOfficial.desc).map (fun d => d.parameters.length) = some 2 := by decide +kernel
theorem hdV_X11_leastLead_X11_3 : yX11_leastLead.cls = RX11 ∧ yX11_leastLead.cls ≠ "java/lang/invoke/MethodHandle" ∧ yX11_leastLead.cls ≠ "java/lang/invoke/VarHandle" ∧ (parseMethodDescriptor yX11_leastLead.desc).map (fun d => d.parameters.length) = some 3 := by decide +kernel
theorem hdV_X0_copyFrom_X0_1 : yX0_copyFrom.cls = RX0 ∧ yX0_copyFrom.cls ≠ "java/lang/invoke/MethodHandle" ∧ yX0_copyFrom.cls ≠ "java/lang/invoke/VarHandle" ∧ (parseMethodDescriptor yX0_copyFrom.desc).map (fun d => d.parameters.length) = some 1 := by decide +kernel
theorem hdV_X0_strikeAllBut_X0_1 : yX0_strikeAllBut.cls = RX0 ∧ yX0_strikeAllBut.cls ≠ "java/lang/invoke/MethodHandle" ∧ yX0_strikeAllBut.cls ≠ "java/lang/invoke/VarHandle" ∧ (parseMethodDescriptor yX0_strikeAllBut.desc).map (fun d => d.parameters.length) = some 1 := by decide +kernel
theorem hdV_X11_judgeAlone_X11_2 : yX11_judgeAlone.cls = RX11 ∧ yX11_judgeAlone.cls ≠ "java/lang/invoke/MethodHandle" ∧ yX11_judgeAlone.cls ≠ "java/lang/invoke/VarHandle" ∧ (parseMethodDescriptor yX11_judgeAlone.desc).map (fun d => d.parameters.length) = some 2 := by decide +kernel
theorem hdV_X11_unlikeBegins_X11_2 : yX11_unlikeBegins.cls = RX11 ∧ yX11_unlikeBegins.cls ≠ "java/lang/invoke/MethodHandle" ∧ yX11_unlikeBegins.cls ≠ "java/lang/invoke/VarHandle" ∧ (parseMethodDescriptor yX11_unlikeBegins.desc).map (fun d => d.parameters.length) = some 2 := by decide +kernel
theorem hdV_X11_forget_X11_0 : yX11_forget.cls = RX11 ∧ yX11_forget.cls ≠ "java/lang/invoke/MethodHandle" ∧ yX11_forget.cls ≠ "java/lang/invoke/VarHandle" ∧ (parseMethodDescriptor yX11_forget.desc).map (fun d => d.parameters.length) = some 0 := by decide +kernel
theorem hdV_X0_standing_X0_0 : yX0_standing.cls = RX0 ∧ yX0_standing.cls ≠ "java/lang/invoke/MethodHandle" ∧ yX0_standing.cls ≠ "java/lang/invoke/VarHandle" ∧ (parseMethodDescriptor yX0_standing.desc).map (fun d => d.parameters.length) = some 0 := by decide +kernel
theorem hdV_X0_setMoon_X0_2 : yX0_setMoon.cls = RX0 ∧ yX0_setMoon.cls ≠ "java/lang/invoke/MethodHandle" ∧ yX0_setMoon.cls ≠ "java/lang/invoke/VarHandle" ∧ (parseMethodDescriptor yX0_setMoon.desc).map (fun d => d.parameters.length) = some 2 := by decide +kernel
theorem hdV_J0_length_8abf5_J0_0 : yJ0_length_8abf5.cls = RJ0 ∧ yJ0_length_8abf5.cls ≠ "java/lang/invoke/MethodHandle" ∧ yJ0_length_8abf5.cls ≠ "java/lang/invoke/VarHandle" ∧ (parseMethodDescriptor yJ0_length_8abf5.desc).map (fun d => d.parameters.length) = some 0 := by decide +kernel
theorem hdV_J0_charAt_5068e_J0_1 : yJ0_charAt_5068e.cls = RJ0 ∧ yJ0_charAt_5068e.cls ≠ "java/lang/invoke/MethodHandle" ∧ yJ0_charAt_5068e.cls ≠ "java/lang/invoke/VarHandle" ∧ (parseMethodDescriptor yJ0_charAt_5068e.desc).map (fun d => d.parameters.length) = some 1 := by decide +kernel
theorem hdV_X12_isWord_X12_1 : yX12_isWord.cls = RX12 ∧ yX12_isWord.cls ≠ "java/lang/invoke/MethodHandle" ∧ yX12_isWord.cls ≠ "java/lang/invoke/VarHandle" ∧ (parseMethodDescriptor yX12_isWord.desc).map (fun d => d.parameters.length) = some 1 := by decide +kernel
theorem hdV_X12_word_X12_1 : yX12_word.cls = RX12 ∧ yX12_word.cls ≠ "java/lang/invoke/MethodHandle" ∧ yX12_word.cls ≠ "java/lang/invoke/VarHandle" ∧ (parseMethodDescriptor yX12_word.desc).map (fun d => d.parameters.length) = some 1 := by decide +kernel
theorem hdV_X12_number_X12_2 : yX12_number.cls = RX12 ∧ yX12_number.cls ≠ "java/lang/invoke/MethodHandle" ∧ yX12_number.cls ≠ "java/lang/invoke/VarHandle" ∧ (parseMethodDescriptor yX12_number.desc).map (fun d => d.parameters.length) = some 2 := by decide +kernel
theorem hdV_X12_numberBehind_X12_3 : yX12_numberBehind.cls = RX12 ∧ yX12_numberBehind.cls ≠ "java/lang/invoke/MethodHandle" ∧ yX12_numberBehind.cls ≠ "java/lang/invoke/VarHandle" ∧ (parseMethodDescriptor yX12_numberBehind.desc).map (fun d => d.parameters.length) = some 3 := by decide +kernel
theorem fdX12_0 : parseFieldDescriptor (TX12 0).2.2.1 = some .int := by decide +kernel
theorem fdX12_7 : parseFieldDescriptor (TX12 7).2.2.1 = some .int := by decide +kernel
theorem hdV_X12_placeHere_X12_0 : yX12_placeHere.cls = RX12 ∧ yX12_placeHere.cls ≠ "java/lang/invoke/MethodHandle" ∧ yX12_placeHere.cls ≠ "java/lang/invoke/VarHandle" ∧ (parseMethodDescriptor yX12_placeHere.desc).map (fun d => d.parameters.length) = some 0 := by decide +kernel
theorem fdX12_17 : parseFieldDescriptor (TX12 17).2.2.1 = some .int := by decide +kernel
theorem hdV_X12_readsReport_X12_1 : yX12_readsReport.cls = RX12 ∧ yX12_readsReport.cls ≠ "java/lang/invoke/MethodHandle" ∧ yX12_readsReport.cls ≠ "java/lang/invoke/VarHandle" ∧ (parseMethodDescriptor yX12_readsReport.desc).map (fun d => d.parameters.length) = some 1 := by decide +kernel
theorem hdV_X12_readsDeed_X12_0 : yX12_readsDeed.cls = RX12 ∧ yX12_readsDeed.cls ≠ "java/lang/invoke/MethodHandle" ∧ yX12_readsDeed.cls ≠ "java/lang/invoke/VarHandle" ∧ (parseMethodDescriptor yX12_readsDeed.desc).map (fun d => d.parameters.length) = some 0 := by decide +kernel
theorem hdV_X12_readsPlace_X12_0 : yX12_readsPlace.cls = RX12 ∧ yX12_readsPlace.cls ≠ "java/lang/invoke/MethodHandle" ∧ yX12_readsPlace.cls ≠ "java/lang/invoke/VarHandle" ∧ (parseMethodDescriptor yX12_readsPlace.desc).map (fun d => d.parameters.length) = some 0 := by decide +kernel
theorem hdV_X12_readsMoon_X12_0 : yX12_readsMoon.cls = RX12 ∧ yX12_readsMoon.cls ≠ "java/lang/invoke/MethodHandle" ∧ yX12_readsMoon.cls ≠ "java/lang/invoke/VarHandle" ∧ (parseMethodDescriptor yX12_readsMoon.desc).map (fun d => d.parameters.length) = some 0 := by decide +kernel
theorem hdV_X12_readsHead_X12_0 : yX12_readsHead.cls = RX12 ∧ yX12_readsHead.cls ≠ "java/lang/invoke/MethodHandle" ∧ yX12_readsHead.cls ≠ "java/lang/invoke/VarHandle" ∧ (parseMethodDescriptor yX12_readsHead.desc).map (fun d => d.parameters.length) = some 0 := by decide +kernel
theorem fdX12_3 : parseFieldDescriptor (TX12 3).2.2.1 = some .int := by decide +kernel
theorem fdX6_5 : parseFieldDescriptor (TX6 5).2.2.1 = some .int := by decide +kernel
theorem fdX6_6 : parseFieldDescriptor (TX6 6).2.2.1 = some .int := by decide +kernel
theorem hdV_X6_byteAt_X6_1 : yX6_byteAt.cls = RX6 ∧ yX6_byteAt.cls ≠ "java/lang/invoke/MethodHandle" ∧ yX6_byteAt.cls ≠ "java/lang/invoke/VarHandle" ∧ (parseMethodDescriptor yX6_byteAt.desc).map (fun d => d.parameters.length) = some 1 := by decide +kernel
theorem hdS_X6_isLetter_X6_1 : yX6_isLetter.cls = RX6 ∧ yX6_isLetter.cls ≠ "java/lang/invoke/MethodHandle" ∧ yX6_isLetter.cls ≠ "java/lang/invoke/VarHandle" ∧ (parseMethodDescriptor yX6_isLetter.desc).map (fun d => d.parameters.length) = some 1 := by decide +kernel
theorem hdS_X6_isDigit_X6_1 : yX6_isDigit.cls = RX6 ∧ yX6_isDigit.cls ≠ "java/lang/invoke/MethodHandle" ∧ yX6_isDigit.cls ≠ "java/lang/invoke/VarHandle" ∧ (parseMethodDescriptor yX6_isDigit.desc).map (fun d => d.parameters.length) = some 1 := by decide +kernel
theorem fdX6_4 : parseFieldDescriptor (TX6 4).2.2.1 = some .int := by decide +kernel
theorem hdS_X6_isBlank_X6_1 : yX6_isBlank.cls = RX6 ∧ yX6_isBlank.cls ≠ "java/lang/invoke/MethodHandle" ∧ yX6_isBlank.cls ≠ "java/lang/invoke/VarHandle" ∧ (parseMethodDescriptor yX6_isBlank.desc).map (fun d => d.parameters.length) = some 1 := by decide +kernel
theorem fdX6_2 : parseFieldDescriptor (TX6 2).2.2.1 = some .int := by decide +kernel
theorem fdX6_3 : parseFieldDescriptor (TX6 3).2.2.1 = some .int := by decide +kernel
theorem hdV_X6_blame_X6_2 : yX6_blame.cls = RX6 ∧ yX6_blame.cls ≠ "java/lang/invoke/MethodHandle" ∧ yX6_blame.cls ≠ "java/lang/invoke/VarHandle" ∧ (parseMethodDescriptor yX6_blame.desc).map (fun d => d.parameters.length) = some 2 := by decide +kernel
theorem hdV_X6_expect_X6_2 : yX6_expect.cls = RX6 ∧ yX6_expect.cls ≠ "java/lang/invoke/MethodHandle" ∧ yX6_expect.cls ≠ "java/lang/invoke/VarHandle" ∧ (parseMethodDescriptor yX6_expect.desc).map (fun d => d.parameters.length) = some 2 := by decide +kernel
theorem hdV_X6_step_X6_0 : yX6_step.cls = RX6 ∧ yX6_step.cls ≠ "java/lang/invoke/MethodHandle" ∧ yX6_step.cls ≠ "java/lang/invoke/VarHandle" ∧ (parseMethodDescriptor yX6_step.desc).map (fun d => d.parameters.length) = some 0 := by decide +kernel
theorem hdV_X6_valueHere_X6_0 : yX6_valueHere.cls = RX6 ∧ yX6_valueHere.cls ≠ "java/lang/invoke/MethodHandle" ∧ yX6_valueHere.cls ≠ "java/lang/invoke/VarHandle" ∧ (parseMethodDescriptor yX6_valueHere.desc).map (fun d => d.parameters.length) = some 0 := by decide +kernel
theorem hdV_X6_isWord_X6_1 : yX6_isWord.cls = RX6 ∧ yX6_isWord.cls ≠ "java/lang/invoke/MethodHandle" ∧ yX6_isWord.cls ≠ "java/lang/invoke/VarHandle" ∧ (parseMethodDescriptor yX6_isWord.desc).map (fun d => d.parameters.length) = some 1 := by decide +kernel
theorem hdV_X6_nameHere_X6_0 : yX6_nameHere.cls = RX6 ∧ yX6_nameHere.cls ≠ "java/lang/invoke/MethodHandle" ∧ yX6_nameHere.cls ≠ "java/lang/invoke/VarHandle" ∧ (parseMethodDescriptor yX6_nameHere.desc).map (fun d => d.parameters.length) = some 0 := by decide +kernel
theorem hdV_X0_placeNamed_X0_1 : yX0_placeNamed.cls = RX0 ∧ yX0_placeNamed.cls ≠ "java/lang/invoke/MethodHandle" ∧ yX0_placeNamed.cls ≠ "java/lang/invoke/VarHandle" ∧ (parseMethodDescriptor yX0_placeNamed.desc).map (fun d => d.parameters.length) = some 1 := by decide +kernel
theorem hdV_X6_passWord_X6_1 : yX6_passWord.cls = RX6 ∧ yX6_passWord.cls ≠ "java/lang/invoke/MethodHandle" ∧ yX6_passWord.cls ≠ "java/lang/invoke/VarHandle" ∧ (parseMethodDescriptor yX6_passWord.desc).map (fun d => d.parameters.length) = some 1 := by decide +kernel
theorem hdV_X6_passNumber_X6_2 : yX6_passNumber.cls = RX6 ∧ yX6_passNumber.cls ≠ "java/lang/invoke/MethodHandle" ∧ yX6_passNumber.cls ≠ "java/lang/invoke/VarHandle" ∧ (parseMethodDescriptor yX6_passNumber.desc).map (fun d => d.parameters.length) = some 2 := by decide +kernel
theorem hdV_X6_passHead_X6_1 : yX6_passHead.cls = RX6 ∧ yX6_passHead.cls ≠ "java/lang/invoke/MethodHandle" ∧ yX6_passHead.cls ≠ "java/lang/invoke/VarHandle" ∧ (parseMethodDescriptor yX6_passHead.desc).map (fun d => d.parameters.length) = some 1 := by decide +kernel
theorem hdV_X6_passName_X6_1 : yX6_passName.cls = RX6 ∧ yX6_passName.cls ≠ "java/lang/invoke/MethodHandle" ∧ yX6_passName.cls ≠ "java/lang/invoke/VarHandle" ∧ (parseMethodDescriptor yX6_passName.desc).map (fun d => d.parameters.length) = some 1 := by decide +kernel
theorem hdV_X0_addDeed_X0_4 : yX0_addDeed.cls = RX0 ∧ yX0_addDeed.cls ≠ "java/lang/invoke/MethodHandle" ∧ yX0_addDeed.cls ≠ "java/lang/invoke/VarHandle" ∧ (parseMethodDescriptor yX0_addDeed.desc).map (fun d => d.parameters.length) = some 4 := by decide +kernel
theorem hdV_X6_passSign_X6_0 : yX6_passSign.cls = RX6 ∧ yX6_passSign.cls ≠ "java/lang/invoke/MethodHandle" ∧ yX6_passSign.cls ≠ "java/lang/invoke/VarHandle" ∧ (parseMethodDescriptor yX6_passSign.desc).map (fun d => d.parameters.length) = some 0 := by decide +kernel
theorem hdV_X6_readDeed_X6_0 : yX6_readDeed.cls = RX6 ∧ yX6_readDeed.cls ≠ "java/lang/invoke/MethodHandle" ∧ yX6_readDeed.cls ≠ "java/lang/invoke/VarHandle" ∧ (parseMethodDescriptor yX6_readDeed.desc).map (fun d => d.parameters.length) = some 0 := by decide +kernel
theorem hdV_X6_readReport_X6_1 : yX6_readReport.cls = RX6 ∧ yX6_readReport.cls ≠ "java/lang/invoke/MethodHandle" ∧ yX6_readReport.cls ≠ "java/lang/invoke/VarHandle" ∧ (parseMethodDescriptor yX6_readReport.desc).map (fun d => d.parameters.length) = some 1 := by decide +kernel
theorem hdV_X6_readPlace_X6_0 : yX6_readPlace.cls = RX6 ∧ yX6_readPlace.cls ≠ "java/lang/invoke/MethodHandle" ∧ yX6_readPlace.cls ≠ "java/lang/invoke/VarHandle" ∧ (parseMethodDescriptor yX6_readPlace.desc).map (fun d => d.parameters.length) = some 0 := by decide +kernel
theorem hdV_X6_readMoon_X6_0 : yX6_readMoon.cls = RX6 ∧ yX6_readMoon.cls ≠ "java/lang/invoke/MethodHandle" ∧ yX6_readMoon.cls ≠ "java/lang/invoke/VarHandle" ∧ (parseMethodDescriptor yX6_readMoon.desc).map (fun d => d.parameters.length) = some 0 := by decide +kernel
theorem hdV_X6_readFirst_X6_0 : yX6_readFirst.cls = RX6 ∧ yX6_readFirst.cls ≠ "java/lang/invoke/MethodHandle" ∧ yX6_readFirst.cls ≠ "java/lang/invoke/VarHandle" ∧ (parseMethodDescriptor yX6_readFirst.desc).map (fun d => d.parameters.length) = some 0 := by decide +kernel
theorem hdV_X6_readLine_X6_0 : yX6_readLine.cls = RX6 ∧ yX6_readLine.cls ≠ "java/lang/invoke/MethodHandle" ∧ yX6_readLine.cls ≠ "java/lang/invoke/VarHandle" ∧ (parseMethodDescriptor yX6_readLine.desc).map (fun d => d.parameters.length) = some 0 := by decide +kernel
theorem fdX12_56 : parseFieldDescriptor (TX12 56).2.2.1 = some .int := by decide +kernel
theorem fdX12_23 : parseFieldDescriptor (TX12 23).2.2.1 = some .int := by decide +kernel
theorem hdV_X12_moves_X12_1 : yX12_moves.cls = RX12 ∧ yX12_moves.cls ≠ "java/lang/invoke/MethodHandle" ∧ yX12_moves.cls ≠ "java/lang/invoke/VarHandle" ∧ (parseMethodDescriptor yX12_moves.desc).map (fun d => d.parameters.length) = some 1 := by decide +kernel
theorem fdX12_24 : parseFieldDescriptor (TX12 24).2.2.1 = some .boolean := by decide +kernel
theorem hdV_X12_movesRow_X12_1 : yX12_movesRow.cls = RX12 ∧ yX12_movesRow.cls ≠ "java/lang/invoke/MethodHandle" ∧ yX12_movesRow.cls ≠ "java/lang/invoke/VarHandle" ∧ (parseMethodDescriptor yX12_movesRow.desc).map (fun d => d.parameters.length) = some 1 := by decide +kernel
theorem hdV_X12_movesAll_X12_1 : yX12_movesAll.cls = RX12 ∧ yX12_movesAll.cls ≠ "java/lang/invoke/MethodHandle" ∧ yX12_movesAll.cls ≠ "java/lang/invoke/VarHandle" ∧ (parseMethodDescriptor yX12_movesAll.desc).map (fun d => d.parameters.length) = some 1 := by decide +kernel
theorem hdV_X12_readsLine_X12_0 : yX12_readsLine.cls = RX12 ∧ yX12_readsLine.cls ≠ "java/lang/invoke/MethodHandle" ∧ yX12_readsLine.cls ≠ "java/lang/invoke/VarHandle" ∧ (parseMethodDescriptor yX12_readsLine.desc).map (fun d => d.parameters.length) = some 0 := by decide +kernel
theorem hdV_X6_read_X6_0 : yX6_read.cls = RX6 ∧ yX6_read.cls ≠ "java/lang/invoke/MethodHandle" ∧ yX6_read.cls ≠ "java/lang/invoke/VarHandle" ∧ (parseMethodDescriptor yX6_read.desc).map (fun d => d.parameters.length) = some 0 := by decide +kernel
theorem fdX6_1 : parseFieldDescriptor (TX6 1).2.2.1 = some (.object "SightedMonths$Almanac") := by decide +kernel
theorem fdX11_1 : parseFieldDescriptor (TX11 1).2.2.1 = some (.object "SightedMonths$Almanac") := by decide +kernel
theorem hdV_X11_feed_X11_5 : yX11_feed.cls = RX11 ∧ yX11_feed.cls ≠ "java/lang/invoke/MethodHandle" ∧ yX11_feed.cls ≠ "java/lang/invoke/VarHandle" ∧ (parseMethodDescriptor yX11_feed.desc).map (fun d => d.parameters.length) = some 5 := by decide +kernel
theorem hdV_X12_feed_X12_5 : yX12_feed.cls = RX12 ∧ yX12_feed.cls ≠ "java/lang/invoke/MethodHandle" ∧ yX12_feed.cls ≠ "java/lang/invoke/VarHandle" ∧ (parseMethodDescriptor yX12_feed.desc).map (fun d => d.parameters.length) = some 5 := by decide +kernel
theorem hdV_X11_end_X11_1 : yX11_end.cls = RX11 ∧ yX11_end.cls ≠ "java/lang/invoke/MethodHandle" ∧ yX11_end.cls ≠ "java/lang/invoke/VarHandle" ∧ (parseMethodDescriptor yX11_end.desc).map (fun d => d.parameters.length) = some 1 := by decide +kernel
theorem hdV_X12_end_X12_1 : yX12_end.cls = RX12 ∧ yX12_end.cls ≠ "java/lang/invoke/MethodHandle" ∧ yX12_end.cls ≠ "java/lang/invoke/VarHandle" ∧ (parseMethodDescriptor yX12_end.desc).map (fun d => d.parameters.length) = some 1 := by decide +kernel
theorem hdV_X11_almanac_X11_0 : yX11_almanac.cls = RX11 ∧ yX11_almanac.cls ≠ "java/lang/invoke/MethodHandle" ∧ yX11_almanac.cls ≠ "java/lang/invoke/VarHandle" ∧ (parseMethodDescriptor yX11_almanac.desc).map (fun d => d.parameters.length) = some 0 := by decide +kernel
theorem hdV_X12_almanac_X12_0 : yX12_almanac.cls = RX12 ∧ yX12_almanac.cls ≠ "java/lang/invoke/MethodHandle" ∧ yX12_almanac.cls ≠ "java/lang/invoke/VarHandle" ∧ (parseMethodDescriptor yX12_almanac.desc).map (fun d => d.parameters.length) = some 0 := by decide +kernel
theorem hdV_X11_fault_X11_1 : yX11_fault.cls = RX11 ∧ yX11_fault.cls ≠ "java/lang/invoke/MethodHandle" ∧ yX11_fault.cls ≠ "java/lang/invoke/VarHandle" ∧ (parseMethodDescriptor yX11_fault.desc).map (fun d => d.parameters.length) = some 1 := by decide +kernel
theorem hdV_X12_fault_X12_1 : yX12_fault.cls = RX12 ∧ yX12_fault.cls ≠ "java/lang/invoke/MethodHandle" ∧ yX12_fault.cls ≠ "java/lang/invoke/VarHandle" ∧ (parseMethodDescriptor yX12_fault.desc).map (fun d => d.parameters.length) = some 1 := by decide +kernel
theorem hdV_X11_count_X11_1 : yX11_count.cls = RX11 ∧ yX11_count.cls ≠ "java/lang/invoke/MethodHandle" ∧ yX11_count.cls ≠ "java/lang/invoke/VarHandle" ∧ (parseMethodDescriptor yX11_count.desc).map (fun d => d.parameters.length) = some 1 := by decide +kernel
theorem hdV_X12_count_X12_1 : yX12_count.cls = RX12 ∧ yX12_count.cls ≠ "java/lang/invoke/MethodHandle" ∧ yX12_count.cls ≠ "java/lang/invoke/VarHandle" ∧ (parseMethodDescriptor yX12_count.desc).map (fun d => d.parameters.length) = some 1 := by decide +kernel
theorem hdV_X11_place_X11_2 : yX11_place.cls = RX11 ∧ yX11_place.cls ≠ "java/lang/invoke/MethodHandle" ∧ yX11_place.cls ≠ "java/lang/invoke/VarHandle" ∧ (parseMethodDescriptor yX11_place.desc).map (fun d => d.parameters.length) = some 2 := by decide +kernel
theorem hdV_X12_place_X12_2 : yX12_place.cls = RX12 ∧ yX12_place.cls ≠ "java/lang/invoke/MethodHandle" ∧ yX12_place.cls ≠ "java/lang/invoke/VarHandle" ∧ (parseMethodDescriptor yX12_place.desc).map (fun d => d.parameters.length) = some 2 := by decide +kernel
theorem hdV_X11_report_X11_2 : yX11_report.cls = RX11 ∧ yX11_report.cls ≠ "java/lang/invoke/MethodHandle" ∧ yX11_report.cls ≠ "java/lang/invoke/VarHandle" ∧ (parseMethodDescriptor yX11_report.desc).map (fun d => d.parameters.length) = some 2 := by decide +kernel
theorem hdV_X12_report_X12_2 : yX12_report.cls = RX12 ∧ yX12_report.cls ≠ "java/lang/invoke/MethodHandle" ∧ yX12_report.cls ≠ "java/lang/invoke/VarHandle" ∧ (parseMethodDescriptor yX12_report.desc).map (fun d => d.parameters.length) = some 2 := by decide +kernel
theorem hdV_X11_deed_X11_2 : yX11_deed.cls = RX11 ∧ yX11_deed.cls ≠ "java/lang/invoke/MethodHandle" ∧ yX11_deed.cls ≠ "java/lang/invoke/VarHandle" ∧ (parseMethodDescriptor yX11_deed.desc).map (fun d => d.parameters.length) = some 2 := by decide +kernel
theorem hdV_X12_deed_X12_2 : yX12_deed.cls = RX12 ∧ yX12_deed.cls ≠ "java/lang/invoke/MethodHandle" ∧ yX12_deed.cls ≠ "java/lang/invoke/VarHandle" ∧ (parseMethodDescriptor yX12_deed.desc).map (fun d => d.parameters.length) = some 2 := by decide +kernel
theorem hdV_X11_early_X11_1 : yX11_early.cls = RX11 ∧ yX11_early.cls ≠ "java/lang/invoke/MethodHandle" ∧ yX11_early.cls ≠ "java/lang/invoke/VarHandle" ∧ (parseMethodDescriptor yX11_early.desc).map (fun d => d.parameters.length) = some 1 := by decide +kernel
theorem hdV_X12_early_X12_1 : yX12_early.cls = RX12 ∧ yX12_early.cls ≠ "java/lang/invoke/MethodHandle" ∧ yX12_early.cls ≠ "java/lang/invoke/VarHandle" ∧ (parseMethodDescriptor yX12_early.desc).map (fun d => d.parameters.length) = some 1 := by decide +kernel
theorem hdV_X11_judged_X11_2 : yX11_judged.cls = RX11 ∧ yX11_judged.cls ≠ "java/lang/invoke/MethodHandle" ∧ yX11_judged.cls ≠ "java/lang/invoke/VarHandle" ∧ (parseMethodDescriptor yX11_judged.desc).map (fun d => d.parameters.length) = some 2 := by decide +kernel
theorem hdV_X12_judged_X12_2 : yX12_judged.cls = RX12 ∧ yX12_judged.cls ≠ "java/lang/invoke/MethodHandle" ∧ yX12_judged.cls ≠ "java/lang/invoke/VarHandle" ∧ (parseMethodDescriptor yX12_judged.desc).map (fun d => d.parameters.length) = some 2 := by decide +kernel
theorem hdV_X11_taken_X11_1 : yX11_taken.cls = RX11 ∧ yX11_taken.cls ≠ "java/lang/invoke/MethodHandle" ∧ yX11_taken.cls ≠ "java/lang/invoke/VarHandle" ∧ (parseMethodDescriptor yX11_taken.desc).map (fun d => d.parameters.length) = some 1 := by decide +kernel
theorem hdV_X12_taken_X12_1 : yX12_taken.cls = RX12 ∧ yX12_taken.cls ≠ "java/lang/invoke/MethodHandle" ∧ yX12_taken.cls ≠ "java/lang/invoke/VarHandle" ∧ (parseMethodDescriptor yX12_taken.desc).map (fun d => d.parameters.length) = some 1 := by decide +kernel
theorem hdV_X11_order_X11_2 : yX11_order.cls = RX11 ∧ yX11_order.cls ≠ "java/lang/invoke/MethodHandle" ∧ yX11_order.cls ≠ "java/lang/invoke/VarHandle" ∧ (parseMethodDescriptor yX11_order.desc).map (fun d => d.parameters.length) = some 2 := by decide +kernel
theorem hdV_X12_order_X12_2 : yX12_order.cls = RX12 ∧ yX12_order.cls ≠ "java/lang/invoke/MethodHandle" ∧ yX12_order.cls ≠ "java/lang/invoke/VarHandle" ∧ (parseMethodDescriptor yX12_order.desc).map (fun d => d.parameters.length) = some 2 := by decide +kernel
theorem hdV_X11_against_X11_2 : yX11_against.cls = RX11 ∧ yX11_against.cls ≠ "java/lang/invoke/MethodHandle" ∧ yX11_against.cls ≠ "java/lang/invoke/VarHandle" ∧ (parseMethodDescriptor yX11_against.desc).map (fun d => d.parameters.length) = some 2 := by decide +kernel
theorem hdV_X12_against_X12_2 : yX12_against.cls = RX12 ∧ yX12_against.cls ≠ "java/lang/invoke/MethodHandle" ∧ yX12_against.cls ≠ "java/lang/invoke/VarHandle" ∧ (parseMethodDescriptor yX12_against.desc).map (fun d => d.parameters.length) = some 2 := by decide +kernel
theorem hdV_X11_blind_X11_2 : yX11_blind.cls = RX11 ∧ yX11_blind.cls ≠ "java/lang/invoke/MethodHandle" ∧ yX11_blind.cls ≠ "java/lang/invoke/VarHandle" ∧ (parseMethodDescriptor yX11_blind.desc).map (fun d => d.parameters.length) = some 2 := by decide +kernel
theorem hdV_X12_blind_X12_2 : yX12_blind.cls = RX12 ∧ yX12_blind.cls ≠ "java/lang/invoke/MethodHandle" ∧ yX12_blind.cls ≠ "java/lang/invoke/VarHandle" ∧ (parseMethodDescriptor yX12_blind.desc).map (fun d => d.parameters.length) = some 2 := by decide +kernel
theorem hdV_X11_ways_X11_1 : yX11_ways.cls = RX11 ∧ yX11_ways.cls ≠ "java/lang/invoke/MethodHandle" ∧ yX11_ways.cls ≠ "java/lang/invoke/VarHandle" ∧ (parseMethodDescriptor yX11_ways.desc).map (fun d => d.parameters.length) = some 1 := by decide +kernel
theorem hdV_X12_ways_X12_1 : yX12_ways.cls = RX12 ∧ yX12_ways.cls ≠ "java/lang/invoke/MethodHandle" ∧ yX12_ways.cls ≠ "java/lang/invoke/VarHandle" ∧ (parseMethodDescriptor yX12_ways.desc).map (fun d => d.parameters.length) = some 1 := by decide +kernel
theorem hdV_X11_begin_X11_2 : yX11_begin.cls = RX11 ∧ yX11_begin.cls ≠ "java/lang/invoke/MethodHandle" ∧ yX11_begin.cls ≠ "java/lang/invoke/VarHandle" ∧ (parseMethodDescriptor yX11_begin.desc).map (fun d => d.parameters.length) = some 2 := by decide +kernel
theorem hdV_X12_begin_X12_2 : yX12_begin.cls = RX12 ∧ yX12_begin.cls ≠ "java/lang/invoke/MethodHandle" ∧ yX12_begin.cls ≠ "java/lang/invoke/VarHandle" ∧ (parseMethodDescriptor yX12_begin.desc).map (fun d => d.parameters.length) = some 2 := by decide +kernel
theorem hdV_X11_span_X11_3 : yX11_span.cls = RX11 ∧ yX11_span.cls ≠ "java/lang/invoke/MethodHandle" ∧ yX11_span.cls ≠ "java/lang/invoke/VarHandle" ∧ (parseMethodDescriptor yX11_span.desc).map (fun d => d.parameters.length) = some 3 := by decide +kernel
theorem hdV_X12_span_X12_3 : yX12_span.cls = RX12 ∧ yX12_span.cls ≠ "java/lang/invoke/MethodHandle" ∧ yX12_span.cls ≠ "java/lang/invoke/VarHandle" ∧ (parseMethodDescriptor yX12_span.desc).map (fun d => d.parameters.length) = some 3 := by decide +kernel
theorem hdV_X11_sure_X11_1 : yX11_sure.cls = RX11 ∧ yX11_sure.cls ≠ "java/lang/invoke/MethodHandle" ∧ yX11_sure.cls ≠ "java/lang/invoke/VarHandle" ∧ (parseMethodDescriptor yX11_sure.desc).map (fun d => d.parameters.length) = some 1 := by decide +kernel
theorem hdV_X12_sure_X12_1 : yX12_sure.cls = RX12 ∧ yX12_sure.cls ≠ "java/lang/invoke/MethodHandle" ∧ yX12_sure.cls ≠ "java/lang/invoke/VarHandle" ∧ (parseMethodDescriptor yX12_sure.desc).map (fun d => d.parameters.length) = some 1 := by decide +kernel
theorem hdV_X11_lasts_X11_2 : yX11_lasts.cls = RX11 ∧ yX11_lasts.cls ≠ "java/lang/invoke/MethodHandle" ∧ yX11_lasts.cls ≠ "java/lang/invoke/VarHandle" ∧ (parseMethodDescriptor yX11_lasts.desc).map (fun d => d.parameters.length) = some 2 := by decide +kernel
theorem hdV_X12_lasts_X12_2 : yX12_lasts.cls = RX12 ∧ yX12_lasts.cls ≠ "java/lang/invoke/MethodHandle" ∧ yX12_lasts.cls ≠ "java/lang/invoke/VarHandle" ∧ (parseMethodDescriptor yX12_lasts.desc).map (fun d => d.parameters.length) = some 2 := by decide +kernel
theorem hdV_X11_could_X11_3 : yX11_could.cls = RX11 ∧ yX11_could.cls ≠ "java/lang/invoke/MethodHandle" ∧ yX11_could.cls ≠ "java/lang/invoke/VarHandle" ∧ (parseMethodDescriptor yX11_could.desc).map (fun d => d.parameters.length) = some 3 := by decide +kernel
theorem hdV_X12_could_X12_3 : yX12_could.cls = RX12 ∧ yX12_could.cls ≠ "java/lang/invoke/MethodHandle" ∧ yX12_could.cls ≠ "java/lang/invoke/VarHandle" ∧ (parseMethodDescriptor yX12_could.desc).map (fun d => d.parameters.length) = some 3 := by decide +kernel
theorem hdV_X11_lean_X11_2 : yX11_lean.cls = RX11 ∧ yX11_lean.cls ≠ "java/lang/invoke/MethodHandle" ∧ yX11_lean.cls ≠ "java/lang/invoke/VarHandle" ∧ (parseMethodDescriptor yX11_lean.desc).map (fun d => d.parameters.length) = some 2 := by decide +kernel
theorem hdV_X12_lean_X12_2 : yX12_lean.cls = RX12 ∧ yX12_lean.cls ≠ "java/lang/invoke/MethodHandle" ∧ yX12_lean.cls ≠ "java/lang/invoke/VarHandle" ∧ (parseMethodDescriptor yX12_lean.desc).map (fun d => d.parameters.length) = some 2 := by decide +kernel
theorem hdV_X11_ranked_X11_3 : yX11_ranked.cls = RX11 ∧ yX11_ranked.cls ≠ "java/lang/invoke/MethodHandle" ∧ yX11_ranked.cls ≠ "java/lang/invoke/VarHandle" ∧ (parseMethodDescriptor yX11_ranked.desc).map (fun d => d.parameters.length) = some 3 := by decide +kernel
theorem hdV_X12_ranked_X12_3 : yX12_ranked.cls = RX12 ∧ yX12_ranked.cls ≠ "java/lang/invoke/MethodHandle" ∧ yX12_ranked.cls ≠ "java/lang/invoke/VarHandle" ∧ (parseMethodDescriptor yX12_ranked.desc).map (fun d => d.parameters.length) = some 3 := by decide +kernel
theorem hdV_X11_rank_X11_2 : yX11_rank.cls = RX11 ∧ yX11_rank.cls ≠ "java/lang/invoke/MethodHandle" ∧ yX11_rank.cls ≠ "java/lang/invoke/VarHandle" ∧ (parseMethodDescriptor yX11_rank.desc).map (fun d => d.parameters.length) = some 2 := by decide +kernel
theorem hdV_X12_rank_X12_2 : yX12_rank.cls = RX12 ∧ yX12_rank.cls ≠ "java/lang/invoke/MethodHandle" ∧ yX12_rank.cls ≠ "java/lang/invoke/VarHandle" ∧ (parseMethodDescriptor yX12_rank.desc).map (fun d => d.parameters.length) = some 2 := by decide +kernel
theorem hdV_X11_drawn_X11_2 : yX11_drawn.cls = RX11 ∧ yX11_drawn.cls ≠ "java/lang/invoke/MethodHandle" ∧ yX11_drawn.cls ≠ "java/lang/invoke/VarHandle" ∧ (parseMethodDescriptor yX11_drawn.desc).map (fun d => d.parameters.length) = some 2 := by decide +kernel
theorem hdV_X12_drawn_X12_2 : yX12_drawn.cls = RX12 ∧ yX12_drawn.cls ≠ "java/lang/invoke/MethodHandle" ∧ yX12_drawn.cls ≠ "java/lang/invoke/VarHandle" ∧ (parseMethodDescriptor yX12_drawn.desc).map (fun d => d.parameters.length) = some 2 := by decide +kernel
theorem hdV_X11_day_X11_3 : yX11_day.cls = RX11 ∧ yX11_day.cls ≠ "java/lang/invoke/MethodHandle" ∧ yX11_day.cls ≠ "java/lang/invoke/VarHandle" ∧ (parseMethodDescriptor yX11_day.desc).map (fun d => d.parameters.length) = some 3 := by decide +kernel
theorem hdV_X12_day_X12_3 : yX12_day.cls = RX12 ∧ yX12_day.cls ≠ "java/lang/invoke/MethodHandle" ∧ yX12_day.cls ≠ "java/lang/invoke/VarHandle" ∧ (parseMethodDescriptor yX12_day.desc).map (fun d => d.parameters.length) = some 3 := by decide +kernel
theorem hdV_X11_date_X11_2 : yX11_date.cls = RX11 ∧ yX11_date.cls ≠ "java/lang/invoke/MethodHandle" ∧ yX11_date.cls ≠ "java/lang/invoke/VarHandle" ∧ (parseMethodDescriptor yX11_date.desc).map (fun d => d.parameters.length) = some 2 := by decide +kernel
theorem hdV_X12_date_X12_2 : yX12_date.cls = RX12 ∧ yX12_date.cls ≠ "java/lang/invoke/MethodHandle" ∧ yX12_date.cls ≠ "java/lang/invoke/VarHandle" ∧ (parseMethodDescriptor yX12_date.desc).map (fun d => d.parameters.length) = some 2 := by decide +kernel
theorem hdV_X11_dates_X11_2 : yX11_dates.cls = RX11 ∧ yX11_dates.cls ≠ "java/lang/invoke/MethodHandle" ∧ yX11_dates.cls ≠ "java/lang/invoke/VarHandle" ∧ (parseMethodDescriptor yX11_dates.desc).map (fun d => d.parameters.length) = some 2 := by decide +kernel
theorem hdV_X12_dates_X12_2 : yX12_dates.cls = RX12 ∧ yX12_dates.cls ≠ "java/lang/invoke/MethodHandle" ∧ yX12_dates.cls ≠ "java/lang/invoke/VarHandle" ∧ (parseMethodDescriptor yX12_dates.desc).map (fun d => d.parameters.length) = some 2 := by decide +kernel
theorem hdV_X11_likely_X11_2 : yX11_likely.cls = RX11 ∧ yX11_likely.cls ≠ "java/lang/invoke/MethodHandle" ∧ yX11_likely.cls ≠ "java/lang/invoke/VarHandle" ∧ (parseMethodDescriptor yX11_likely.desc).map (fun d => d.parameters.length) = some 2 := by decide +kernel
theorem hdV_X12_likely_X12_2 : yX12_likely.cls = RX12 ∧ yX12_likely.cls ≠ "java/lang/invoke/MethodHandle" ∧ yX12_likely.cls ≠ "java/lang/invoke/VarHandle" ∧ (parseMethodDescriptor yX12_likely.desc).map (fun d => d.parameters.length) = some 2 := by decide +kernel
theorem hdV_X11_moved_X11_3 : yX11_moved.cls = RX11 ∧ yX11_moved.cls ≠ "java/lang/invoke/MethodHandle" ∧ yX11_moved.cls ≠ "java/lang/invoke/VarHandle" ∧ (parseMethodDescriptor yX11_moved.desc).map (fun d => d.parameters.length) = some 3 := by decide +kernel
theorem hdV_X12_moved_X12_3 : yX12_moved.cls = RX12 ∧ yX12_moved.cls ≠ "java/lang/invoke/MethodHandle" ∧ yX12_moved.cls ≠ "java/lang/invoke/VarHandle" ∧ (parseMethodDescriptor yX12_moved.desc).map (fun d => d.parameters.length) = some 3 := by decide +kernel
theorem hdV_X11_shifts_X11_1 : yX11_shifts.cls = RX11 ∧ yX11_shifts.cls ≠ "java/lang/invoke/MethodHandle" ∧ yX11_shifts.cls ≠ "java/lang/invoke/VarHandle" ∧ (parseMethodDescriptor yX11_shifts.desc).map (fun d => d.parameters.length) = some 1 := by decide +kernel
theorem hdV_X12_shifts_X12_1 : yX12_shifts.cls = RX12 ∧ yX12_shifts.cls ≠ "java/lang/invoke/MethodHandle" ∧ yX12_shifts.cls ≠ "java/lang/invoke/VarHandle" ∧ (parseMethodDescriptor yX12_shifts.desc).map (fun d => d.parameters.length) = some 1 := by decide +kernel
theorem hdV_X11_settled_X11_1 : yX11_settled.cls = RX11 ∧ yX11_settled.cls ≠ "java/lang/invoke/MethodHandle" ∧ yX11_settled.cls ≠ "java/lang/invoke/VarHandle" ∧ (parseMethodDescriptor yX11_settled.desc).map (fun d => d.parameters.length) = some 1 := by decide +kernel
theorem hdV_X12_settled_X12_1 : yX12_settled.cls = RX12 ∧ yX12_settled.cls ≠ "java/lang/invoke/MethodHandle" ∧ yX12_settled.cls ≠ "java/lang/invoke/VarHandle" ∧ (parseMethodDescriptor yX12_settled.desc).map (fun d => d.parameters.length) = some 1 := by decide +kernel
theorem hdV_X11_due_X11_2 : yX11_due.cls = RX11 ∧ yX11_due.cls ≠ "java/lang/invoke/MethodHandle" ∧ yX11_due.cls ≠ "java/lang/invoke/VarHandle" ∧ (parseMethodDescriptor yX11_due.desc).map (fun d => d.parameters.length) = some 2 := by decide +kernel
theorem hdV_X12_due_X12_2 : yX12_due.cls = RX12 ∧ yX12_due.cls ≠ "java/lang/invoke/MethodHandle" ∧ yX12_due.cls ≠ "java/lang/invoke/VarHandle" ∧ (parseMethodDescriptor yX12_due.desc).map (fun d => d.parameters.length) = some 2 := by decide +kernel
theorem hdV_X11_dueSpan_X11_3 : yX11_dueSpan.cls = RX11 ∧ yX11_dueSpan.cls ≠ "java/lang/invoke/MethodHandle" ∧ yX11_dueSpan.cls ≠ "java/lang/invoke/VarHandle" ∧ (parseMethodDescriptor yX11_dueSpan.desc).map (fun d => d.parameters.length) = some 3 := by decide +kernel
theorem hdV_X12_dueSpan_X12_3 : yX12_dueSpan.cls = RX12 ∧ yX12_dueSpan.cls ≠ "java/lang/invoke/MethodHandle" ∧ yX12_dueSpan.cls ≠ "java/lang/invoke/VarHandle" ∧ (parseMethodDescriptor yX12_dueSpan.desc).map (fun d => d.parameters.length) = some 3 := by decide +kernel
theorem hdV_X11_dueOn_X11_3 : yX11_dueOn.cls = RX11 ∧ yX11_dueOn.cls ≠ "java/lang/invoke/MethodHandle" ∧ yX11_dueOn.cls ≠ "java/lang/invoke/VarHandle" ∧ (parseMethodDescriptor yX11_dueOn.desc).map (fun d => d.parameters.length) = some 3 := by decide +kernel
theorem hdV_X12_dueOn_X12_3 : yX12_dueOn.cls = RX12 ∧ yX12_dueOn.cls ≠ "java/lang/invoke/MethodHandle" ∧ yX12_dueOn.cls ≠ "java/lang/invoke/VarHandle" ∧ (parseMethodDescriptor yX12_dueOn.desc).map (fun d => d.parameters.length) = some 3 := by decide +kernel
theorem hdV_X11_redated_X11_1 : yX11_redated.cls = RX11 ∧ yX11_redated.cls ≠ "java/lang/invoke/MethodHandle" ∧ yX11_redated.cls ≠ "java/lang/invoke/VarHandle" ∧ (parseMethodDescriptor yX11_redated.desc).map (fun d => d.parameters.length) = some 1 := by decide +kernel
theorem hdV_X12_redated_X12_1 : yX12_redated.cls = RX12 ∧ yX12_redated.cls ≠ "java/lang/invoke/MethodHandle" ∧ yX12_redated.cls ≠ "java/lang/invoke/VarHandle" ∧ (parseMethodDescriptor yX12_redated.desc).map (fun d => d.parameters.length) = some 1 := by decide +kernel
theorem hdV_X11_longer_X11_3 : yX11_longer.cls = RX11 ∧ yX11_longer.cls ≠ "java/lang/invoke/MethodHandle" ∧ yX11_longer.cls ≠ "java/lang/invoke/VarHandle" ∧ (parseMethodDescriptor yX11_longer.desc).map (fun d => d.parameters.length) = some 3 := by decide +kernel
theorem hdV_X12_longer_X12_3 : yX12_longer.cls = RX12 ∧ yX12_longer.cls ≠ "java/lang/invoke/MethodHandle" ∧ yX12_longer.cls ≠ "java/lang/invoke/VarHandle" ∧ (parseMethodDescriptor yX12_longer.desc).map (fun d => d.parameters.length) = some 3 := by decide +kernel
theorem hdV_X11_own_X11_3 : yX11_own.cls = RX11 ∧ yX11_own.cls ≠ "java/lang/invoke/MethodHandle" ∧ yX11_own.cls ≠ "java/lang/invoke/VarHandle" ∧ (parseMethodDescriptor yX11_own.desc).map (fun d => d.parameters.length) = some 3 := by decide +kernel
theorem hdV_X12_own_X12_3 : yX12_own.cls = RX12 ∧ yX12_own.cls ≠ "java/lang/invoke/MethodHandle" ∧ yX12_own.cls ≠ "java/lang/invoke/VarHandle" ∧ (parseMethodDescriptor yX12_own.desc).map (fun d => d.parameters.length) = some 3 := by decide +kernel
theorem hdV_X11_apart_X11_3 : yX11_apart.cls = RX11 ∧ yX11_apart.cls ≠ "java/lang/invoke/MethodHandle" ∧ yX11_apart.cls ≠ "java/lang/invoke/VarHandle" ∧ (parseMethodDescriptor yX11_apart.desc).map (fun d => d.parameters.length) = some 3 := by decide +kernel
theorem hdV_X12_apart_X12_3 : yX12_apart.cls = RX12 ∧ yX12_apart.cls ≠ "java/lang/invoke/MethodHandle" ∧ yX12_apart.cls ≠ "java/lang/invoke/VarHandle" ∧ (parseMethodDescriptor yX12_apart.desc).map (fun d => d.parameters.length) = some 3 := by decide +kernel
theorem hdV_X11_hang_X11_2 : yX11_hang.cls = RX11 ∧ yX11_hang.cls ≠ "java/lang/invoke/MethodHandle" ∧ yX11_hang.cls ≠ "java/lang/invoke/VarHandle" ∧ (parseMethodDescriptor yX11_hang.desc).map (fun d => d.parameters.length) = some 2 := by decide +kernel
theorem hdV_X12_hang_X12_2 : yX12_hang.cls = RX12 ∧ yX12_hang.cls ≠ "java/lang/invoke/MethodHandle" ∧ yX12_hang.cls ≠ "java/lang/invoke/VarHandle" ∧ (parseMethodDescriptor yX12_hang.desc).map (fun d => d.parameters.length) = some 2 := by decide +kernel
theorem hdV_X11_telling_X11_1 : yX11_telling.cls = RX11 ∧ yX11_telling.cls ≠ "java/lang/invoke/MethodHandle" ∧ yX11_telling.cls ≠ "java/lang/invoke/VarHandle" ∧ (parseMethodDescriptor yX11_telling.desc).map (fun d => d.parameters.length) = some 1 := by decide +kernel
theorem hdV_X12_telling_X12_1 : yX12_telling.cls = RX12 ∧ yX12_telling.cls ≠ "java/lang/invoke/MethodHandle" ∧ yX12_telling.cls ≠ "java/lang/invoke/VarHandle" ∧ (parseMethodDescriptor yX12_telling.desc).map (fun d => d.parameters.length) = some 1 := by decide +kernel
theorem hdV_X11_trusted_X11_2 : yX11_trusted.cls = RX11 ∧ yX11_trusted.cls ≠ "java/lang/invoke/MethodHandle" ∧ yX11_trusted.cls ≠ "java/lang/invoke/VarHandle" ∧ (parseMethodDescriptor yX11_trusted.desc).map (fun d => d.parameters.length) = some 2 := by decide +kernel
theorem hdV_X12_trusted_X12_2 : yX12_trusted.cls = RX12 ∧ yX12_trusted.cls ≠ "java/lang/invoke/MethodHandle" ∧ yX12_trusted.cls ≠ "java/lang/invoke/VarHandle" ∧ (parseMethodDescriptor yX12_trusted.desc).map (fun d => d.parameters.length) = some 2 := by decide +kernel
theorem hdV_X11_days_X11_2 : yX11_days.cls = RX11 ∧ yX11_days.cls ≠ "java/lang/invoke/MethodHandle" ∧ yX11_days.cls ≠ "java/lang/invoke/VarHandle" ∧ (parseMethodDescriptor yX11_days.desc).map (fun d => d.parameters.length) = some 2 := by decide +kernel
theorem hdV_X12_days_X12_2 : yX12_days.cls = RX12 ∧ yX12_days.cls ≠ "java/lang/invoke/MethodHandle" ∧ yX12_days.cls ≠ "java/lang/invoke/VarHandle" ∧ (parseMethodDescriptor yX12_days.desc).map (fun d => d.parameters.length) = some 2 := by decide +kernel
theorem hdV_X11_weekday_X11_4 : yX11_weekday.cls = RX11 ∧ yX11_weekday.cls ≠ "java/lang/invoke/MethodHandle" ∧ yX11_weekday.cls ≠ "java/lang/invoke/VarHandle" ∧ (parseMethodDescriptor yX11_weekday.desc).map (fun d => d.parameters.length) = some 4 := by decide +kernel
theorem hdV_X12_weekday_X12_4 : yX12_weekday.cls = RX12 ∧ yX12_weekday.cls ≠ "java/lang/invoke/MethodHandle" ∧ yX12_weekday.cls ≠ "java/lang/invoke/VarHandle" ∧ (parseMethodDescriptor yX12_weekday.desc).map (fun d => d.parameters.length) = some 4 := by decide +kernel
theorem hdV_X11_later_X11_1 : yX11_later.cls = RX11 ∧ yX11_later.cls ≠ "java/lang/invoke/MethodHandle" ∧ yX11_later.cls ≠ "java/lang/invoke/VarHandle" ∧ (parseMethodDescriptor yX11_later.desc).map (fun d => d.parameters.length) = some 1 := by decide +kernel
theorem hdV_X12_later_X12_1 : yX12_later.cls = RX12 ∧ yX12_later.cls ≠ "java/lang/invoke/MethodHandle" ∧ yX12_later.cls ≠ "java/lang/invoke/VarHandle" ∧ (parseMethodDescriptor yX12_later.desc).map (fun d => d.parameters.length) = some 1 := by decide +kernel
theorem hdV_X11_both_X11_2 : yX11_both.cls = RX11 ∧ yX11_both.cls ≠ "java/lang/invoke/MethodHandle" ∧ yX11_both.cls ≠ "java/lang/invoke/VarHandle" ∧ (parseMethodDescriptor yX11_both.desc).map (fun d => d.parameters.length) = some 2 := by decide +kernel
theorem hdV_X12_both_X12_2 : yX12_both.cls = RX12 ∧ yX12_both.cls ≠ "java/lang/invoke/MethodHandle" ∧ yX12_both.cls ≠ "java/lang/invoke/VarHandle" ∧ (parseMethodDescriptor yX12_both.desc).map (fun d => d.parameters.length) = some 2 := by decide +kernel
theorem hdV_X11_nearest_X11_2 : yX11_nearest.cls = RX11 ∧ yX11_nearest.cls ≠ "java/lang/invoke/MethodHandle" ∧ yX11_nearest.cls ≠ "java/lang/invoke/VarHandle" ∧ (parseMethodDescriptor yX11_nearest.desc).map (fun d => d.parameters.length) = some 2 := by decide +kernel
theorem hdV_X12_nearest_X12_2 : yX12_nearest.cls = RX12 ∧ yX12_nearest.cls ≠ "java/lang/invoke/MethodHandle" ∧ yX12_nearest.cls ≠ "java/lang/invoke/VarHandle" ∧ (parseMethodDescriptor yX12_nearest.desc).map (fun d => d.parameters.length) = some 2 := by decide +kernel
theorem hdV_X11_backed_X11_2 : yX11_backed.cls = RX11 ∧ yX11_backed.cls ≠ "java/lang/invoke/MethodHandle" ∧ yX11_backed.cls ≠ "java/lang/invoke/VarHandle" ∧ (parseMethodDescriptor yX11_backed.desc).map (fun d => d.parameters.length) = some 2 := by decide +kernel
theorem hdV_X12_backed_X12_2 : yX12_backed.cls = RX12 ∧ yX12_backed.cls ≠ "java/lang/invoke/MethodHandle" ∧ yX12_backed.cls ≠ "java/lang/invoke/VarHandle" ∧ (parseMethodDescriptor yX12_backed.desc).map (fun d => d.parameters.length) = some 2 := by decide +kernel
theorem hdV_X11_tell_X11_1 : yX11_tell.cls = RX11 ∧ yX11_tell.cls ≠ "java/lang/invoke/MethodHandle" ∧ yX11_tell.cls ≠ "java/lang/invoke/VarHandle" ∧ (parseMethodDescriptor yX11_tell.desc).map (fun d => d.parameters.length) = some 1 := by decide +kernel
theorem hdV_X12_tell_X12_1 : yX12_tell.cls = RX12 ∧ yX12_tell.cls ≠ "java/lang/invoke/MethodHandle" ∧ yX12_tell.cls ≠ "java/lang/invoke/VarHandle" ∧ (parseMethodDescriptor yX12_tell.desc).map (fun d => d.parameters.length) = some 1 := by decide +kernel
theorem hdV_X11_octet_X11_1 : yX11_octet.cls = RX11 ∧ yX11_octet.cls ≠ "java/lang/invoke/MethodHandle" ∧ yX11_octet.cls ≠ "java/lang/invoke/VarHandle" ∧ (parseMethodDescriptor yX11_octet.desc).map (fun d => d.parameters.length) = some 1 := by decide +kernel
theorem hdV_X12_octet_X12_1 : yX12_octet.cls = RX12 ∧ yX12_octet.cls ≠ "java/lang/invoke/MethodHandle" ∧ yX12_octet.cls ≠ "java/lang/invoke/VarHandle" ∧ (parseMethodDescriptor yX12_octet.desc).map (fun d => d.parameters.length) = some 1 := by decide +kernel
theorem hdV_X11_reports_X11_5 : yX11_reports.cls = RX11 ∧ yX11_reports.cls ≠ "java/lang/invoke/MethodHandle" ∧ yX11_reports.cls ≠ "java/lang/invoke/VarHandle" ∧ (parseMethodDescriptor yX11_reports.desc).map (fun d => d.parameters.length) = some 5 := by decide +kernel
theorem hdV_X12_reports_X12_5 : yX12_reports.cls = RX12 ∧ yX12_reports.cls ≠ "java/lang/invoke/MethodHandle" ∧ yX12_reports.cls ≠ "java/lang/invoke/VarHandle" ∧ (parseMethodDescriptor yX12_reports.desc).map (fun d => d.parameters.length) = some 5 := by decide +kernel
theorem hdV_X11_strikes_X11_1 : yX11_strikes.cls = RX11 ∧ yX11_strikes.cls ≠ "java/lang/invoke/MethodHandle" ∧ yX11_strikes.cls ≠ "java/lang/invoke/VarHandle" ∧ (parseMethodDescriptor yX11_strikes.desc).map (fun d => d.parameters.length) = some 1 := by decide +kernel
theorem hdV_X12_strikes_X12_1 : yX12_strikes.cls = RX12 ∧ yX12_strikes.cls ≠ "java/lang/invoke/MethodHandle" ∧ yX12_strikes.cls ≠ "java/lang/invoke/VarHandle" ∧ (parseMethodDescriptor yX12_strikes.desc).map (fun d => d.parameters.length) = some 1 := by decide +kernel
theorem hdV_X11_trusts_X11_2 : yX11_trusts.cls = RX11 ∧ yX11_trusts.cls ≠ "java/lang/invoke/MethodHandle" ∧ yX11_trusts.cls ≠ "java/lang/invoke/VarHandle" ∧ (parseMethodDescriptor yX11_trusts.desc).map (fun d => d.parameters.length) = some 2 := by decide +kernel
theorem hdV_X12_trusts_X12_2 : yX12_trusts.cls = RX12 ∧ yX12_trusts.cls ≠ "java/lang/invoke/MethodHandle" ∧ yX12_trusts.cls ≠ "java/lang/invoke/VarHandle" ∧ (parseMethodDescriptor yX12_trusts.desc).map (fun d => d.parameters.length) = some 2 := by decide +kernel
theorem hdV_X11_moon_X11_2 : yX11_moon.cls = RX11 ∧ yX11_moon.cls ≠ "java/lang/invoke/MethodHandle" ∧ yX11_moon.cls ≠ "java/lang/invoke/VarHandle" ∧ (parseMethodDescriptor yX11_moon.desc).map (fun d => d.parameters.length) = some 2 := by decide +kernel
theorem hdV_X12_moon_X12_2 : yX12_moon.cls = RX12 ∧ yX12_moon.cls ≠ "java/lang/invoke/MethodHandle" ∧ yX12_moon.cls ≠ "java/lang/invoke/VarHandle" ∧ (parseMethodDescriptor yX12_moon.desc).map (fun d => d.parameters.length) = some 2 := by decide +kernel
theorem hdV_X11_runs_X11_2 : yX11_runs.cls = RX11 ∧ yX11_runs.cls ≠ "java/lang/invoke/MethodHandle" ∧ yX11_runs.cls ≠ "java/lang/invoke/VarHandle" ∧ (parseMethodDescriptor yX11_runs.desc).map (fun d => d.parameters.length) = some 2 := by decide +kernel
theorem hdV_X12_runs_X12_2 : yX12_runs.cls = RX12 ∧ yX12_runs.cls ≠ "java/lang/invoke/MethodHandle" ∧ yX12_runs.cls ≠ "java/lang/invoke/VarHandle" ∧ (parseMethodDescriptor yX12_runs.desc).map (fun d => d.parameters.length) = some 2 := by decide +kernel
