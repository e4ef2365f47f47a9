theorem kwGA_918 : ∀ w ∈ wtGA_918, w ∈ lw_tbl := List.forall_mem_append.mpr ⟨List.forall_mem_append.mpr ⟨List.forall_mem_append.mpr ⟨List.forall_mem_append.mpr ⟨List.forall_mem_append.mpr ⟨List.forall_mem_append.mpr ⟨List.forall_mem_append.mpr ⟨List.forall_mem_append.mpr ⟨List.forall_mem_append.mpr ⟨List.forall_mem_append.mpr ⟨List.forall_mem_append.mpr ⟨lyX0, lyX1⟩, lyX2⟩, lyX3⟩, lyX4⟩, lyX5⟩, lyX6⟩, lyX7⟩, lyX8⟩, lyX9⟩, lyX10⟩, lyX11⟩
theorem kwGA_917 : ∀ w ∈ wtGA_917, w ∈ lw_tbl := List.forall_mem_cons.mpr ⟨lm_426, kwGA_918⟩
theorem kwGA_916 : ∀ w ∈ wtGA_916, w ∈ lw_tbl := List.forall_mem_cons.mpr ⟨lm_429, kwGA_917⟩
theorem kwGA_915 : ∀ w ∈ wtGA_915, w ∈ lw_tbl := List.forall_mem_cons.mpr ⟨lm_428, kwGA_916⟩
theorem kwGA_914 : ∀ w ∈ wtGA_914, w ∈ lw_tbl := List.forall_mem_cons.mpr ⟨lm_493, kwGA_915⟩
theorem kwGA_913 : ∀ w ∈ wtGA_913, w ∈ lw_tbl := List.forall_mem_cons.mpr ⟨lm_494, kwGA_914⟩
theorem kwGA_912 : ∀ w ∈ wtGA_912, w ∈ lw_tbl := List.forall_mem_cons.mpr ⟨lm_418, kwGA_913⟩
theorem kwGA_911 : ∀ w ∈ wtGA_911, w ∈ lw_tbl := List.forall_mem_cons.mpr ⟨lm_421, kwGA_912⟩
theorem kwGA_910 : ∀ w ∈ wtGA_910, w ∈ lw_tbl := List.forall_mem_cons.mpr ⟨lm_420, kwGA_911⟩
theorem kwGA_909 : ∀ w ∈ wtGA_909, w ∈ lw_tbl := List.forall_mem_cons.mpr ⟨lm_410, kwGA_910⟩
theorem kwGA_908 : ∀ w ∈ wtGA_908, w ∈ lw_tbl := List.forall_mem_cons.mpr ⟨lm_413, kwGA_909⟩
theorem kwGA_907 : ∀ w ∈ wtGA_907, w ∈ lw_tbl := List.forall_mem_cons.mpr ⟨lm_412, kwGA_908⟩
theorem kwGA_906 : ∀ w ∈ wtGA_906, w ∈ lw_tbl := List.forall_mem_cons.mpr ⟨lm_495, kwGA_907⟩
theorem kwGA_905 : ∀ w ∈ wtGA_905, w ∈ lw_tbl := List.forall_mem_cons.mpr ⟨lm_496, kwGA_906⟩
theorem kwGA_904 : ∀ w ∈ wtGA_904, w ∈ lw_tbl := List.forall_mem_cons.mpr ⟨lm_497, kwGA_905⟩
theorem kwGA_903 : ∀ w ∈ wtGA_903, w ∈ lw_tbl := List.forall_mem_cons.mpr ⟨lm_498, kwGA_904⟩
theorem kwGA_902 : ∀ w ∈ wtGA_902, w ∈ lw_tbl := List.forall_mem_cons.mpr ⟨lm_499, kwGA_903⟩
theorem kwGA_901 : ∀ w ∈ wtGA_901, w ∈ lw_tbl := List.forall_mem_cons.mpr ⟨lm_402, kwGA_902⟩
theorem kwGA_900 : ∀ w ∈ wtGA_900, w ∈ lw_tbl := List.forall_mem_cons.mpr ⟨lm_405, kwGA_901⟩
theorem kwGA_899 : ∀ w ∈ wtGA_899, w ∈ lw_tbl := List.forall_mem_cons.mpr ⟨lm_404, kwGA_900⟩
theorem kwGA_898 : ∀ w ∈ wtGA_898, w ∈ lw_tbl := List.forall_mem_cons.mpr ⟨lm_500, kwGA_899⟩
theorem kwGA_897 : ∀ w ∈ wtGA_897, w ∈ lw_tbl := List.forall_mem_cons.mpr ⟨lm_394, kwGA_898⟩
theorem kwGA_896 : ∀ w ∈ wtGA_896, w ∈ lw_tbl := List.forall_mem_cons.mpr ⟨lm_397, kwGA_897⟩
theorem kwGA_895 : ∀ w ∈ wtGA_895, w ∈ lw_tbl := List.forall_mem_cons.mpr ⟨lm_396, kwGA_896⟩
theorem kwGA_894 : ∀ w ∈ wtGA_894, w ∈ lw_tbl := List.forall_mem_cons.mpr ⟨lm_386, kwGA_895⟩
theorem kwGA_893 : ∀ w ∈ wtGA_893, w ∈ lw_tbl := List.forall_mem_cons.mpr ⟨lm_389, kwGA_894⟩
theorem kwGA_892 : ∀ w ∈ wtGA_892, w ∈ lw_tbl := List.forall_mem_cons.mpr ⟨lm_388, kwGA_893⟩
theorem kwGA_891 : ∀ w ∈ wtGA_891, w ∈ lw_tbl := List.forall_mem_cons.mpr ⟨lm_501, kwGA_892⟩
theorem kwGA_890 : ∀ w ∈ wtGA_890, w ∈ lw_tbl := List.forall_mem_cons.mpr ⟨lm_502, kwGA_891⟩
theorem kwGA_889 : ∀ w ∈ wtGA_889, w ∈ lw_tbl := List.forall_mem_cons.mpr ⟨lm_503, kwGA_890⟩
theorem kwGA_888 : ∀ w ∈ wtGA_888, w ∈ lw_tbl := List.forall_mem_cons.mpr ⟨lm_504, kwGA_889⟩
theorem kwGA_887 : ∀ w ∈ wtGA_887, w ∈ lw_tbl := List.forall_mem_cons.mpr ⟨lm_378, kwGA_888⟩
theorem kwGA_886 : ∀ w ∈ wtGA_886, w ∈ lw_tbl := List.forall_mem_cons.mpr ⟨lm_381, kwGA_887⟩
theorem kwGA_885 : ∀ w ∈ wtGA_885, w ∈ lw_tbl := List.forall_mem_cons.mpr ⟨lm_380, kwGA_886⟩
theorem kwGA_884 : ∀ w ∈ wtGA_884, w ∈ lw_tbl := List.forall_mem_cons.mpr ⟨lm_505, kwGA_885⟩
theorem kwGA_883 : ∀ w ∈ wtGA_883, w ∈ lw_tbl := List.forall_mem_cons.mpr ⟨lm_506, kwGA_884⟩
theorem kwGA_882 : ∀ w ∈ wtGA_882, w ∈ lw_tbl := List.forall_mem_cons.mpr ⟨lm_507, kwGA_883⟩
theorem kwGA_881 : ∀ w ∈ wtGA_881, w ∈ lw_tbl := List.forall_mem_cons.mpr ⟨lm_508, kwGA_882⟩
theorem kwGA_880 : ∀ w ∈ wtGA_880, w ∈ lw_tbl := List.forall_mem_cons.mpr ⟨lm_509, kwGA_881⟩
theorem kwGA_879 : ∀ w ∈ wtGA_879, w ∈ lw_tbl := List.forall_mem_cons.mpr ⟨lm_370, kwGA_880⟩
theorem kwGA_878 : ∀ w ∈ wtGA_878, w ∈ lw_tbl := List.forall_mem_cons.mpr ⟨lm_373, kwGA_879⟩
theorem kwGA_877 : ∀ w ∈ wtGA_877, w ∈ lw_tbl := List.forall_mem_cons.mpr ⟨lm_372, kwGA_878⟩
theorem kwGA_876 : ∀ w ∈ wtGA_876, w ∈ lw_tbl := List.forall_mem_cons.mpr ⟨lm_510, kwGA_877⟩
theorem kwGA_875 : ∀ w ∈ wtGA_875, w ∈ lw_tbl := List.forall_mem_cons.mpr ⟨lm_511, kwGA_876⟩
theorem kwGA_874 : ∀ w ∈ wtGA_874, w ∈ lw_tbl := List.forall_mem_cons.mpr ⟨lm_512, kwGA_875⟩
theorem kwGA_873 : ∀ w ∈ wtGA_873, w ∈ lw_tbl := List.forall_mem_cons.mpr ⟨lm_513, kwGA_874⟩
theorem kwGA_872 : ∀ w ∈ wtGA_872, w ∈ lw_tbl := List.forall_mem_cons.mpr ⟨lm_514, kwGA_873⟩
theorem kwGA_871 : ∀ w ∈ wtGA_871, w ∈ lw_tbl := List.forall_mem_cons.mpr ⟨lm_515, kwGA_872⟩
theorem kwGA_870 : ∀ w ∈ wtGA_870, w ∈ lw_tbl := List.forall_mem_cons.mpr ⟨lm_516, kwGA_871⟩
theorem kwGA_869 : ∀ w ∈ wtGA_869, w ∈ lw_tbl := List.forall_mem_cons.mpr ⟨lm_362, kwGA_870⟩
theorem kwGA_868 : ∀ w ∈ wtGA_868, w ∈ lw_tbl := List.forall_mem_cons.mpr ⟨lm_365, kwGA_869⟩
theorem kwGA_867 : ∀ w ∈ wtGA_867, w ∈ lw_tbl := List.forall_mem_cons.mpr ⟨lm_364, kwGA_868⟩
theorem kwGA_866 : ∀ w ∈ wtGA_866, w ∈ lw_tbl := List.forall_mem_cons.mpr ⟨lm_354, kwGA_867⟩
theorem kwGA_865 : ∀ w ∈ wtGA_865, w ∈ lw_tbl := List.forall_mem_cons.mpr ⟨lm_357, kwGA_866⟩
theorem kwGA_864 : ∀ w ∈ wtGA_864, w ∈ lw_tbl := List.forall_mem_cons.mpr ⟨lm_356, kwGA_865⟩
theorem kwGA_863 : ∀ w ∈ wtGA_863, w ∈ lw_tbl := List.forall_mem_cons.mpr ⟨lm_517, kwGA_864⟩
theorem kwGA_862 : ∀ w ∈ wtGA_862, w ∈ lw_tbl := List.forall_mem_cons.mpr ⟨lm_518, kwGA_863⟩
theorem kwGA_861 : ∀ w ∈ wtGA_861, w ∈ lw_tbl := List.forall_mem_cons.mpr ⟨lm_519, kwGA_862⟩
theorem kwGA_860 : ∀ w ∈ wtGA_860, w ∈ lw_tbl := List.forall_mem_cons.mpr ⟨lm_520, kwGA_861⟩
theorem kwGA_859 : ∀ w ∈ wtGA_859, w ∈ lw_tbl := List.forall_mem_cons.mpr ⟨lm_346, kwGA_860⟩
theorem kwGA_858 : ∀ w ∈ wtGA_858, w ∈ lw_tbl := List.forall_mem_cons.mpr ⟨lm_349, kwGA_859⟩
theorem kwGA_857 : ∀ w ∈ wtGA_857, w ∈ lw_tbl := List.forall_mem_cons.mpr ⟨lm_348, kwGA_858⟩
theorem kwGA_856 : ∀ w ∈ wtGA_856, w ∈ lw_tbl := List.forall_mem_cons.mpr ⟨lm_521, kwGA_857⟩
theorem kwGA_855 : ∀ w ∈ wtGA_855, w ∈ lw_tbl := List.forall_mem_cons.mpr ⟨lm_522, kwGA_856⟩
theorem kwGA_854 : ∀ w ∈ wtGA_854, w ∈ lw_tbl := List.forall_mem_cons.mpr ⟨lm_523, kwGA_855⟩
theorem kwGA_853 : ∀ w ∈ wtGA_853, w ∈ lw_tbl := List.forall_mem_cons.mpr ⟨lm_524, kwGA_854⟩
theorem kwGA_852 : ∀ w ∈ wtGA_852, w ∈ lw_tbl := List.forall_mem_cons.mpr ⟨lm_338, kwGA_853⟩
theorem kwGA_851 : ∀ w ∈ wtGA_851, w ∈ lw_tbl := List.forall_mem_cons.mpr ⟨lm_341, kwGA_852⟩
theorem kwGA_850 : ∀ w ∈ wtGA_850, w ∈ lw_tbl := List.forall_mem_cons.mpr ⟨lm_340, kwGA_851⟩
theorem kwGA_849 : ∀ w ∈ wtGA_849, w ∈ lw_tbl := List.forall_mem_cons.mpr ⟨lm_330, kwGA_850⟩
theorem kwGA_848 : ∀ w ∈ wtGA_848, w ∈ lw_tbl := List.forall_mem_cons.mpr ⟨lm_333, kwGA_849⟩
theorem kwGA_847 : ∀ w ∈ wtGA_847, w ∈ lw_tbl := List.forall_mem_cons.mpr ⟨lm_332, kwGA_848⟩
theorem kwGA_846 : ∀ w ∈ wtGA_846, w ∈ lw_tbl := List.forall_mem_cons.mpr ⟨lm_322, kwGA_847⟩
theorem kwGA_845 : ∀ w ∈ wtGA_845, w ∈ lw_tbl := List.forall_mem_cons.mpr ⟨lm_325, kwGA_846⟩
theorem kwGA_844 : ∀ w ∈ wtGA_844, w ∈ lw_tbl := List.forall_mem_cons.mpr ⟨lm_324, kwGA_845⟩
theorem kwGA_843 : ∀ w ∈ wtGA_843, w ∈ lw_tbl := List.forall_mem_cons.mpr ⟨lm_525, kwGA_844⟩
theorem kwGA_842 : ∀ w ∈ wtGA_842, w ∈ lw_tbl := List.forall_mem_cons.mpr ⟨lm_526, kwGA_843⟩
theorem kwGA_841 : ∀ w ∈ wtGA_841, w ∈ lw_tbl := List.forall_mem_cons.mpr ⟨lm_527, kwGA_842⟩
theorem kwGA_840 : ∀ w ∈ wtGA_840, w ∈ lw_tbl := List.forall_mem_cons.mpr ⟨lm_528, kwGA_841⟩
theorem kwGA_839 : ∀ w ∈ wtGA_839, w ∈ lw_tbl := List.forall_mem_cons.mpr ⟨lm_529, kwGA_840⟩
theorem kwGA_838 : ∀ w ∈ wtGA_838, w ∈ lw_tbl := List.forall_mem_cons.mpr ⟨lm_314, kwGA_839⟩
theorem kwGA_837 : ∀ w ∈ wtGA_837, w ∈ lw_tbl := List.forall_mem_cons.mpr ⟨lm_317, kwGA_838⟩
theorem kwGA_836 : ∀ w ∈ wtGA_836, w ∈ lw_tbl := List.forall_mem_cons.mpr ⟨lm_316, kwGA_837⟩
theorem kwGA_835 : ∀ w ∈ wtGA_835, w ∈ lw_tbl := List.forall_mem_cons.mpr ⟨lm_306, kwGA_836⟩
theorem kwGA_834 : ∀ w ∈ wtGA_834, w ∈ lw_tbl := List.forall_mem_cons.mpr ⟨lm_309, kwGA_835⟩
theorem kwGA_833 : ∀ w ∈ wtGA_833, w ∈ lw_tbl := List.forall_mem_cons.mpr ⟨lm_308, kwGA_834⟩
theorem kwGA_832 : ∀ w ∈ wtGA_832, w ∈ lw_tbl := List.forall_mem_cons.mpr ⟨lm_530, kwGA_833⟩
theorem kwGA_831 : ∀ w ∈ wtGA_831, w ∈ lw_tbl := List.forall_mem_cons.mpr ⟨lm_531, kwGA_832⟩
theorem kwGA_830 : ∀ w ∈ wtGA_830, w ∈ lw_tbl := List.forall_mem_cons.mpr ⟨lm_532, kwGA_831⟩
theorem kwGA_829 : ∀ w ∈ wtGA_829, w ∈ lw_tbl := List.forall_mem_cons.mpr ⟨lm_533, kwGA_830⟩
theorem kwGA_828 : ∀ w ∈ wtGA_828, w ∈ lw_tbl := List.forall_mem_cons.mpr ⟨lm_534, kwGA_829⟩
theorem kwGA_827 : ∀ w ∈ wtGA_827, w ∈ lw_tbl := List.forall_mem_cons.mpr ⟨lm_298, kwGA_828⟩
theorem kwGA_826 : ∀ w ∈ wtGA_826, w ∈ lw_tbl := List.forall_mem_cons.mpr ⟨lm_301, kwGA_827⟩
theorem kwGA_825 : ∀ w ∈ wtGA_825, w ∈ lw_tbl := List.forall_mem_cons.mpr ⟨lm_300, kwGA_826⟩
theorem kwGA_824 : ∀ w ∈ wtGA_824, w ∈ lw_tbl := List.forall_mem_cons.mpr ⟨lm_535, kwGA_825⟩
theorem kwGA_823 : ∀ w ∈ wtGA_823, w ∈ lw_tbl := List.forall_mem_cons.mpr ⟨lm_536, kwGA_824⟩
theorem kwGA_822 : ∀ w ∈ wtGA_822, w ∈ lw_tbl := List.forall_mem_cons.mpr ⟨lm_537, kwGA_823⟩
theorem kwGA_821 : ∀ w ∈ wtGA_821, w ∈ lw_tbl := List.forall_mem_cons.mpr ⟨lm_538, kwGA_822⟩
theorem kwGA_820 : ∀ w ∈ wtGA_820, w ∈ lw_tbl := List.forall_mem_cons.mpr ⟨lm_539, kwGA_821⟩
theorem kwGA_819 : ∀ w ∈ wtGA_819, w ∈ lw_tbl := List.forall_mem_cons.mpr ⟨lm_540, kwGA_820⟩
theorem kwGA_818 : ∀ w ∈ wtGA_818, w ∈ lw_tbl := List.forall_mem_cons.mpr ⟨lm_541, kwGA_819⟩
theorem kwGA_817 : ∀ w ∈ wtGA_817, w ∈ lw_tbl := List.forall_mem_cons.mpr ⟨lm_542, kwGA_818⟩
theorem kwGA_816 : ∀ w ∈ wtGA_816, w ∈ lw_tbl := List.forall_mem_cons.mpr ⟨lm_543, kwGA_817⟩
theorem kwGA_815 : ∀ w ∈ wtGA_815, w ∈ lw_tbl := List.forall_mem_cons.mpr ⟨lm_544, kwGA_816⟩
theorem kwGA_814 : ∀ w ∈ wtGA_814, w ∈ lw_tbl := List.forall_mem_cons.mpr ⟨lm_545, kwGA_815⟩
theorem kwGA_813 : ∀ w ∈ wtGA_813, w ∈ lw_tbl := List.forall_mem_cons.mpr ⟨lm_546, kwGA_814⟩
theorem kwGA_812 : ∀ w ∈ wtGA_812, w ∈ lw_tbl := List.forall_mem_cons.mpr ⟨lm_547, kwGA_813⟩
theorem kwGA_811 : ∀ w ∈ wtGA_811, w ∈ lw_tbl := List.forall_mem_cons.mpr ⟨lm_548, kwGA_812⟩
theorem kwGA_810 : ∀ w ∈ wtGA_810, w ∈ lw_tbl := List.forall_mem_cons.mpr ⟨lm_549, kwGA_811⟩
theorem kwGA_809 : ∀ w ∈ wtGA_809, w ∈ lw_tbl := List.forall_mem_cons.mpr ⟨lm_290, kwGA_810⟩
theorem kwGA_808 : ∀ w ∈ wtGA_808, w ∈ lw_tbl := List.forall_mem_cons.mpr ⟨lm_293, kwGA_809⟩
theorem kwGA_807 : ∀ w ∈ wtGA_807, w ∈ lw_tbl := List.forall_mem_cons.mpr ⟨lm_292, kwGA_808⟩
theorem kwGA_806 : ∀ w ∈ wtGA_806, w ∈ lw_tbl := List.forall_mem_cons.mpr ⟨lm_550, kwGA_807⟩
theorem kwGA_805 : ∀ w ∈ wtGA_805, w ∈ lw_tbl := List.forall_mem_cons.mpr ⟨lm_551, kwGA_806⟩
theorem kwGA_804 : ∀ w ∈ wtGA_804, w ∈ lw_tbl := List.forall_mem_cons.mpr ⟨lm_552, kwGA_805⟩
theorem kwGA_803 : ∀ w ∈ wtGA_803, w ∈ lw_tbl := List.forall_mem_cons.mpr ⟨lm_553, kwGA_804⟩
theorem kwGA_802 : ∀ w ∈ wtGA_802, w ∈ lw_tbl := List.forall_mem_cons.mpr ⟨lm_554, kwGA_803⟩
theorem kwGA_801 : ∀ w ∈ wtGA_801, w ∈ lw_tbl := List.forall_mem_cons.mpr ⟨lm_555, kwGA_802⟩
theorem kwGA_800 : ∀ w ∈ wtGA_800, w ∈ lw_tbl := List.forall_mem_cons.mpr ⟨lm_556, kwGA_801⟩
theorem kwGA_799 : ∀ w ∈ wtGA_799, w ∈ lw_tbl := List.forall_mem_cons.mpr ⟨lm_557, kwGA_800⟩
theorem kwGA_798 : ∀ w ∈ wtGA_798, w ∈ lw_tbl := List.forall_mem_cons.mpr ⟨lm_558, kwGA_799⟩
theorem kwGA_797 : ∀ w ∈ wtGA_797, w ∈ lw_tbl := List.forall_mem_cons.mpr ⟨lm_559, kwGA_798⟩
theorem kwGA_796 : ∀ w ∈ wtGA_796, w ∈ lw_tbl := List.forall_mem_cons.mpr ⟨lm_560, kwGA_797⟩
theorem kwGA_795 : ∀ w ∈ wtGA_795, w ∈ lw_tbl := List.forall_mem_cons.mpr ⟨lm_561, kwGA_796⟩
theorem kwGA_794 : ∀ w ∈ wtGA_794, w ∈ lw_tbl := List.forall_mem_cons.mpr ⟨lm_562, kwGA_795⟩
theorem kwGA_793 : ∀ w ∈ wtGA_793, w ∈ lw_tbl := List.forall_mem_cons.mpr ⟨lm_563, kwGA_794⟩
theorem kwGA_792 : ∀ w ∈ wtGA_792, w ∈ lw_tbl := List.forall_mem_cons.mpr ⟨lm_564, kwGA_793⟩
theorem kwGA_791 : ∀ w ∈ wtGA_791, w ∈ lw_tbl := List.forall_mem_cons.mpr ⟨lm_565, kwGA_792⟩
theorem kwGA_790 : ∀ w ∈ wtGA_790, w ∈ lw_tbl := List.forall_mem_cons.mpr ⟨lm_566, kwGA_791⟩
theorem kwGA_789 : ∀ w ∈ wtGA_789, w ∈ lw_tbl := List.forall_mem_cons.mpr ⟨lm_567, kwGA_790⟩
theorem kwGA_788 : ∀ w ∈ wtGA_788, w ∈ lw_tbl := List.forall_mem_cons.mpr ⟨lm_568, kwGA_789⟩
theorem kwGA_787 : ∀ w ∈ wtGA_787, w ∈ lw_tbl := List.forall_mem_cons.mpr ⟨lm_569, kwGA_788⟩
theorem kwGA_786 : ∀ w ∈ wtGA_786, w ∈ lw_tbl := List.forall_mem_cons.mpr ⟨lm_570, kwGA_787⟩
theorem kwGA_785 : ∀ w ∈ wtGA_785, w ∈ lw_tbl := List.forall_mem_cons.mpr ⟨lm_571, kwGA_786⟩
theorem kwGA_784 : ∀ w ∈ wtGA_784, w ∈ lw_tbl := List.forall_mem_cons.mpr ⟨lm_572, kwGA_785⟩
theorem kwGA_783 : ∀ w ∈ wtGA_783, w ∈ lw_tbl := List.forall_mem_cons.mpr ⟨lm_573, kwGA_784⟩
theorem kwGA_782 : ∀ w ∈ wtGA_782, w ∈ lw_tbl := List.forall_mem_cons.mpr ⟨lm_574, kwGA_783⟩
theorem kwGA_781 : ∀ w ∈ wtGA_781, w ∈ lw_tbl := List.forall_mem_cons.mpr ⟨lm_575, kwGA_782⟩
theorem kwGA_780 : ∀ w ∈ wtGA_780, w ∈ lw_tbl := List.forall_mem_cons.mpr ⟨lm_576, kwGA_781⟩
theorem kwGA_779 : ∀ w ∈ wtGA_779, w ∈ lw_tbl := List.forall_mem_cons.mpr ⟨lm_577, kwGA_780⟩
theorem kwGA_778 : ∀ w ∈ wtGA_778, w ∈ lw_tbl := List.forall_mem_cons.mpr ⟨lm_578, kwGA_779⟩
theorem kwGA_777 : ∀ w ∈ wtGA_777, w ∈ lw_tbl := List.forall_mem_cons.mpr ⟨lm_579, kwGA_778⟩
theorem kwGA_776 : ∀ w ∈ wtGA_776, w ∈ lw_tbl := List.forall_mem_cons.mpr ⟨lm_580, kwGA_777⟩
theorem kwGA_775 : ∀ w ∈ wtGA_775, w ∈ lw_tbl := List.forall_mem_cons.mpr ⟨lm_581, kwGA_776⟩
theorem kwGA_774 : ∀ w ∈ wtGA_774, w ∈ lw_tbl := List.forall_mem_cons.mpr ⟨lm_582, kwGA_775⟩
theorem kwGA_773 : ∀ w ∈ wtGA_773, w ∈ lw_tbl := List.forall_mem_cons.mpr ⟨lm_583, kwGA_774⟩
theorem kwGA_772 : ∀ w ∈ wtGA_772, w ∈ lw_tbl := List.forall_mem_cons.mpr ⟨lm_584, kwGA_773⟩
theorem kwGA_771 : ∀ w ∈ wtGA_771, w ∈ lw_tbl := List.forall_mem_cons.mpr ⟨lm_585, kwGA_772⟩
theorem kwGA_770 : ∀ w ∈ wtGA_770, w ∈ lw_tbl := List.forall_mem_cons.mpr ⟨lm_586, kwGA_771⟩
theorem kwGA_769 : ∀ w ∈ wtGA_769, w ∈ lw_tbl := List.forall_mem_cons.mpr ⟨lm_587, kwGA_770⟩
theorem kwGA_768 : ∀ w ∈ wtGA_768, w ∈ lw_tbl := List.forall_mem_cons.mpr ⟨lm_588, kwGA_769⟩
theorem kwGA_767 : ∀ w ∈ wtGA_767, w ∈ lw_tbl := List.forall_mem_cons.mpr ⟨lm_589, kwGA_768⟩
theorem kwGA_766 : ∀ w ∈ wtGA_766, w ∈ lw_tbl := List.forall_mem_cons.mpr ⟨lm_590, kwGA_767⟩
theorem kwGA_765 : ∀ w ∈ wtGA_765, w ∈ lw_tbl := List.forall_mem_cons.mpr ⟨lm_591, kwGA_766⟩
theorem kwGA_764 : ∀ w ∈ wtGA_764, w ∈ lw_tbl := List.forall_mem_cons.mpr ⟨lm_282, kwGA_765⟩
theorem kwGA_763 : ∀ w ∈ wtGA_763, w ∈ lw_tbl := List.forall_mem_cons.mpr ⟨lm_285, kwGA_764⟩
theorem kwGA_762 : ∀ w ∈ wtGA_762, w ∈ lw_tbl := List.forall_mem_cons.mpr ⟨lm_284, kwGA_763⟩
theorem kwGA_761 : ∀ w ∈ wtGA_761, w ∈ lw_tbl := List.forall_mem_cons.mpr ⟨lm_274, kwGA_762⟩
theorem kwGA_760 : ∀ w ∈ wtGA_760, w ∈ lw_tbl := List.forall_mem_cons.mpr ⟨lm_277, kwGA_761⟩
theorem kwGA_759 : ∀ w ∈ wtGA_759, w ∈ lw_tbl := List.forall_mem_cons.mpr ⟨lm_276, kwGA_760⟩
theorem kwGA_758 : ∀ w ∈ wtGA_758, w ∈ lw_tbl := List.forall_mem_cons.mpr ⟨lm_266, kwGA_759⟩
theorem kwGA_757 : ∀ w ∈ wtGA_757, w ∈ lw_tbl := List.forall_mem_cons.mpr ⟨lm_269, kwGA_758⟩
theorem kwGA_756 : ∀ w ∈ wtGA_756, w ∈ lw_tbl := List.forall_mem_cons.mpr ⟨lm_268, kwGA_757⟩
theorem kwGA_755 : ∀ w ∈ wtGA_755, w ∈ lw_tbl := List.forall_mem_cons.mpr ⟨lm_258, kwGA_756⟩
theorem kwGA_754 : ∀ w ∈ wtGA_754, w ∈ lw_tbl := List.forall_mem_cons.mpr ⟨lm_261, kwGA_755⟩
theorem kwGA_753 : ∀ w ∈ wtGA_753, w ∈ lw_tbl := List.forall_mem_cons.mpr ⟨lm_260, kwGA_754⟩
theorem kwGA_752 : ∀ w ∈ wtGA_752, w ∈ lw_tbl := List.forall_mem_cons.mpr ⟨lm_592, kwGA_753⟩
theorem kwGA_751 : ∀ w ∈ wtGA_751, w ∈ lw_tbl := List.forall_mem_cons.mpr ⟨lm_593, kwGA_752⟩
theorem kwGA_750 : ∀ w ∈ wtGA_750, w ∈ lw_tbl := List.forall_mem_cons.mpr ⟨lm_594, kwGA_751⟩
theorem kwGA_749 : ∀ w ∈ wtGA_749, w ∈ lw_tbl := List.forall_mem_cons.mpr ⟨lm_595, kwGA_750⟩
theorem kwGA_748 : ∀ w ∈ wtGA_748, w ∈ lw_tbl := List.forall_mem_cons.mpr ⟨lm_596, kwGA_749⟩
theorem kwGA_747 : ∀ w ∈ wtGA_747, w ∈ lw_tbl := List.forall_mem_cons.mpr ⟨lm_597, kwGA_748⟩
theorem kwGA_746 : ∀ w ∈ wtGA_746, w ∈ lw_tbl := List.forall_mem_cons.mpr ⟨lm_598, kwGA_747⟩
theorem kwGA_745 : ∀ w ∈ wtGA_745, w ∈ lw_tbl := List.forall_mem_cons.mpr ⟨lm_599, kwGA_746⟩
theorem kwGA_744 : ∀ w ∈ wtGA_744, w ∈ lw_tbl := List.forall_mem_cons.mpr ⟨lm_600, kwGA_745⟩
theorem kwGA_743 : ∀ w ∈ wtGA_743, w ∈ lw_tbl := List.forall_mem_cons.mpr ⟨lm_601, kwGA_744⟩
theorem kwGA_742 : ∀ w ∈ wtGA_742, w ∈ lw_tbl := List.forall_mem_cons.mpr ⟨lm_602, kwGA_743⟩
theorem kwGA_741 : ∀ w ∈ wtGA_741, w ∈ lw_tbl := List.forall_mem_cons.mpr ⟨lm_603, kwGA_742⟩
theorem kwGA_740 : ∀ w ∈ wtGA_740, w ∈ lw_tbl := List.forall_mem_cons.mpr ⟨lm_604, kwGA_741⟩
theorem kwGA_739 : ∀ w ∈ wtGA_739, w ∈ lw_tbl := List.forall_mem_cons.mpr ⟨lm_605, kwGA_740⟩
theorem kwGA_738 : ∀ w ∈ wtGA_738, w ∈ lw_tbl := List.forall_mem_cons.mpr ⟨lm_606, kwGA_739⟩
theorem kwGA_737 : ∀ w ∈ wtGA_737, w ∈ lw_tbl := List.forall_mem_cons.mpr ⟨lm_607, kwGA_738⟩
theorem kwGA_736 : ∀ w ∈ wtGA_736, w ∈ lw_tbl := List.forall_mem_cons.mpr ⟨lm_250, kwGA_737⟩
theorem kwGA_735 : ∀ w ∈ wtGA_735, w ∈ lw_tbl := List.forall_mem_cons.mpr ⟨lm_253, kwGA_736⟩
theorem kwGA_734 : ∀ w ∈ wtGA_734, w ∈ lw_tbl := List.forall_mem_cons.mpr ⟨lm_252, kwGA_735⟩
theorem kwGA_733 : ∀ w ∈ wtGA_733, w ∈ lw_tbl := List.forall_mem_cons.mpr ⟨lm_608, kwGA_734⟩
theorem kwGA_732 : ∀ w ∈ wtGA_732, w ∈ lw_tbl := List.forall_mem_cons.mpr ⟨lm_609, kwGA_733⟩
theorem kwGA_731 : ∀ w ∈ wtGA_731, w ∈ lw_tbl := List.forall_mem_cons.mpr ⟨lm_610, kwGA_732⟩
theorem kwGA_730 : ∀ w ∈ wtGA_730, w ∈ lw_tbl := List.forall_mem_cons.mpr ⟨lm_611, kwGA_731⟩
theorem kwGA_729 : ∀ w ∈ wtGA_729, w ∈ lw_tbl := List.forall_mem_cons.mpr ⟨lm_242, kwGA_730⟩
theorem kwGA_728 : ∀ w ∈ wtGA_728, w ∈ lw_tbl := List.forall_mem_cons.mpr ⟨lm_245, kwGA_729⟩
theorem kwGA_727 : ∀ w ∈ wtGA_727, w ∈ lw_tbl := List.forall_mem_cons.mpr ⟨lm_244, kwGA_728⟩
theorem kwGA_726 : ∀ w ∈ wtGA_726, w ∈ lw_tbl := List.forall_mem_cons.mpr ⟨lm_612, kwGA_727⟩
theorem kwGA_725 : ∀ w ∈ wtGA_725, w ∈ lw_tbl := List.forall_mem_cons.mpr ⟨lm_613, kwGA_726⟩
theorem kwGA_724 : ∀ w ∈ wtGA_724, w ∈ lw_tbl := List.forall_mem_cons.mpr ⟨lm_614, kwGA_725⟩
theorem kwGA_723 : ∀ w ∈ wtGA_723, w ∈ lw_tbl := List.forall_mem_cons.mpr ⟨lm_615, kwGA_724⟩
theorem kwGA_722 : ∀ w ∈ wtGA_722, w ∈ lw_tbl := List.forall_mem_cons.mpr ⟨lm_616, kwGA_723⟩
theorem kwGA_721 : ∀ w ∈ wtGA_721, w ∈ lw_tbl := List.forall_mem_cons.mpr ⟨lm_617, kwGA_722⟩
theorem kwGA_720 : ∀ w ∈ wtGA_720, w ∈ lw_tbl := List.forall_mem_cons.mpr ⟨lm_618, kwGA_721⟩
theorem kwGA_719 : ∀ w ∈ wtGA_719, w ∈ lw_tbl := List.forall_mem_cons.mpr ⟨lm_619, kwGA_720⟩
theorem kwGA_718 : ∀ w ∈ wtGA_718, w ∈ lw_tbl := List.forall_mem_cons.mpr ⟨lm_620, kwGA_719⟩
theorem kwGA_717 : ∀ w ∈ wtGA_717, w ∈ lw_tbl := List.forall_mem_cons.mpr ⟨lm_621, kwGA_718⟩
theorem kwGA_716 : ∀ w ∈ wtGA_716, w ∈ lw_tbl := List.forall_mem_cons.mpr ⟨lm_622, kwGA_717⟩
theorem kwGA_715 : ∀ w ∈ wtGA_715, w ∈ lw_tbl := List.forall_mem_cons.mpr ⟨lm_623, kwGA_716⟩
theorem kwGA_714 : ∀ w ∈ wtGA_714, w ∈ lw_tbl := List.forall_mem_cons.mpr ⟨lm_624, kwGA_715⟩
theorem kwGA_713 : ∀ w ∈ wtGA_713, w ∈ lw_tbl := List.forall_mem_cons.mpr ⟨lm_625, kwGA_714⟩
theorem kwGA_712 : ∀ w ∈ wtGA_712, w ∈ lw_tbl := List.forall_mem_cons.mpr ⟨lm_626, kwGA_713⟩
theorem kwGA_711 : ∀ w ∈ wtGA_711, w ∈ lw_tbl := List.forall_mem_cons.mpr ⟨lm_627, kwGA_712⟩
theorem kwGA_710 : ∀ w ∈ wtGA_710, w ∈ lw_tbl := List.forall_mem_cons.mpr ⟨lm_628, kwGA_711⟩
theorem kwGA_709 : ∀ w ∈ wtGA_709, w ∈ lw_tbl := List.forall_mem_cons.mpr ⟨lm_629, kwGA_710⟩
theorem kwGA_708 : ∀ w ∈ wtGA_708, w ∈ lw_tbl := List.forall_mem_cons.mpr ⟨lm_630, kwGA_709⟩
theorem kwGA_707 : ∀ w ∈ wtGA_707, w ∈ lw_tbl := List.forall_mem_cons.mpr ⟨lm_631, kwGA_708⟩
theorem kwGA_706 : ∀ w ∈ wtGA_706, w ∈ lw_tbl := List.forall_mem_cons.mpr ⟨lm_632, kwGA_707⟩
theorem kwGA_705 : ∀ w ∈ wtGA_705, w ∈ lw_tbl := List.forall_mem_cons.mpr ⟨lm_633, kwGA_706⟩
theorem kwGA_704 : ∀ w ∈ wtGA_704, w ∈ lw_tbl := List.forall_mem_cons.mpr ⟨lm_634, kwGA_705⟩
theorem kwGA_703 : ∀ w ∈ wtGA_703, w ∈ lw_tbl := List.forall_mem_cons.mpr ⟨lm_635, kwGA_704⟩
theorem kwGA_702 : ∀ w ∈ wtGA_702, w ∈ lw_tbl := List.forall_mem_cons.mpr ⟨lm_636, kwGA_703⟩
theorem kwGA_701 : ∀ w ∈ wtGA_701, w ∈ lw_tbl := List.forall_mem_cons.mpr ⟨lm_637, kwGA_702⟩
theorem kwGA_700 : ∀ w ∈ wtGA_700, w ∈ lw_tbl := List.forall_mem_cons.mpr ⟨lm_638, kwGA_701⟩
theorem kwGA_699 : ∀ w ∈ wtGA_699, w ∈ lw_tbl := List.forall_mem_cons.mpr ⟨lm_234, kwGA_700⟩
theorem kwGA_698 : ∀ w ∈ wtGA_698, w ∈ lw_tbl := List.forall_mem_cons.mpr ⟨lm_237, kwGA_699⟩
theorem kwGA_697 : ∀ w ∈ wtGA_697, w ∈ lw_tbl := List.forall_mem_cons.mpr ⟨lm_236, kwGA_698⟩
theorem kwGA_696 : ∀ w ∈ wtGA_696, w ∈ lw_tbl := List.forall_mem_cons.mpr ⟨lm_226, kwGA_697⟩
theorem kwGA_695 : ∀ w ∈ wtGA_695, w ∈ lw_tbl := List.forall_mem_cons.mpr ⟨lm_229, kwGA_696⟩
theorem kwGA_694 : ∀ w ∈ wtGA_694, w ∈ lw_tbl := List.forall_mem_cons.mpr ⟨lm_228, kwGA_695⟩
theorem kwGA_693 : ∀ w ∈ wtGA_693, w ∈ lw_tbl := List.forall_mem_cons.mpr ⟨lm_639, kwGA_694⟩
theorem kwGA_692 : ∀ w ∈ wtGA_692, w ∈ lw_tbl := List.forall_mem_cons.mpr ⟨lm_218, kwGA_693⟩
theorem kwGA_691 : ∀ w ∈ wtGA_691, w ∈ lw_tbl := List.forall_mem_cons.mpr ⟨lm_221, kwGA_692⟩
theorem kwGA_690 : ∀ w ∈ wtGA_690, w ∈ lw_tbl := List.forall_mem_cons.mpr ⟨lm_220, kwGA_691⟩
theorem kwGA_689 : ∀ w ∈ wtGA_689, w ∈ lw_tbl := List.forall_mem_cons.mpr ⟨lm_640, kwGA_690⟩
theorem kwGA_688 : ∀ w ∈ wtGA_688, w ∈ lw_tbl := List.forall_mem_cons.mpr ⟨lm_641, kwGA_689⟩
theorem kwGA_687 : ∀ w ∈ wtGA_687, w ∈ lw_tbl := List.forall_mem_cons.mpr ⟨lm_642, kwGA_688⟩
theorem kwGA_686 : ∀ w ∈ wtGA_686, w ∈ lw_tbl := List.forall_mem_cons.mpr ⟨lm_643, kwGA_687⟩
theorem kwGA_685 : ∀ w ∈ wtGA_685, w ∈ lw_tbl := List.forall_mem_cons.mpr ⟨lm_210, kwGA_686⟩
theorem kwGA_684 : ∀ w ∈ wtGA_684, w ∈ lw_tbl := List.forall_mem_cons.mpr ⟨lm_213, kwGA_685⟩
theorem kwGA_683 : ∀ w ∈ wtGA_683, w ∈ lw_tbl := List.forall_mem_cons.mpr ⟨lm_212, kwGA_684⟩
theorem kwGA_682 : ∀ w ∈ wtGA_682, w ∈ lw_tbl := List.forall_mem_cons.mpr ⟨lm_202, kwGA_683⟩
theorem kwGA_681 : ∀ w ∈ wtGA_681, w ∈ lw_tbl := List.forall_mem_cons.mpr ⟨lm_205, kwGA_682⟩
theorem kwGA_680 : ∀ w ∈ wtGA_680, w ∈ lw_tbl := List.forall_mem_cons.mpr ⟨lm_204, kwGA_681⟩
theorem kwGA_679 : ∀ w ∈ wtGA_679, w ∈ lw_tbl := List.forall_mem_cons.mpr ⟨lm_644, kwGA_680⟩
theorem kwGA_678 : ∀ w ∈ wtGA_678, w ∈ lw_tbl := List.forall_mem_cons.mpr ⟨lm_645, kwGA_679⟩
theorem kwGA_677 : ∀ w ∈ wtGA_677, w ∈ lw_tbl := List.forall_mem_cons.mpr ⟨lm_646, kwGA_678⟩
theorem kwGA_676 : ∀ w ∈ wtGA_676, w ∈ lw_tbl := List.forall_mem_cons.mpr ⟨lm_647, kwGA_677⟩
theorem kwGA_675 : ∀ w ∈ wtGA_675, w ∈ lw_tbl := List.forall_mem_cons.mpr ⟨lm_648, kwGA_676⟩
theorem kwGA_674 : ∀ w ∈ wtGA_674, w ∈ lw_tbl := List.forall_mem_cons.mpr ⟨lm_649, kwGA_675⟩
theorem kwGA_673 : ∀ w ∈ wtGA_673, w ∈ lw_tbl := List.forall_mem_cons.mpr ⟨lm_650, kwGA_674⟩
theorem kwGA_672 : ∀ w ∈ wtGA_672, w ∈ lw_tbl := List.forall_mem_cons.mpr ⟨lm_651, kwGA_673⟩
theorem kwGA_671 : ∀ w ∈ wtGA_671, w ∈ lw_tbl := List.forall_mem_cons.mpr ⟨lm_652, kwGA_672⟩
theorem kwGA_670 : ∀ w ∈ wtGA_670, w ∈ lw_tbl := List.forall_mem_cons.mpr ⟨lm_653, kwGA_671⟩
theorem kwGA_669 : ∀ w ∈ wtGA_669, w ∈ lw_tbl := List.forall_mem_cons.mpr ⟨lm_194, kwGA_670⟩
theorem kwGA_668 : ∀ w ∈ wtGA_668, w ∈ lw_tbl := List.forall_mem_cons.mpr ⟨lm_197, kwGA_669⟩
theorem kwGA_667 : ∀ w ∈ wtGA_667, w ∈ lw_tbl := List.forall_mem_cons.mpr ⟨lm_196, kwGA_668⟩
theorem kwGA_666 : ∀ w ∈ wtGA_666, w ∈ lw_tbl := List.forall_mem_cons.mpr ⟨lm_654, kwGA_667⟩
theorem kwGA_665 : ∀ w ∈ wtGA_665, w ∈ lw_tbl := List.forall_mem_cons.mpr ⟨lm_186, kwGA_666⟩
theorem kwGA_664 : ∀ w ∈ wtGA_664, w ∈ lw_tbl := List.forall_mem_cons.mpr ⟨lm_189, kwGA_665⟩
theorem kwGA_663 : ∀ w ∈ wtGA_663, w ∈ lw_tbl := List.forall_mem_cons.mpr ⟨lm_188, kwGA_664⟩
theorem kwGA_662 : ∀ w ∈ wtGA_662, w ∈ lw_tbl := List.forall_mem_cons.mpr ⟨lm_655, kwGA_663⟩
theorem kwGA_661 : ∀ w ∈ wtGA_661, w ∈ lw_tbl := List.forall_mem_cons.mpr ⟨lm_656, kwGA_662⟩
theorem kwGA_660 : ∀ w ∈ wtGA_660, w ∈ lw_tbl := List.forall_mem_cons.mpr ⟨lm_657, kwGA_661⟩
theorem kwGA_659 : ∀ w ∈ wtGA_659, w ∈ lw_tbl := List.forall_mem_cons.mpr ⟨lm_658, kwGA_660⟩
theorem kwGA_658 : ∀ w ∈ wtGA_658, w ∈ lw_tbl := List.forall_mem_cons.mpr ⟨lm_178, kwGA_659⟩
theorem kwGA_657 : ∀ w ∈ wtGA_657, w ∈ lw_tbl := List.forall_mem_cons.mpr ⟨lm_181, kwGA_658⟩
theorem kwGA_656 : ∀ w ∈ wtGA_656, w ∈ lw_tbl := List.forall_mem_cons.mpr ⟨lm_180, kwGA_657⟩
theorem kwGA_655 : ∀ w ∈ wtGA_655, w ∈ lw_tbl := List.forall_mem_cons.mpr ⟨lm_659, kwGA_656⟩
theorem kwGA_654 : ∀ w ∈ wtGA_654, w ∈ lw_tbl := List.forall_mem_cons.mpr ⟨lm_660, kwGA_655⟩
theorem kwGA_653 : ∀ w ∈ wtGA_653, w ∈ lw_tbl := List.forall_mem_cons.mpr ⟨lm_661, kwGA_654⟩
theorem kwGA_652 : ∀ w ∈ wtGA_652, w ∈ lw_tbl := List.forall_mem_cons.mpr ⟨lm_662, kwGA_653⟩
theorem kwGA_651 : ∀ w ∈ wtGA_651, w ∈ lw_tbl := List.forall_mem_cons.mpr ⟨lm_170, kwGA_652⟩
theorem kwGA_650 : ∀ w ∈ wtGA_650, w ∈ lw_tbl := List.forall_mem_cons.mpr ⟨lm_173, kwGA_651⟩
theorem kwGA_649 : ∀ w ∈ wtGA_649, w ∈ lw_tbl := List.forall_mem_cons.mpr ⟨lm_172, kwGA_650⟩
theorem kwGA_648 : ∀ w ∈ wtGA_648, w ∈ lw_tbl := List.forall_mem_cons.mpr ⟨lm_663, kwGA_649⟩
theorem kwGA_647 : ∀ w ∈ wtGA_647, w ∈ lw_tbl := List.forall_mem_cons.mpr ⟨lm_664, kwGA_648⟩
theorem kwGA_646 : ∀ w ∈ wtGA_646, w ∈ lw_tbl := List.forall_mem_cons.mpr ⟨lm_665, kwGA_647⟩
theorem kwGA_645 : ∀ w ∈ wtGA_645, w ∈ lw_tbl := List.forall_mem_cons.mpr ⟨lm_666, kwGA_646⟩
theorem kwGA_644 : ∀ w ∈ wtGA_644, w ∈ lw_tbl := List.forall_mem_cons.mpr ⟨lm_162, kwGA_645⟩
theorem kwGA_643 : ∀ w ∈ wtGA_643, w ∈ lw_tbl := List.forall_mem_cons.mpr ⟨lm_165, kwGA_644⟩
theorem kwGA_642 : ∀ w ∈ wtGA_642, w ∈ lw_tbl := List.forall_mem_cons.mpr ⟨lm_164, kwGA_643⟩
theorem kwGA_641 : ∀ w ∈ wtGA_641, w ∈ lw_tbl := List.forall_mem_cons.mpr ⟨lm_667, kwGA_642⟩
theorem kwGA_640 : ∀ w ∈ wtGA_640, w ∈ lw_tbl := List.forall_mem_cons.mpr ⟨lm_668, kwGA_641⟩
theorem kwGA_639 : ∀ w ∈ wtGA_639, w ∈ lw_tbl := List.forall_mem_cons.mpr ⟨lm_669, kwGA_640⟩
theorem kwGA_638 : ∀ w ∈ wtGA_638, w ∈ lw_tbl := List.forall_mem_cons.mpr ⟨lm_670, kwGA_639⟩
theorem kwGA_637 : ∀ w ∈ wtGA_637, w ∈ lw_tbl := List.forall_mem_cons.mpr ⟨lm_154, kwGA_638⟩
theorem kwGA_636 : ∀ w ∈ wtGA_636, w ∈ lw_tbl := List.forall_mem_cons.mpr ⟨lm_157, kwGA_637⟩
theorem kwGA_635 : ∀ w ∈ wtGA_635, w ∈ lw_tbl := List.forall_mem_cons.mpr ⟨lm_156, kwGA_636⟩
theorem kwGA_634 : ∀ w ∈ wtGA_634, w ∈ lw_tbl := List.forall_mem_cons.mpr ⟨lm_671, kwGA_635⟩
theorem kwGA_633 : ∀ w ∈ wtGA_633, w ∈ lw_tbl := List.forall_mem_cons.mpr ⟨lm_672, kwGA_634⟩
theorem kwGA_632 : ∀ w ∈ wtGA_632, w ∈ lw_tbl := List.forall_mem_cons.mpr ⟨lm_673, kwGA_633⟩
theorem kwGA_631 : ∀ w ∈ wtGA_631, w ∈ lw_tbl := List.forall_mem_cons.mpr ⟨lm_674, kwGA_632⟩
theorem kwGA_630 : ∀ w ∈ wtGA_630, w ∈ lw_tbl := List.forall_mem_cons.mpr ⟨lm_146, kwGA_631⟩
theorem kwGA_629 : ∀ w ∈ wtGA_629, w ∈ lw_tbl := List.forall_mem_cons.mpr ⟨lm_149, kwGA_630⟩
theorem kwGA_628 : ∀ w ∈ wtGA_628, w ∈ lw_tbl := List.forall_mem_cons.mpr ⟨lm_148, kwGA_629⟩
theorem kwGA_627 : ∀ w ∈ wtGA_627, w ∈ lw_tbl := List.forall_mem_cons.mpr ⟨lm_138, kwGA_628⟩
theorem kwGA_626 : ∀ w ∈ wtGA_626, w ∈ lw_tbl := List.forall_mem_cons.mpr ⟨lm_141, kwGA_627⟩
theorem kwGA_625 : ∀ w ∈ wtGA_625, w ∈ lw_tbl := List.forall_mem_cons.mpr ⟨lm_140, kwGA_626⟩
theorem kwGA_624 : ∀ w ∈ wtGA_624, w ∈ lw_tbl := List.forall_mem_cons.mpr ⟨lm_675, kwGA_625⟩
theorem kwGA_623 : ∀ w ∈ wtGA_623, w ∈ lw_tbl := List.forall_mem_cons.mpr ⟨lm_676, kwGA_624⟩
theorem kwGA_622 : ∀ w ∈ wtGA_622, w ∈ lw_tbl := List.forall_mem_cons.mpr ⟨lm_677, kwGA_623⟩
theorem kwGA_621 : ∀ w ∈ wtGA_621, w ∈ lw_tbl := List.forall_mem_cons.mpr ⟨lm_678, kwGA_622⟩
theorem kwGA_620 : ∀ w ∈ wtGA_620, w ∈ lw_tbl := List.forall_mem_cons.mpr ⟨lm_679, kwGA_621⟩
theorem kwGA_619 : ∀ w ∈ wtGA_619, w ∈ lw_tbl := List.forall_mem_cons.mpr ⟨lm_680, kwGA_620⟩
theorem kwGA_618 : ∀ w ∈ wtGA_618, w ∈ lw_tbl := List.forall_mem_cons.mpr ⟨lm_681, kwGA_619⟩
theorem kwGA_617 : ∀ w ∈ wtGA_617, w ∈ lw_tbl := List.forall_mem_cons.mpr ⟨lm_130, kwGA_618⟩
theorem kwGA_616 : ∀ w ∈ wtGA_616, w ∈ lw_tbl := List.forall_mem_cons.mpr ⟨lm_133, kwGA_617⟩
theorem kwGA_615 : ∀ w ∈ wtGA_615, w ∈ lw_tbl := List.forall_mem_cons.mpr ⟨lm_132, kwGA_616⟩
theorem kwGA_614 : ∀ w ∈ wtGA_614, w ∈ lw_tbl := List.forall_mem_cons.mpr ⟨lm_682, kwGA_615⟩
theorem kwGA_613 : ∀ w ∈ wtGA_613, w ∈ lw_tbl := List.forall_mem_cons.mpr ⟨lm_122, kwGA_614⟩
theorem kwGA_612 : ∀ w ∈ wtGA_612, w ∈ lw_tbl := List.forall_mem_cons.mpr ⟨lm_125, kwGA_613⟩
theorem kwGA_611 : ∀ w ∈ wtGA_611, w ∈ lw_tbl := List.forall_mem_cons.mpr ⟨lm_124, kwGA_612⟩
theorem kwGA_610 : ∀ w ∈ wtGA_610, w ∈ lw_tbl := List.forall_mem_cons.mpr ⟨lm_683, kwGA_611⟩
theorem kwGA_609 : ∀ w ∈ wtGA_609, w ∈ lw_tbl := List.forall_mem_cons.mpr ⟨lm_684, kwGA_610⟩
theorem kwGA_608 : ∀ w ∈ wtGA_608, w ∈ lw_tbl := List.forall_mem_cons.mpr ⟨lm_685, kwGA_609⟩
theorem kwGA_607 : ∀ w ∈ wtGA_607, w ∈ lw_tbl := List.forall_mem_cons.mpr ⟨lm_686, kwGA_608⟩
theorem kwGA_606 : ∀ w ∈ wtGA_606, w ∈ lw_tbl := List.forall_mem_cons.mpr ⟨lm_687, kwGA_607⟩
theorem kwGA_605 : ∀ w ∈ wtGA_605, w ∈ lw_tbl := List.forall_mem_cons.mpr ⟨lm_688, kwGA_606⟩
theorem kwGA_604 : ∀ w ∈ wtGA_604, w ∈ lw_tbl := List.forall_mem_cons.mpr ⟨lm_689, kwGA_605⟩
theorem kwGA_603 : ∀ w ∈ wtGA_603, w ∈ lw_tbl := List.forall_mem_cons.mpr ⟨lm_690, kwGA_604⟩
theorem kwGA_602 : ∀ w ∈ wtGA_602, w ∈ lw_tbl := List.forall_mem_cons.mpr ⟨lm_691, kwGA_603⟩
theorem kwGA_601 : ∀ w ∈ wtGA_601, w ∈ lw_tbl := List.forall_mem_cons.mpr ⟨lm_692, kwGA_602⟩
theorem kwGA_600 : ∀ w ∈ wtGA_600, w ∈ lw_tbl := List.forall_mem_cons.mpr ⟨lm_693, kwGA_601⟩
theorem kwGA_599 : ∀ w ∈ wtGA_599, w ∈ lw_tbl := List.forall_mem_cons.mpr ⟨lm_694, kwGA_600⟩
theorem kwGA_598 : ∀ w ∈ wtGA_598, w ∈ lw_tbl := List.forall_mem_cons.mpr ⟨lm_695, kwGA_599⟩
theorem kwGA_597 : ∀ w ∈ wtGA_597, w ∈ lw_tbl := List.forall_mem_cons.mpr ⟨lm_696, kwGA_598⟩
theorem kwGA_596 : ∀ w ∈ wtGA_596, w ∈ lw_tbl := List.forall_mem_cons.mpr ⟨lm_697, kwGA_597⟩
theorem kwGA_595 : ∀ w ∈ wtGA_595, w ∈ lw_tbl := List.forall_mem_cons.mpr ⟨lm_698, kwGA_596⟩
theorem kwGA_594 : ∀ w ∈ wtGA_594, w ∈ lw_tbl := List.forall_mem_cons.mpr ⟨lm_699, kwGA_595⟩
theorem kwGA_593 : ∀ w ∈ wtGA_593, w ∈ lw_tbl := List.forall_mem_cons.mpr ⟨lm_700, kwGA_594⟩
theorem kwGA_592 : ∀ w ∈ wtGA_592, w ∈ lw_tbl := List.forall_mem_cons.mpr ⟨lm_701, kwGA_593⟩
theorem kwGA_591 : ∀ w ∈ wtGA_591, w ∈ lw_tbl := List.forall_mem_cons.mpr ⟨lm_702, kwGA_592⟩
theorem kwGA_590 : ∀ w ∈ wtGA_590, w ∈ lw_tbl := List.forall_mem_cons.mpr ⟨lm_703, kwGA_591⟩
theorem kwGA_589 : ∀ w ∈ wtGA_589, w ∈ lw_tbl := List.forall_mem_cons.mpr ⟨lm_704, kwGA_590⟩
theorem kwGA_588 : ∀ w ∈ wtGA_588, w ∈ lw_tbl := List.forall_mem_cons.mpr ⟨lm_705, kwGA_589⟩
theorem kwGA_587 : ∀ w ∈ wtGA_587, w ∈ lw_tbl := List.forall_mem_cons.mpr ⟨lm_706, kwGA_588⟩
theorem kwGA_586 : ∀ w ∈ wtGA_586, w ∈ lw_tbl := List.forall_mem_cons.mpr ⟨lm_707, kwGA_587⟩
theorem kwGA_585 : ∀ w ∈ wtGA_585, w ∈ lw_tbl := List.forall_mem_cons.mpr ⟨lm_708, kwGA_586⟩
theorem kwGA_584 : ∀ w ∈ wtGA_584, w ∈ lw_tbl := List.forall_mem_cons.mpr ⟨lm_709, kwGA_585⟩
theorem kwGA_583 : ∀ w ∈ wtGA_583, w ∈ lw_tbl := List.forall_mem_cons.mpr ⟨lm_710, kwGA_584⟩
theorem kwGA_582 : ∀ w ∈ wtGA_582, w ∈ lw_tbl := List.forall_mem_cons.mpr ⟨lm_711, kwGA_583⟩
theorem kwGA_581 : ∀ w ∈ wtGA_581, w ∈ lw_tbl := List.forall_mem_cons.mpr ⟨lm_712, kwGA_582⟩
theorem kwGA_580 : ∀ w ∈ wtGA_580, w ∈ lw_tbl := List.forall_mem_cons.mpr ⟨lm_713, kwGA_581⟩
theorem kwGA_579 : ∀ w ∈ wtGA_579, w ∈ lw_tbl := List.forall_mem_cons.mpr ⟨lm_714, kwGA_580⟩
theorem kwGA_578 : ∀ w ∈ wtGA_578, w ∈ lw_tbl := List.forall_mem_cons.mpr ⟨lm_715, kwGA_579⟩
theorem kwGA_577 : ∀ w ∈ wtGA_577, w ∈ lw_tbl := List.forall_mem_cons.mpr ⟨lm_716, kwGA_578⟩
theorem kwGA_576 : ∀ w ∈ wtGA_576, w ∈ lw_tbl := List.forall_mem_cons.mpr ⟨lm_717, kwGA_577⟩
theorem kwGA_575 : ∀ w ∈ wtGA_575, w ∈ lw_tbl := List.forall_mem_cons.mpr ⟨lm_718, kwGA_576⟩
theorem kwGA_574 : ∀ w ∈ wtGA_574, w ∈ lw_tbl := List.forall_mem_cons.mpr ⟨lm_719, kwGA_575⟩
theorem kwGA_573 : ∀ w ∈ wtGA_573, w ∈ lw_tbl := List.forall_mem_cons.mpr ⟨lm_720, kwGA_574⟩
theorem kwGA_572 : ∀ w ∈ wtGA_572, w ∈ lw_tbl := List.forall_mem_cons.mpr ⟨lm_721, kwGA_573⟩
theorem kwGA_571 : ∀ w ∈ wtGA_571, w ∈ lw_tbl := List.forall_mem_cons.mpr ⟨lm_722, kwGA_572⟩
theorem kwGA_570 : ∀ w ∈ wtGA_570, w ∈ lw_tbl := List.forall_mem_cons.mpr ⟨lm_723, kwGA_571⟩
theorem kwGA_569 : ∀ w ∈ wtGA_569, w ∈ lw_tbl := List.forall_mem_cons.mpr ⟨lm_724, kwGA_570⟩
theorem kwGA_568 : ∀ w ∈ wtGA_568, w ∈ lw_tbl := List.forall_mem_cons.mpr ⟨lm_725, kwGA_569⟩
theorem kwGA_567 : ∀ w ∈ wtGA_567, w ∈ lw_tbl := List.forall_mem_cons.mpr ⟨lm_726, kwGA_568⟩
theorem kwGA_566 : ∀ w ∈ wtGA_566, w ∈ lw_tbl := List.forall_mem_cons.mpr ⟨lm_727, kwGA_567⟩
theorem kwGA_565 : ∀ w ∈ wtGA_565, w ∈ lw_tbl := List.forall_mem_cons.mpr ⟨lm_728, kwGA_566⟩
theorem kwGA_564 : ∀ w ∈ wtGA_564, w ∈ lw_tbl := List.forall_mem_cons.mpr ⟨lm_729, kwGA_565⟩
theorem kwGA_563 : ∀ w ∈ wtGA_563, w ∈ lw_tbl := List.forall_mem_cons.mpr ⟨lm_730, kwGA_564⟩
theorem kwGA_562 : ∀ w ∈ wtGA_562, w ∈ lw_tbl := List.forall_mem_cons.mpr ⟨lm_731, kwGA_563⟩
theorem kwGA_561 : ∀ w ∈ wtGA_561, w ∈ lw_tbl := List.forall_mem_cons.mpr ⟨lm_732, kwGA_562⟩
theorem kwGA_560 : ∀ w ∈ wtGA_560, w ∈ lw_tbl := List.forall_mem_cons.mpr ⟨lm_733, kwGA_561⟩
theorem kwGA_559 : ∀ w ∈ wtGA_559, w ∈ lw_tbl := List.forall_mem_cons.mpr ⟨lm_734, kwGA_560⟩
theorem kwGA_558 : ∀ w ∈ wtGA_558, w ∈ lw_tbl := List.forall_mem_cons.mpr ⟨lm_735, kwGA_559⟩
theorem kwGA_557 : ∀ w ∈ wtGA_557, w ∈ lw_tbl := List.forall_mem_cons.mpr ⟨lm_736, kwGA_558⟩
theorem kwGA_556 : ∀ w ∈ wtGA_556, w ∈ lw_tbl := List.forall_mem_cons.mpr ⟨lm_737, kwGA_557⟩
theorem kwGA_555 : ∀ w ∈ wtGA_555, w ∈ lw_tbl := List.forall_mem_cons.mpr ⟨lm_738, kwGA_556⟩
theorem kwGA_554 : ∀ w ∈ wtGA_554, w ∈ lw_tbl := List.forall_mem_cons.mpr ⟨lm_739, kwGA_555⟩
theorem kwGA_553 : ∀ w ∈ wtGA_553, w ∈ lw_tbl := List.forall_mem_cons.mpr ⟨lm_740, kwGA_554⟩
theorem kwGA_552 : ∀ w ∈ wtGA_552, w ∈ lw_tbl := List.forall_mem_cons.mpr ⟨lm_741, kwGA_553⟩
theorem kwGA_551 : ∀ w ∈ wtGA_551, w ∈ lw_tbl := List.forall_mem_cons.mpr ⟨lm_742, kwGA_552⟩
theorem kwGA_550 : ∀ w ∈ wtGA_550, w ∈ lw_tbl := List.forall_mem_cons.mpr ⟨lm_743, kwGA_551⟩
theorem kwGA_549 : ∀ w ∈ wtGA_549, w ∈ lw_tbl := List.forall_mem_cons.mpr ⟨lm_114, kwGA_550⟩
theorem kwGA_548 : ∀ w ∈ wtGA_548, w ∈ lw_tbl := List.forall_mem_cons.mpr ⟨lm_117, kwGA_549⟩
theorem kwGA_547 : ∀ w ∈ wtGA_547, w ∈ lw_tbl := List.forall_mem_cons.mpr ⟨lm_116, kwGA_548⟩
theorem kwGA_546 : ∀ w ∈ wtGA_546, w ∈ lw_tbl := List.forall_mem_cons.mpr ⟨lm_744, kwGA_547⟩
theorem kwGA_545 : ∀ w ∈ wtGA_545, w ∈ lw_tbl := List.forall_mem_cons.mpr ⟨lm_106, kwGA_546⟩
theorem kwGA_544 : ∀ w ∈ wtGA_544, w ∈ lw_tbl := List.forall_mem_cons.mpr ⟨lm_109, kwGA_545⟩
theorem kwGA_543 : ∀ w ∈ wtGA_543, w ∈ lw_tbl := List.forall_mem_cons.mpr ⟨lm_108, kwGA_544⟩
theorem kwGA_542 : ∀ w ∈ wtGA_542, w ∈ lw_tbl := List.forall_mem_cons.mpr ⟨lm_745, kwGA_543⟩
theorem kwGA_541 : ∀ w ∈ wtGA_541, w ∈ lw_tbl := List.forall_mem_cons.mpr ⟨lm_746, kwGA_542⟩
theorem kwGA_540 : ∀ w ∈ wtGA_540, w ∈ lw_tbl := List.forall_mem_cons.mpr ⟨lm_747, kwGA_541⟩
theorem kwGA_539 : ∀ w ∈ wtGA_539, w ∈ lw_tbl := List.forall_mem_cons.mpr ⟨lm_748, kwGA_540⟩
theorem kwGA_538 : ∀ w ∈ wtGA_538, w ∈ lw_tbl := List.forall_mem_cons.mpr ⟨lm_749, kwGA_539⟩
theorem kwGA_537 : ∀ w ∈ wtGA_537, w ∈ lw_tbl := List.forall_mem_cons.mpr ⟨lm_750, kwGA_538⟩
theorem kwGA_536 : ∀ w ∈ wtGA_536, w ∈ lw_tbl := List.forall_mem_cons.mpr ⟨lm_751, kwGA_537⟩
theorem kwGA_535 : ∀ w ∈ wtGA_535, w ∈ lw_tbl := List.forall_mem_cons.mpr ⟨lm_98, kwGA_536⟩
theorem kwGA_534 : ∀ w ∈ wtGA_534, w ∈ lw_tbl := List.forall_mem_cons.mpr ⟨lm_101, kwGA_535⟩
theorem kwGA_533 : ∀ w ∈ wtGA_533, w ∈ lw_tbl := List.forall_mem_cons.mpr ⟨lm_100, kwGA_534⟩
theorem kwGA_532 : ∀ w ∈ wtGA_532, w ∈ lw_tbl := List.forall_mem_cons.mpr ⟨lm_752, kwGA_533⟩
theorem kwGA_531 : ∀ w ∈ wtGA_531, w ∈ lw_tbl := List.forall_mem_cons.mpr ⟨lm_753, kwGA_532⟩
theorem kwGA_530 : ∀ w ∈ wtGA_530, w ∈ lw_tbl := List.forall_mem_cons.mpr ⟨lm_90, kwGA_531⟩
theorem kwGA_529 : ∀ w ∈ wtGA_529, w ∈ lw_tbl := List.forall_mem_cons.mpr ⟨lm_93, kwGA_530⟩
theorem kwGA_528 : ∀ w ∈ wtGA_528, w ∈ lw_tbl := List.forall_mem_cons.mpr ⟨lm_92, kwGA_529⟩
theorem kwGA_527 : ∀ w ∈ wtGA_527, w ∈ lw_tbl := List.forall_mem_cons.mpr ⟨lm_754, kwGA_528⟩
theorem kwGA_526 : ∀ w ∈ wtGA_526, w ∈ lw_tbl := List.forall_mem_cons.mpr ⟨lm_755, kwGA_527⟩
theorem kwGA_525 : ∀ w ∈ wtGA_525, w ∈ lw_tbl := List.forall_mem_cons.mpr ⟨lm_756, kwGA_526⟩
theorem kwGA_524 : ∀ w ∈ wtGA_524, w ∈ lw_tbl := List.forall_mem_cons.mpr ⟨lm_757, kwGA_525⟩
theorem kwGA_523 : ∀ w ∈ wtGA_523, w ∈ lw_tbl := List.forall_mem_cons.mpr ⟨lm_758, kwGA_524⟩
theorem kwGA_522 : ∀ w ∈ wtGA_522, w ∈ lw_tbl := List.forall_mem_cons.mpr ⟨lm_759, kwGA_523⟩
theorem kwGA_521 : ∀ w ∈ wtGA_521, w ∈ lw_tbl := List.forall_mem_cons.mpr ⟨lm_760, kwGA_522⟩
theorem kwGA_520 : ∀ w ∈ wtGA_520, w ∈ lw_tbl := List.forall_mem_cons.mpr ⟨lm_761, kwGA_521⟩
theorem kwGA_519 : ∀ w ∈ wtGA_519, w ∈ lw_tbl := List.forall_mem_cons.mpr ⟨lm_82, kwGA_520⟩
theorem kwGA_518 : ∀ w ∈ wtGA_518, w ∈ lw_tbl := List.forall_mem_cons.mpr ⟨lm_85, kwGA_519⟩
theorem kwGA_517 : ∀ w ∈ wtGA_517, w ∈ lw_tbl := List.forall_mem_cons.mpr ⟨lm_84, kwGA_518⟩
theorem kwGA_516 : ∀ w ∈ wtGA_516, w ∈ lw_tbl := List.forall_mem_cons.mpr ⟨lm_762, kwGA_517⟩
theorem kwGA_515 : ∀ w ∈ wtGA_515, w ∈ lw_tbl := List.forall_mem_cons.mpr ⟨lm_763, kwGA_516⟩
theorem kwGA_514 : ∀ w ∈ wtGA_514, w ∈ lw_tbl := List.forall_mem_cons.mpr ⟨lm_764, kwGA_515⟩
theorem kwGA_513 : ∀ w ∈ wtGA_513, w ∈ lw_tbl := List.forall_mem_cons.mpr ⟨lm_765, kwGA_514⟩
theorem kwGA_512 : ∀ w ∈ wtGA_512, w ∈ lw_tbl := List.forall_mem_cons.mpr ⟨lm_766, kwGA_513⟩
theorem kwGA_511 : ∀ w ∈ wtGA_511, w ∈ lw_tbl := List.forall_mem_cons.mpr ⟨lm_767, kwGA_512⟩
theorem kwGA_510 : ∀ w ∈ wtGA_510, w ∈ lw_tbl := List.forall_mem_cons.mpr ⟨lm_768, kwGA_511⟩
theorem kwGA_509 : ∀ w ∈ wtGA_509, w ∈ lw_tbl := List.forall_mem_cons.mpr ⟨lm_769, kwGA_510⟩
theorem kwGA_508 : ∀ w ∈ wtGA_508, w ∈ lw_tbl := List.forall_mem_cons.mpr ⟨lm_770, kwGA_509⟩
theorem kwGA_507 : ∀ w ∈ wtGA_507, w ∈ lw_tbl := List.forall_mem_cons.mpr ⟨lm_771, kwGA_508⟩
theorem kwGA_506 : ∀ w ∈ wtGA_506, w ∈ lw_tbl := List.forall_mem_cons.mpr ⟨lm_772, kwGA_507⟩
theorem kwGA_505 : ∀ w ∈ wtGA_505, w ∈ lw_tbl := List.forall_mem_cons.mpr ⟨lm_773, kwGA_506⟩
theorem kwGA_504 : ∀ w ∈ wtGA_504, w ∈ lw_tbl := List.forall_mem_cons.mpr ⟨lm_774, kwGA_505⟩
theorem kwGA_503 : ∀ w ∈ wtGA_503, w ∈ lw_tbl := List.forall_mem_cons.mpr ⟨lm_775, kwGA_504⟩
theorem kwGA_502 : ∀ w ∈ wtGA_502, w ∈ lw_tbl := List.forall_mem_cons.mpr ⟨lm_776, kwGA_503⟩
theorem kwGA_501 : ∀ w ∈ wtGA_501, w ∈ lw_tbl := List.forall_mem_cons.mpr ⟨lm_777, kwGA_502⟩
theorem kwGA_500 : ∀ w ∈ wtGA_500, w ∈ lw_tbl := List.forall_mem_cons.mpr ⟨lm_778, kwGA_501⟩
theorem kwGA_499 : ∀ w ∈ wtGA_499, w ∈ lw_tbl := List.forall_mem_cons.mpr ⟨lm_779, kwGA_500⟩
theorem kwGA_498 : ∀ w ∈ wtGA_498, w ∈ lw_tbl := List.forall_mem_cons.mpr ⟨lm_780, kwGA_499⟩
theorem kwGA_497 : ∀ w ∈ wtGA_497, w ∈ lw_tbl := List.forall_mem_cons.mpr ⟨lm_781, kwGA_498⟩
theorem kwGA_496 : ∀ w ∈ wtGA_496, w ∈ lw_tbl := List.forall_mem_cons.mpr ⟨lm_782, kwGA_497⟩
theorem kwGA_495 : ∀ w ∈ wtGA_495, w ∈ lw_tbl := List.forall_mem_cons.mpr ⟨lm_783, kwGA_496⟩
theorem kwGA_494 : ∀ w ∈ wtGA_494, w ∈ lw_tbl := List.forall_mem_cons.mpr ⟨lm_784, kwGA_495⟩
theorem kwGA_493 : ∀ w ∈ wtGA_493, w ∈ lw_tbl := List.forall_mem_cons.mpr ⟨lm_785, kwGA_494⟩
theorem kwGA_492 : ∀ w ∈ wtGA_492, w ∈ lw_tbl := List.forall_mem_cons.mpr ⟨lm_786, kwGA_493⟩
theorem kwGA_491 : ∀ w ∈ wtGA_491, w ∈ lw_tbl := List.forall_mem_cons.mpr ⟨lm_787, kwGA_492⟩
theorem kwGA_490 : ∀ w ∈ wtGA_490, w ∈ lw_tbl := List.forall_mem_cons.mpr ⟨lm_788, kwGA_491⟩
theorem kwGA_489 : ∀ w ∈ wtGA_489, w ∈ lw_tbl := List.forall_mem_cons.mpr ⟨lm_789, kwGA_490⟩
theorem kwGA_488 : ∀ w ∈ wtGA_488, w ∈ lw_tbl := List.forall_mem_cons.mpr ⟨lm_790, kwGA_489⟩
theorem kwGA_487 : ∀ w ∈ wtGA_487, w ∈ lw_tbl := List.forall_mem_cons.mpr ⟨lm_791, kwGA_488⟩
theorem kwGA_486 : ∀ w ∈ wtGA_486, w ∈ lw_tbl := List.forall_mem_cons.mpr ⟨lm_792, kwGA_487⟩
theorem kwGA_485 : ∀ w ∈ wtGA_485, w ∈ lw_tbl := List.forall_mem_cons.mpr ⟨lm_793, kwGA_486⟩
theorem kwGA_484 : ∀ w ∈ wtGA_484, w ∈ lw_tbl := List.forall_mem_cons.mpr ⟨lm_794, kwGA_485⟩
theorem kwGA_483 : ∀ w ∈ wtGA_483, w ∈ lw_tbl := List.forall_mem_cons.mpr ⟨lm_795, kwGA_484⟩
theorem kwGA_482 : ∀ w ∈ wtGA_482, w ∈ lw_tbl := List.forall_mem_cons.mpr ⟨lm_796, kwGA_483⟩
theorem kwGA_481 : ∀ w ∈ wtGA_481, w ∈ lw_tbl := List.forall_mem_cons.mpr ⟨lm_797, kwGA_482⟩
theorem kwGA_480 : ∀ w ∈ wtGA_480, w ∈ lw_tbl := List.forall_mem_cons.mpr ⟨lm_798, kwGA_481⟩
theorem kwGA_479 : ∀ w ∈ wtGA_479, w ∈ lw_tbl := List.forall_mem_cons.mpr ⟨lm_799, kwGA_480⟩
theorem kwGA_478 : ∀ w ∈ wtGA_478, w ∈ lw_tbl := List.forall_mem_cons.mpr ⟨lm_800, kwGA_479⟩
theorem kwGA_477 : ∀ w ∈ wtGA_477, w ∈ lw_tbl := List.forall_mem_cons.mpr ⟨lm_801, kwGA_478⟩
theorem kwGA_476 : ∀ w ∈ wtGA_476, w ∈ lw_tbl := List.forall_mem_cons.mpr ⟨lm_802, kwGA_477⟩
theorem kwGA_475 : ∀ w ∈ wtGA_475, w ∈ lw_tbl := List.forall_mem_cons.mpr ⟨lm_803, kwGA_476⟩
theorem kwGA_474 : ∀ w ∈ wtGA_474, w ∈ lw_tbl := List.forall_mem_cons.mpr ⟨lm_804, kwGA_475⟩
theorem kwGA_473 : ∀ w ∈ wtGA_473, w ∈ lw_tbl := List.forall_mem_cons.mpr ⟨lm_805, kwGA_474⟩
theorem kwGA_472 : ∀ w ∈ wtGA_472, w ∈ lw_tbl := List.forall_mem_cons.mpr ⟨lm_806, kwGA_473⟩
theorem kwGA_471 : ∀ w ∈ wtGA_471, w ∈ lw_tbl := List.forall_mem_cons.mpr ⟨lm_807, kwGA_472⟩
theorem kwGA_470 : ∀ w ∈ wtGA_470, w ∈ lw_tbl := List.forall_mem_cons.mpr ⟨lm_808, kwGA_471⟩
theorem kwGA_469 : ∀ w ∈ wtGA_469, w ∈ lw_tbl := List.forall_mem_cons.mpr ⟨lm_809, kwGA_470⟩
theorem kwGA_468 : ∀ w ∈ wtGA_468, w ∈ lw_tbl := List.forall_mem_cons.mpr ⟨lm_810, kwGA_469⟩
theorem kwGA_467 : ∀ w ∈ wtGA_467, w ∈ lw_tbl := List.forall_mem_cons.mpr ⟨lm_811, kwGA_468⟩
theorem kwGA_466 : ∀ w ∈ wtGA_466, w ∈ lw_tbl := List.forall_mem_cons.mpr ⟨lm_812, kwGA_467⟩
theorem kwGA_465 : ∀ w ∈ wtGA_465, w ∈ lw_tbl := List.forall_mem_cons.mpr ⟨lm_813, kwGA_466⟩
theorem kwGA_464 : ∀ w ∈ wtGA_464, w ∈ lw_tbl := List.forall_mem_cons.mpr ⟨lm_814, kwGA_465⟩
theorem kwGA_463 : ∀ w ∈ wtGA_463, w ∈ lw_tbl := List.forall_mem_cons.mpr ⟨lm_815, kwGA_464⟩
theorem kwGA_462 : ∀ w ∈ wtGA_462, w ∈ lw_tbl := List.forall_mem_cons.mpr ⟨lm_816, kwGA_463⟩
theorem kwGA_461 : ∀ w ∈ wtGA_461, w ∈ lw_tbl := List.forall_mem_cons.mpr ⟨lm_817, kwGA_462⟩
theorem kwGA_460 : ∀ w ∈ wtGA_460, w ∈ lw_tbl := List.forall_mem_cons.mpr ⟨lm_818, kwGA_461⟩
theorem kwGA_459 : ∀ w ∈ wtGA_459, w ∈ lw_tbl := List.forall_mem_cons.mpr ⟨lm_819, kwGA_460⟩
theorem kwGA_458 : ∀ w ∈ wtGA_458, w ∈ lw_tbl := List.forall_mem_cons.mpr ⟨lm_820, kwGA_459⟩
theorem kwGA_457 : ∀ w ∈ wtGA_457, w ∈ lw_tbl := List.forall_mem_cons.mpr ⟨lm_821, kwGA_458⟩
theorem kwGA_456 : ∀ w ∈ wtGA_456, w ∈ lw_tbl := List.forall_mem_cons.mpr ⟨lm_822, kwGA_457⟩
theorem kwGA_455 : ∀ w ∈ wtGA_455, w ∈ lw_tbl := List.forall_mem_cons.mpr ⟨lm_823, kwGA_456⟩
theorem kwGA_454 : ∀ w ∈ wtGA_454, w ∈ lw_tbl := List.forall_mem_cons.mpr ⟨lm_824, kwGA_455⟩
theorem kwGA_453 : ∀ w ∈ wtGA_453, w ∈ lw_tbl := List.forall_mem_cons.mpr ⟨lm_825, kwGA_454⟩
theorem kwGA_452 : ∀ w ∈ wtGA_452, w ∈ lw_tbl := List.forall_mem_cons.mpr ⟨lm_826, kwGA_453⟩
theorem kwGA_451 : ∀ w ∈ wtGA_451, w ∈ lw_tbl := List.forall_mem_cons.mpr ⟨lm_827, kwGA_452⟩
theorem kwGA_450 : ∀ w ∈ wtGA_450, w ∈ lw_tbl := List.forall_mem_cons.mpr ⟨lm_828, kwGA_451⟩
theorem kwGA_449 : ∀ w ∈ wtGA_449, w ∈ lw_tbl := List.forall_mem_cons.mpr ⟨lm_829, kwGA_450⟩
theorem kwGA_448 : ∀ w ∈ wtGA_448, w ∈ lw_tbl := List.forall_mem_cons.mpr ⟨lm_830, kwGA_449⟩
theorem kwGA_447 : ∀ w ∈ wtGA_447, w ∈ lw_tbl := List.forall_mem_cons.mpr ⟨lm_831, kwGA_448⟩
theorem kwGA_446 : ∀ w ∈ wtGA_446, w ∈ lw_tbl := List.forall_mem_cons.mpr ⟨lm_832, kwGA_447⟩
theorem kwGA_445 : ∀ w ∈ wtGA_445, w ∈ lw_tbl := List.forall_mem_cons.mpr ⟨lm_833, kwGA_446⟩
theorem kwGA_444 : ∀ w ∈ wtGA_444, w ∈ lw_tbl := List.forall_mem_cons.mpr ⟨lm_834, kwGA_445⟩
theorem kwGA_443 : ∀ w ∈ wtGA_443, w ∈ lw_tbl := List.forall_mem_cons.mpr ⟨lm_835, kwGA_444⟩
theorem kwGA_442 : ∀ w ∈ wtGA_442, w ∈ lw_tbl := List.forall_mem_cons.mpr ⟨lm_836, kwGA_443⟩
theorem kwGA_441 : ∀ w ∈ wtGA_441, w ∈ lw_tbl := List.forall_mem_cons.mpr ⟨lm_837, kwGA_442⟩
theorem kwGA_440 : ∀ w ∈ wtGA_440, w ∈ lw_tbl := List.forall_mem_cons.mpr ⟨lm_838, kwGA_441⟩
theorem kwGA_439 : ∀ w ∈ wtGA_439, w ∈ lw_tbl := List.forall_mem_cons.mpr ⟨lm_839, kwGA_440⟩
theorem kwGA_438 : ∀ w ∈ wtGA_438, w ∈ lw_tbl := List.forall_mem_cons.mpr ⟨lm_840, kwGA_439⟩
theorem kwGA_437 : ∀ w ∈ wtGA_437, w ∈ lw_tbl := List.forall_mem_cons.mpr ⟨lm_841, kwGA_438⟩
theorem kwGA_436 : ∀ w ∈ wtGA_436, w ∈ lw_tbl := List.forall_mem_cons.mpr ⟨lm_842, kwGA_437⟩
theorem kwGA_435 : ∀ w ∈ wtGA_435, w ∈ lw_tbl := List.forall_mem_cons.mpr ⟨lm_843, kwGA_436⟩
theorem kwGA_434 : ∀ w ∈ wtGA_434, w ∈ lw_tbl := List.forall_mem_cons.mpr ⟨lm_844, kwGA_435⟩
theorem kwGA_433 : ∀ w ∈ wtGA_433, w ∈ lw_tbl := List.forall_mem_cons.mpr ⟨lm_845, kwGA_434⟩
theorem kwGA_432 : ∀ w ∈ wtGA_432, w ∈ lw_tbl := List.forall_mem_cons.mpr ⟨lm_846, kwGA_433⟩
theorem kwGA_431 : ∀ w ∈ wtGA_431, w ∈ lw_tbl := List.forall_mem_cons.mpr ⟨lm_847, kwGA_432⟩
theorem kwGA_430 : ∀ w ∈ wtGA_430, w ∈ lw_tbl := List.forall_mem_cons.mpr ⟨lm_848, kwGA_431⟩
theorem kwGA_429 : ∀ w ∈ wtGA_429, w ∈ lw_tbl := List.forall_mem_cons.mpr ⟨lm_849, kwGA_430⟩
theorem kwGA_428 : ∀ w ∈ wtGA_428, w ∈ lw_tbl := List.forall_mem_cons.mpr ⟨lm_850, kwGA_429⟩
theorem kwGA_427 : ∀ w ∈ wtGA_427, w ∈ lw_tbl := List.forall_mem_cons.mpr ⟨lm_851, kwGA_428⟩
theorem kwGA_426 : ∀ w ∈ wtGA_426, w ∈ lw_tbl := List.forall_mem_cons.mpr ⟨lm_852, kwGA_427⟩
theorem kwGA_425 : ∀ w ∈ wtGA_425, w ∈ lw_tbl := List.forall_mem_cons.mpr ⟨lm_853, kwGA_426⟩
theorem kwGA_424 : ∀ w ∈ wtGA_424, w ∈ lw_tbl := List.forall_mem_cons.mpr ⟨lm_854, kwGA_425⟩
theorem kwGA_423 : ∀ w ∈ wtGA_423, w ∈ lw_tbl := List.forall_mem_cons.mpr ⟨lm_855, kwGA_424⟩
theorem kwGA_422 : ∀ w ∈ wtGA_422, w ∈ lw_tbl := List.forall_mem_cons.mpr ⟨lm_74, kwGA_423⟩
theorem kwGA_421 : ∀ w ∈ wtGA_421, w ∈ lw_tbl := List.forall_mem_cons.mpr ⟨lm_77, kwGA_422⟩
theorem kwGA_420 : ∀ w ∈ wtGA_420, w ∈ lw_tbl := List.forall_mem_cons.mpr ⟨lm_76, kwGA_421⟩
theorem kwGA_419 : ∀ w ∈ wtGA_419, w ∈ lw_tbl := List.forall_mem_cons.mpr ⟨lm_856, kwGA_420⟩
theorem kwGA_418 : ∀ w ∈ wtGA_418, w ∈ lw_tbl := List.forall_mem_cons.mpr ⟨lm_857, kwGA_419⟩
theorem kwGA_417 : ∀ w ∈ wtGA_417, w ∈ lw_tbl := List.forall_mem_cons.mpr ⟨lm_858, kwGA_418⟩
theorem kwGA_416 : ∀ w ∈ wtGA_416, w ∈ lw_tbl := List.forall_mem_cons.mpr ⟨lm_859, kwGA_417⟩
theorem kwGA_415 : ∀ w ∈ wtGA_415, w ∈ lw_tbl := List.forall_mem_cons.mpr ⟨lm_860, kwGA_416⟩
theorem kwGA_414 : ∀ w ∈ wtGA_414, w ∈ lw_tbl := List.forall_mem_cons.mpr ⟨lm_861, kwGA_415⟩
theorem kwGA_413 : ∀ w ∈ wtGA_413, w ∈ lw_tbl := List.forall_mem_cons.mpr ⟨lm_862, kwGA_414⟩
theorem kwGA_412 : ∀ w ∈ wtGA_412, w ∈ lw_tbl := List.forall_mem_cons.mpr ⟨lm_863, kwGA_413⟩
theorem kwGA_411 : ∀ w ∈ wtGA_411, w ∈ lw_tbl := List.forall_mem_cons.mpr ⟨lm_864, kwGA_412⟩
theorem kwGA_410 : ∀ w ∈ wtGA_410, w ∈ lw_tbl := List.forall_mem_cons.mpr ⟨lm_865, kwGA_411⟩
theorem kwGA_409 : ∀ w ∈ wtGA_409, w ∈ lw_tbl := List.forall_mem_cons.mpr ⟨lm_866, kwGA_410⟩
theorem kwGA_408 : ∀ w ∈ wtGA_408, w ∈ lw_tbl := List.forall_mem_cons.mpr ⟨lm_867, kwGA_409⟩
theorem kwGA_407 : ∀ w ∈ wtGA_407, w ∈ lw_tbl := List.forall_mem_cons.mpr ⟨lm_868, kwGA_408⟩
theorem kwGA_406 : ∀ w ∈ wtGA_406, w ∈ lw_tbl := List.forall_mem_cons.mpr ⟨lm_66, kwGA_407⟩
theorem kwGA_405 : ∀ w ∈ wtGA_405, w ∈ lw_tbl := List.forall_mem_cons.mpr ⟨lm_69, kwGA_406⟩
theorem kwGA_404 : ∀ w ∈ wtGA_404, w ∈ lw_tbl := List.forall_mem_cons.mpr ⟨lm_68, kwGA_405⟩
theorem kwGA_403 : ∀ w ∈ wtGA_403, w ∈ lw_tbl := List.forall_mem_cons.mpr ⟨lm_869, kwGA_404⟩
theorem kwGA_402 : ∀ w ∈ wtGA_402, w ∈ lw_tbl := List.forall_mem_cons.mpr ⟨lm_870, kwGA_403⟩
theorem kwGA_401 : ∀ w ∈ wtGA_401, w ∈ lw_tbl := List.forall_mem_cons.mpr ⟨lm_871, kwGA_402⟩
theorem kwGA_400 : ∀ w ∈ wtGA_400, w ∈ lw_tbl := List.forall_mem_cons.mpr ⟨lm_872, kwGA_401⟩
theorem kwGA_399 : ∀ w ∈ wtGA_399, w ∈ lw_tbl := List.forall_mem_cons.mpr ⟨lm_873, kwGA_400⟩
theorem kwGA_398 : ∀ w ∈ wtGA_398, w ∈ lw_tbl := List.forall_mem_cons.mpr ⟨lm_874, kwGA_399⟩
theorem kwGA_397 : ∀ w ∈ wtGA_397, w ∈ lw_tbl := List.forall_mem_cons.mpr ⟨lm_875, kwGA_398⟩
theorem kwGA_396 : ∀ w ∈ wtGA_396, w ∈ lw_tbl := List.forall_mem_cons.mpr ⟨lm_876, kwGA_397⟩
theorem kwGA_395 : ∀ w ∈ wtGA_395, w ∈ lw_tbl := List.forall_mem_cons.mpr ⟨lm_877, kwGA_396⟩
theorem kwGA_394 : ∀ w ∈ wtGA_394, w ∈ lw_tbl := List.forall_mem_cons.mpr ⟨lm_58, kwGA_395⟩
theorem kwGA_393 : ∀ w ∈ wtGA_393, w ∈ lw_tbl := List.forall_mem_cons.mpr ⟨lm_61, kwGA_394⟩
theorem kwGA_392 : ∀ w ∈ wtGA_392, w ∈ lw_tbl := List.forall_mem_cons.mpr ⟨lm_60, kwGA_393⟩
theorem kwGA_391 : ∀ w ∈ wtGA_391, w ∈ lw_tbl := List.forall_mem_cons.mpr ⟨lm_878, kwGA_392⟩
theorem kwGA_390 : ∀ w ∈ wtGA_390, w ∈ lw_tbl := List.forall_mem_cons.mpr ⟨lm_879, kwGA_391⟩
theorem kwGA_389 : ∀ w ∈ wtGA_389, w ∈ lw_tbl := List.forall_mem_cons.mpr ⟨lm_880, kwGA_390⟩
theorem kwGA_388 : ∀ w ∈ wtGA_388, w ∈ lw_tbl := List.forall_mem_cons.mpr ⟨lm_881, kwGA_389⟩
theorem kwGA_387 : ∀ w ∈ wtGA_387, w ∈ lw_tbl := List.forall_mem_cons.mpr ⟨lm_882, kwGA_388⟩
theorem kwGA_386 : ∀ w ∈ wtGA_386, w ∈ lw_tbl := List.forall_mem_cons.mpr ⟨lm_883, kwGA_387⟩
theorem kwGA_385 : ∀ w ∈ wtGA_385, w ∈ lw_tbl := List.forall_mem_cons.mpr ⟨lm_884, kwGA_386⟩
theorem kwGA_384 : ∀ w ∈ wtGA_384, w ∈ lw_tbl := List.forall_mem_cons.mpr ⟨lm_885, kwGA_385⟩
theorem kwGA_383 : ∀ w ∈ wtGA_383, w ∈ lw_tbl := List.forall_mem_cons.mpr ⟨lm_886, kwGA_384⟩
theorem kwGA_382 : ∀ w ∈ wtGA_382, w ∈ lw_tbl := List.forall_mem_cons.mpr ⟨lm_887, kwGA_383⟩
theorem kwGA_381 : ∀ w ∈ wtGA_381, w ∈ lw_tbl := List.forall_mem_cons.mpr ⟨lm_888, kwGA_382⟩
theorem kwGA_380 : ∀ w ∈ wtGA_380, w ∈ lw_tbl := List.forall_mem_cons.mpr ⟨lm_50, kwGA_381⟩
theorem kwGA_379 : ∀ w ∈ wtGA_379, w ∈ lw_tbl := List.forall_mem_cons.mpr ⟨lm_53, kwGA_380⟩
theorem kwGA_378 : ∀ w ∈ wtGA_378, w ∈ lw_tbl := List.forall_mem_cons.mpr ⟨lm_52, kwGA_379⟩
theorem kwGA_377 : ∀ w ∈ wtGA_377, w ∈ lw_tbl := List.forall_mem_cons.mpr ⟨lm_889, kwGA_378⟩
theorem kwGA_376 : ∀ w ∈ wtGA_376, w ∈ lw_tbl := List.forall_mem_cons.mpr ⟨lm_890, kwGA_377⟩
theorem kwGA_375 : ∀ w ∈ wtGA_375, w ∈ lw_tbl := List.forall_mem_cons.mpr ⟨lm_891, kwGA_376⟩
theorem kwGA_374 : ∀ w ∈ wtGA_374, w ∈ lw_tbl := List.forall_mem_cons.mpr ⟨lm_892, kwGA_375⟩
theorem kwGA_373 : ∀ w ∈ wtGA_373, w ∈ lw_tbl := List.forall_mem_cons.mpr ⟨lm_893, kwGA_374⟩
theorem kwGA_372 : ∀ w ∈ wtGA_372, w ∈ lw_tbl := List.forall_mem_cons.mpr ⟨lm_894, kwGA_373⟩
theorem kwGA_371 : ∀ w ∈ wtGA_371, w ∈ lw_tbl := List.forall_mem_cons.mpr ⟨lm_895, kwGA_372⟩
theorem kwGA_370 : ∀ w ∈ wtGA_370, w ∈ lw_tbl := List.forall_mem_cons.mpr ⟨lm_896, kwGA_371⟩
theorem kwGA_369 : ∀ w ∈ wtGA_369, w ∈ lw_tbl := List.forall_mem_cons.mpr ⟨lm_897, kwGA_370⟩
theorem kwGA_368 : ∀ w ∈ wtGA_368, w ∈ lw_tbl := List.forall_mem_cons.mpr ⟨lm_898, kwGA_369⟩
theorem kwGA_367 : ∀ w ∈ wtGA_367, w ∈ lw_tbl := List.forall_mem_cons.mpr ⟨lm_899, kwGA_368⟩
theorem kwGA_366 : ∀ w ∈ wtGA_366, w ∈ lw_tbl := List.forall_mem_cons.mpr ⟨lm_900, kwGA_367⟩
theorem kwGA_365 : ∀ w ∈ wtGA_365, w ∈ lw_tbl := List.forall_mem_cons.mpr ⟨lm_901, kwGA_366⟩
theorem kwGA_364 : ∀ w ∈ wtGA_364, w ∈ lw_tbl := List.forall_mem_cons.mpr ⟨lm_902, kwGA_365⟩
theorem kwGA_363 : ∀ w ∈ wtGA_363, w ∈ lw_tbl := List.forall_mem_cons.mpr ⟨lm_42, kwGA_364⟩
theorem kwGA_362 : ∀ w ∈ wtGA_362, w ∈ lw_tbl := List.forall_mem_cons.mpr ⟨lm_45, kwGA_363⟩
theorem kwGA_361 : ∀ w ∈ wtGA_361, w ∈ lw_tbl := List.forall_mem_cons.mpr ⟨lm_44, kwGA_362⟩
theorem kwGA_360 : ∀ w ∈ wtGA_360, w ∈ lw_tbl := List.forall_mem_cons.mpr ⟨lm_903, kwGA_361⟩
theorem kwGA_359 : ∀ w ∈ wtGA_359, w ∈ lw_tbl := List.forall_mem_cons.mpr ⟨lm_904, kwGA_360⟩
theorem kwGA_358 : ∀ w ∈ wtGA_358, w ∈ lw_tbl := List.forall_mem_cons.mpr ⟨lm_905, kwGA_359⟩
theorem kwGA_357 : ∀ w ∈ wtGA_357, w ∈ lw_tbl := List.forall_mem_cons.mpr ⟨lm_906, kwGA_358⟩
theorem kwGA_356 : ∀ w ∈ wtGA_356, w ∈ lw_tbl := List.forall_mem_cons.mpr ⟨lm_907, kwGA_357⟩
theorem kwGA_355 : ∀ w ∈ wtGA_355, w ∈ lw_tbl := List.forall_mem_cons.mpr ⟨lm_908, kwGA_356⟩
theorem kwGA_354 : ∀ w ∈ wtGA_354, w ∈ lw_tbl := List.forall_mem_cons.mpr ⟨lm_909, kwGA_355⟩
theorem kwGA_353 : ∀ w ∈ wtGA_353, w ∈ lw_tbl := List.forall_mem_cons.mpr ⟨lm_910, kwGA_354⟩
theorem kwGA_352 : ∀ w ∈ wtGA_352, w ∈ lw_tbl := List.forall_mem_cons.mpr ⟨lm_34, kwGA_353⟩
theorem kwGA_351 : ∀ w ∈ wtGA_351, w ∈ lw_tbl := List.forall_mem_cons.mpr ⟨lm_37, kwGA_352⟩
theorem kwGA_350 : ∀ w ∈ wtGA_350, w ∈ lw_tbl := List.forall_mem_cons.mpr ⟨lm_36, kwGA_351⟩
theorem kwGA_349 : ∀ w ∈ wtGA_349, w ∈ lw_tbl := List.forall_mem_cons.mpr ⟨lm_911, kwGA_350⟩
theorem kwGA_348 : ∀ w ∈ wtGA_348, w ∈ lw_tbl := List.forall_mem_cons.mpr ⟨lm_26, kwGA_349⟩
theorem kwGA_347 : ∀ w ∈ wtGA_347, w ∈ lw_tbl := List.forall_mem_cons.mpr ⟨lm_29, kwGA_348⟩
theorem kwGA_346 : ∀ w ∈ wtGA_346, w ∈ lw_tbl := List.forall_mem_cons.mpr ⟨lm_28, kwGA_347⟩
theorem kwGA_345 : ∀ w ∈ wtGA_345, w ∈ lw_tbl := List.forall_mem_cons.mpr ⟨lm_912, kwGA_346⟩
theorem kwGA_344 : ∀ w ∈ wtGA_344, w ∈ lw_tbl := List.forall_mem_cons.mpr ⟨lm_913, kwGA_345⟩
theorem kwGA_343 : ∀ w ∈ wtGA_343, w ∈ lw_tbl := List.forall_mem_cons.mpr ⟨lm_914, kwGA_344⟩
theorem kwGA_342 : ∀ w ∈ wtGA_342, w ∈ lw_tbl := List.forall_mem_cons.mpr ⟨lm_915, kwGA_343⟩
theorem kwGA_341 : ∀ w ∈ wtGA_341, w ∈ lw_tbl := List.forall_mem_cons.mpr ⟨lm_916, kwGA_342⟩
theorem kwGA_340 : ∀ w ∈ wtGA_340, w ∈ lw_tbl := List.forall_mem_cons.mpr ⟨lm_917, kwGA_341⟩
theorem kwGA_339 : ∀ w ∈ wtGA_339, w ∈ lw_tbl := List.forall_mem_cons.mpr ⟨lm_918, kwGA_340⟩
theorem kwGA_338 : ∀ w ∈ wtGA_338, w ∈ lw_tbl := List.forall_mem_cons.mpr ⟨lm_919, kwGA_339⟩
theorem kwGA_337 : ∀ w ∈ wtGA_337, w ∈ lw_tbl := List.forall_mem_cons.mpr ⟨lm_920, kwGA_338⟩
theorem kwGA_336 : ∀ w ∈ wtGA_336, w ∈ lw_tbl := List.forall_mem_cons.mpr ⟨lm_921, kwGA_337⟩
theorem kwGA_335 : ∀ w ∈ wtGA_335, w ∈ lw_tbl := List.forall_mem_cons.mpr ⟨lm_922, kwGA_336⟩
theorem kwGA_334 : ∀ w ∈ wtGA_334, w ∈ lw_tbl := List.forall_mem_cons.mpr ⟨lm_923, kwGA_335⟩
theorem kwGA_333 : ∀ w ∈ wtGA_333, w ∈ lw_tbl := List.forall_mem_cons.mpr ⟨lm_924, kwGA_334⟩
theorem kwGA_332 : ∀ w ∈ wtGA_332, w ∈ lw_tbl := List.forall_mem_cons.mpr ⟨lm_925, kwGA_333⟩
theorem kwGA_331 : ∀ w ∈ wtGA_331, w ∈ lw_tbl := List.forall_mem_cons.mpr ⟨lm_926, kwGA_332⟩
theorem kwGA_330 : ∀ w ∈ wtGA_330, w ∈ lw_tbl := List.forall_mem_cons.mpr ⟨lm_927, kwGA_331⟩
theorem kwGA_329 : ∀ w ∈ wtGA_329, w ∈ lw_tbl := List.forall_mem_cons.mpr ⟨lm_928, kwGA_330⟩
theorem kwGA_328 : ∀ w ∈ wtGA_328, w ∈ lw_tbl := List.forall_mem_cons.mpr ⟨lm_929, kwGA_329⟩
theorem kwGA_327 : ∀ w ∈ wtGA_327, w ∈ lw_tbl := List.forall_mem_cons.mpr ⟨lm_930, kwGA_328⟩
theorem kwGA_326 : ∀ w ∈ wtGA_326, w ∈ lw_tbl := List.forall_mem_cons.mpr ⟨lm_931, kwGA_327⟩
theorem kwGA_325 : ∀ w ∈ wtGA_325, w ∈ lw_tbl := List.forall_mem_cons.mpr ⟨lm_932, kwGA_326⟩
theorem kwGA_324 : ∀ w ∈ wtGA_324, w ∈ lw_tbl := List.forall_mem_cons.mpr ⟨lm_933, kwGA_325⟩
theorem kwGA_323 : ∀ w ∈ wtGA_323, w ∈ lw_tbl := List.forall_mem_cons.mpr ⟨lm_934, kwGA_324⟩
theorem kwGA_322 : ∀ w ∈ wtGA_322, w ∈ lw_tbl := List.forall_mem_cons.mpr ⟨lm_935, kwGA_323⟩
theorem kwGA_321 : ∀ w ∈ wtGA_321, w ∈ lw_tbl := List.forall_mem_cons.mpr ⟨lm_936, kwGA_322⟩
theorem kwGA_320 : ∀ w ∈ wtGA_320, w ∈ lw_tbl := List.forall_mem_cons.mpr ⟨lm_937, kwGA_321⟩
theorem kwGA_319 : ∀ w ∈ wtGA_319, w ∈ lw_tbl := List.forall_mem_cons.mpr ⟨lm_938, kwGA_320⟩
theorem kwGA_318 : ∀ w ∈ wtGA_318, w ∈ lw_tbl := List.forall_mem_cons.mpr ⟨lm_939, kwGA_319⟩
theorem kwGA_317 : ∀ w ∈ wtGA_317, w ∈ lw_tbl := List.forall_mem_cons.mpr ⟨lm_940, kwGA_318⟩
theorem kwGA_316 : ∀ w ∈ wtGA_316, w ∈ lw_tbl := List.forall_mem_cons.mpr ⟨lm_941, kwGA_317⟩
theorem kwGA_315 : ∀ w ∈ wtGA_315, w ∈ lw_tbl := List.forall_mem_cons.mpr ⟨lm_942, kwGA_316⟩
theorem kwGA_314 : ∀ w ∈ wtGA_314, w ∈ lw_tbl := List.forall_mem_cons.mpr ⟨lm_943, kwGA_315⟩
theorem kwGA_313 : ∀ w ∈ wtGA_313, w ∈ lw_tbl := List.forall_mem_cons.mpr ⟨lm_944, kwGA_314⟩
theorem kwGA_312 : ∀ w ∈ wtGA_312, w ∈ lw_tbl := List.forall_mem_cons.mpr ⟨lm_945, kwGA_313⟩
theorem kwGA_311 : ∀ w ∈ wtGA_311, w ∈ lw_tbl := List.forall_mem_cons.mpr ⟨lm_946, kwGA_312⟩
theorem kwGA_310 : ∀ w ∈ wtGA_310, w ∈ lw_tbl := List.forall_mem_cons.mpr ⟨lm_947, kwGA_311⟩
theorem kwGA_309 : ∀ w ∈ wtGA_309, w ∈ lw_tbl := List.forall_mem_cons.mpr ⟨lm_948, kwGA_310⟩
theorem kwGA_308 : ∀ w ∈ wtGA_308, w ∈ lw_tbl := List.forall_mem_cons.mpr ⟨lm_949, kwGA_309⟩
theorem kwGA_307 : ∀ w ∈ wtGA_307, w ∈ lw_tbl := List.forall_mem_cons.mpr ⟨lm_950, kwGA_308⟩
theorem kwGA_306 : ∀ w ∈ wtGA_306, w ∈ lw_tbl := List.forall_mem_cons.mpr ⟨lm_951, kwGA_307⟩
theorem kwGA_305 : ∀ w ∈ wtGA_305, w ∈ lw_tbl := List.forall_mem_cons.mpr ⟨lm_952, kwGA_306⟩
theorem kwGA_304 : ∀ w ∈ wtGA_304, w ∈ lw_tbl := List.forall_mem_cons.mpr ⟨lm_953, kwGA_305⟩
theorem kwGA_303 : ∀ w ∈ wtGA_303, w ∈ lw_tbl := List.forall_mem_cons.mpr ⟨lm_954, kwGA_304⟩
theorem kwGA_302 : ∀ w ∈ wtGA_302, w ∈ lw_tbl := List.forall_mem_cons.mpr ⟨lm_955, kwGA_303⟩
theorem kwGA_301 : ∀ w ∈ wtGA_301, w ∈ lw_tbl := List.forall_mem_cons.mpr ⟨lm_956, kwGA_302⟩
theorem kwGA_300 : ∀ w ∈ wtGA_300, w ∈ lw_tbl := List.forall_mem_cons.mpr ⟨lm_957, kwGA_301⟩
theorem kwGA_299 : ∀ w ∈ wtGA_299, w ∈ lw_tbl := List.forall_mem_cons.mpr ⟨lm_958, kwGA_300⟩
theorem kwGA_298 : ∀ w ∈ wtGA_298, w ∈ lw_tbl := List.forall_mem_cons.mpr ⟨lm_959, kwGA_299⟩
theorem kwGA_297 : ∀ w ∈ wtGA_297, w ∈ lw_tbl := List.forall_mem_cons.mpr ⟨lm_960, kwGA_298⟩
theorem kwGA_296 : ∀ w ∈ wtGA_296, w ∈ lw_tbl := List.forall_mem_cons.mpr ⟨lm_961, kwGA_297⟩
theorem kwGA_295 : ∀ w ∈ wtGA_295, w ∈ lw_tbl := List.forall_mem_cons.mpr ⟨lm_962, kwGA_296⟩
theorem kwGA_294 : ∀ w ∈ wtGA_294, w ∈ lw_tbl := List.forall_mem_cons.mpr ⟨lm_963, kwGA_295⟩
theorem kwGA_293 : ∀ w ∈ wtGA_293, w ∈ lw_tbl := List.forall_mem_cons.mpr ⟨lm_964, kwGA_294⟩
theorem kwGA_292 : ∀ w ∈ wtGA_292, w ∈ lw_tbl := List.forall_mem_cons.mpr ⟨lm_965, kwGA_293⟩
theorem kwGA_291 : ∀ w ∈ wtGA_291, w ∈ lw_tbl := List.forall_mem_cons.mpr ⟨lm_966, kwGA_292⟩
theorem kwGA_290 : ∀ w ∈ wtGA_290, w ∈ lw_tbl := List.forall_mem_cons.mpr ⟨lm_967, kwGA_291⟩
theorem kwGA_289 : ∀ w ∈ wtGA_289, w ∈ lw_tbl := List.forall_mem_cons.mpr ⟨lm_968, kwGA_290⟩
theorem kwGA_288 : ∀ w ∈ wtGA_288, w ∈ lw_tbl := List.forall_mem_cons.mpr ⟨lm_969, kwGA_289⟩
theorem kwGA_287 : ∀ w ∈ wtGA_287, w ∈ lw_tbl := List.forall_mem_cons.mpr ⟨lm_970, kwGA_288⟩
theorem kwGA_286 : ∀ w ∈ wtGA_286, w ∈ lw_tbl := List.forall_mem_cons.mpr ⟨lm_971, kwGA_287⟩
theorem kwGA_285 : ∀ w ∈ wtGA_285, w ∈ lw_tbl := List.forall_mem_cons.mpr ⟨lm_972, kwGA_286⟩
theorem kwGA_284 : ∀ w ∈ wtGA_284, w ∈ lw_tbl := List.forall_mem_cons.mpr ⟨lm_973, kwGA_285⟩
theorem kwGA_283 : ∀ w ∈ wtGA_283, w ∈ lw_tbl := List.forall_mem_cons.mpr ⟨lm_974, kwGA_284⟩
theorem kwGA_282 : ∀ w ∈ wtGA_282, w ∈ lw_tbl := List.forall_mem_cons.mpr ⟨lm_975, kwGA_283⟩
theorem kwGA_281 : ∀ w ∈ wtGA_281, w ∈ lw_tbl := List.forall_mem_cons.mpr ⟨lm_976, kwGA_282⟩
theorem kwGA_280 : ∀ w ∈ wtGA_280, w ∈ lw_tbl := List.forall_mem_cons.mpr ⟨lm_977, kwGA_281⟩
theorem kwGA_279 : ∀ w ∈ wtGA_279, w ∈ lw_tbl := List.forall_mem_cons.mpr ⟨lm_978, kwGA_280⟩
theorem kwGA_278 : ∀ w ∈ wtGA_278, w ∈ lw_tbl := List.forall_mem_cons.mpr ⟨lm_979, kwGA_279⟩
theorem kwGA_277 : ∀ w ∈ wtGA_277, w ∈ lw_tbl := List.forall_mem_cons.mpr ⟨lm_980, kwGA_278⟩
theorem kwGA_276 : ∀ w ∈ wtGA_276, w ∈ lw_tbl := List.forall_mem_cons.mpr ⟨lm_981, kwGA_277⟩
theorem kwGA_275 : ∀ w ∈ wtGA_275, w ∈ lw_tbl := List.forall_mem_cons.mpr ⟨lm_982, kwGA_276⟩
theorem kwGA_274 : ∀ w ∈ wtGA_274, w ∈ lw_tbl := List.forall_mem_cons.mpr ⟨lm_983, kwGA_275⟩
theorem kwGA_273 : ∀ w ∈ wtGA_273, w ∈ lw_tbl := List.forall_mem_cons.mpr ⟨lm_984, kwGA_274⟩
theorem kwGA_272 : ∀ w ∈ wtGA_272, w ∈ lw_tbl := List.forall_mem_cons.mpr ⟨lm_985, kwGA_273⟩
theorem kwGA_271 : ∀ w ∈ wtGA_271, w ∈ lw_tbl := List.forall_mem_cons.mpr ⟨lm_986, kwGA_272⟩
theorem kwGA_270 : ∀ w ∈ wtGA_270, w ∈ lw_tbl := List.forall_mem_cons.mpr ⟨lm_987, kwGA_271⟩
theorem kwGA_269 : ∀ w ∈ wtGA_269, w ∈ lw_tbl := List.forall_mem_cons.mpr ⟨lm_988, kwGA_270⟩
theorem kwGA_268 : ∀ w ∈ wtGA_268, w ∈ lw_tbl := List.forall_mem_cons.mpr ⟨lm_989, kwGA_269⟩
theorem kwGA_267 : ∀ w ∈ wtGA_267, w ∈ lw_tbl := List.forall_mem_cons.mpr ⟨lm_990, kwGA_268⟩
theorem kwGA_266 : ∀ w ∈ wtGA_266, w ∈ lw_tbl := List.forall_mem_cons.mpr ⟨lm_991, kwGA_267⟩
theorem kwGA_265 : ∀ w ∈ wtGA_265, w ∈ lw_tbl := List.forall_mem_cons.mpr ⟨lm_992, kwGA_266⟩
theorem kwGA_264 : ∀ w ∈ wtGA_264, w ∈ lw_tbl := List.forall_mem_cons.mpr ⟨lm_993, kwGA_265⟩
theorem kwGA_263 : ∀ w ∈ wtGA_263, w ∈ lw_tbl := List.forall_mem_cons.mpr ⟨lm_994, kwGA_264⟩
theorem kwGA_262 : ∀ w ∈ wtGA_262, w ∈ lw_tbl := List.forall_mem_cons.mpr ⟨lm_995, kwGA_263⟩
theorem kwGA_261 : ∀ w ∈ wtGA_261, w ∈ lw_tbl := List.forall_mem_cons.mpr ⟨lm_996, kwGA_262⟩
theorem kwGA_260 : ∀ w ∈ wtGA_260, w ∈ lw_tbl := List.forall_mem_cons.mpr ⟨lm_997, kwGA_261⟩
theorem kwGA_259 : ∀ w ∈ wtGA_259, w ∈ lw_tbl := List.forall_mem_cons.mpr ⟨lm_998, kwGA_260⟩
theorem kwGA_258 : ∀ w ∈ wtGA_258, w ∈ lw_tbl := List.forall_mem_cons.mpr ⟨lm_999, kwGA_259⟩
theorem kwGA_257 : ∀ w ∈ wtGA_257, w ∈ lw_tbl := List.forall_mem_cons.mpr ⟨lm_1000, kwGA_258⟩
theorem kwGA_256 : ∀ w ∈ wtGA_256, w ∈ lw_tbl := List.forall_mem_cons.mpr ⟨lm_1001, kwGA_257⟩
theorem kwGA_255 : ∀ w ∈ wtGA_255, w ∈ lw_tbl := List.forall_mem_cons.mpr ⟨lm_1002, kwGA_256⟩
theorem kwGA_254 : ∀ w ∈ wtGA_254, w ∈ lw_tbl := List.forall_mem_cons.mpr ⟨lm_1003, kwGA_255⟩
theorem kwGA_253 : ∀ w ∈ wtGA_253, w ∈ lw_tbl := List.forall_mem_cons.mpr ⟨lm_1004, kwGA_254⟩
theorem kwGA_252 : ∀ w ∈ wtGA_252, w ∈ lw_tbl := List.forall_mem_cons.mpr ⟨lm_1005, kwGA_253⟩
theorem kwGA_251 : ∀ w ∈ wtGA_251, w ∈ lw_tbl := List.forall_mem_cons.mpr ⟨lm_1006, kwGA_252⟩
theorem kwGA_250 : ∀ w ∈ wtGA_250, w ∈ lw_tbl := List.forall_mem_cons.mpr ⟨lm_1007, kwGA_251⟩
theorem kwGA_249 : ∀ w ∈ wtGA_249, w ∈ lw_tbl := List.forall_mem_cons.mpr ⟨lm_1008, kwGA_250⟩
theorem kwGA_248 : ∀ w ∈ wtGA_248, w ∈ lw_tbl := List.forall_mem_cons.mpr ⟨lm_1009, kwGA_249⟩
theorem kwGA_247 : ∀ w ∈ wtGA_247, w ∈ lw_tbl := List.forall_mem_cons.mpr ⟨lm_1010, kwGA_248⟩
theorem kwGA_246 : ∀ w ∈ wtGA_246, w ∈ lw_tbl := List.forall_mem_cons.mpr ⟨lm_1011, kwGA_247⟩
theorem kwGA_245 : ∀ w ∈ wtGA_245, w ∈ lw_tbl := List.forall_mem_cons.mpr ⟨lm_1012, kwGA_246⟩
theorem kwGA_244 : ∀ w ∈ wtGA_244, w ∈ lw_tbl := List.forall_mem_cons.mpr ⟨lm_1013, kwGA_245⟩
theorem kwGA_243 : ∀ w ∈ wtGA_243, w ∈ lw_tbl := List.forall_mem_cons.mpr ⟨lm_1014, kwGA_244⟩
theorem kwGA_242 : ∀ w ∈ wtGA_242, w ∈ lw_tbl := List.forall_mem_cons.mpr ⟨lm_1015, kwGA_243⟩
theorem kwGA_241 : ∀ w ∈ wtGA_241, w ∈ lw_tbl := List.forall_mem_cons.mpr ⟨lm_1016, kwGA_242⟩
theorem kwGA_240 : ∀ w ∈ wtGA_240, w ∈ lw_tbl := List.forall_mem_cons.mpr ⟨lm_1017, kwGA_241⟩
theorem kwGA_239 : ∀ w ∈ wtGA_239, w ∈ lw_tbl := List.forall_mem_cons.mpr ⟨lm_1018, kwGA_240⟩
theorem kwGA_238 : ∀ w ∈ wtGA_238, w ∈ lw_tbl := List.forall_mem_cons.mpr ⟨lm_1019, kwGA_239⟩
theorem kwGA_237 : ∀ w ∈ wtGA_237, w ∈ lw_tbl := List.forall_mem_cons.mpr ⟨lm_1020, kwGA_238⟩
theorem kwGA_236 : ∀ w ∈ wtGA_236, w ∈ lw_tbl := List.forall_mem_cons.mpr ⟨lm_1021, kwGA_237⟩
theorem kwGA_235 : ∀ w ∈ wtGA_235, w ∈ lw_tbl := List.forall_mem_cons.mpr ⟨lm_1022, kwGA_236⟩
theorem kwGA_234 : ∀ w ∈ wtGA_234, w ∈ lw_tbl := List.forall_mem_cons.mpr ⟨lm_1023, kwGA_235⟩
theorem kwGA_233 : ∀ w ∈ wtGA_233, w ∈ lw_tbl := List.forall_mem_cons.mpr ⟨lm_1024, kwGA_234⟩
theorem kwGA_232 : ∀ w ∈ wtGA_232, w ∈ lw_tbl := List.forall_mem_cons.mpr ⟨lm_1025, kwGA_233⟩
theorem kwGA_231 : ∀ w ∈ wtGA_231, w ∈ lw_tbl := List.forall_mem_cons.mpr ⟨lm_484, kwGA_232⟩
theorem kwGA_230 : ∀ w ∈ wtGA_230, w ∈ lw_tbl := List.forall_mem_cons.mpr ⟨lm_1026, kwGA_231⟩
theorem kwGA_229 : ∀ w ∈ wtGA_229, w ∈ lw_tbl := List.forall_mem_cons.mpr ⟨lm_1027, kwGA_230⟩
theorem kwGA_228 : ∀ w ∈ wtGA_228, w ∈ lw_tbl := List.forall_mem_cons.mpr ⟨lm_1028, kwGA_229⟩
theorem kwGA_227 : ∀ w ∈ wtGA_227, w ∈ lw_tbl := List.forall_mem_cons.mpr ⟨lm_1029, kwGA_228⟩
theorem kwGA_226 : ∀ w ∈ wtGA_226, w ∈ lw_tbl := List.forall_mem_cons.mpr ⟨lm_1030, kwGA_227⟩
theorem kwGA_225 : ∀ w ∈ wtGA_225, w ∈ lw_tbl := List.forall_mem_cons.mpr ⟨lm_1031, kwGA_226⟩
theorem kwGA_224 : ∀ w ∈ wtGA_224, w ∈ lw_tbl := List.forall_mem_cons.mpr ⟨lm_1032, kwGA_225⟩
theorem kwGA_223 : ∀ w ∈ wtGA_223, w ∈ lw_tbl := List.forall_mem_cons.mpr ⟨lm_1033, kwGA_224⟩
theorem kwGA_222 : ∀ w ∈ wtGA_222, w ∈ lw_tbl := List.forall_mem_cons.mpr ⟨lm_1034, kwGA_223⟩
theorem kwGA_221 : ∀ w ∈ wtGA_221, w ∈ lw_tbl := List.forall_mem_cons.mpr ⟨lm_1035, kwGA_222⟩
theorem kwGA_220 : ∀ w ∈ wtGA_220, w ∈ lw_tbl := List.forall_mem_cons.mpr ⟨lm_1036, kwGA_221⟩
theorem kwGA_219 : ∀ w ∈ wtGA_219, w ∈ lw_tbl := List.forall_mem_cons.mpr ⟨lm_1037, kwGA_220⟩
theorem kwGA_218 : ∀ w ∈ wtGA_218, w ∈ lw_tbl := List.forall_mem_cons.mpr ⟨lm_1038, kwGA_219⟩
theorem kwGA_217 : ∀ w ∈ wtGA_217, w ∈ lw_tbl := List.forall_mem_cons.mpr ⟨lm_1039, kwGA_218⟩
theorem kwGA_216 : ∀ w ∈ wtGA_216, w ∈ lw_tbl := List.forall_mem_cons.mpr ⟨lm_1040, kwGA_217⟩
theorem kwGA_215 : ∀ w ∈ wtGA_215, w ∈ lw_tbl := List.forall_mem_cons.mpr ⟨lm_1041, kwGA_216⟩
theorem kwGA_214 : ∀ w ∈ wtGA_214, w ∈ lw_tbl := List.forall_mem_cons.mpr ⟨lm_1042, kwGA_215⟩
theorem kwGA_213 : ∀ w ∈ wtGA_213, w ∈ lw_tbl := List.forall_mem_cons.mpr ⟨lm_1043, kwGA_214⟩
theorem kwGA_212 : ∀ w ∈ wtGA_212, w ∈ lw_tbl := List.forall_mem_cons.mpr ⟨lm_1044, kwGA_213⟩
theorem kwGA_211 : ∀ w ∈ wtGA_211, w ∈ lw_tbl := List.forall_mem_cons.mpr ⟨lm_1045, kwGA_212⟩
theorem kwGA_210 : ∀ w ∈ wtGA_210, w ∈ lw_tbl := List.forall_mem_cons.mpr ⟨lm_1046, kwGA_211⟩
theorem kwGA_209 : ∀ w ∈ wtGA_209, w ∈ lw_tbl := List.forall_mem_cons.mpr ⟨lm_1047, kwGA_210⟩
theorem kwGA_208 : ∀ w ∈ wtGA_208, w ∈ lw_tbl := List.forall_mem_cons.mpr ⟨lm_1048, kwGA_209⟩
theorem kwGA_207 : ∀ w ∈ wtGA_207, w ∈ lw_tbl := List.forall_mem_cons.mpr ⟨lm_1049, kwGA_208⟩
theorem kwGA_206 : ∀ w ∈ wtGA_206, w ∈ lw_tbl := List.forall_mem_cons.mpr ⟨lm_1050, kwGA_207⟩
theorem kwGA_205 : ∀ w ∈ wtGA_205, w ∈ lw_tbl := List.forall_mem_cons.mpr ⟨lm_1051, kwGA_206⟩
theorem kwGA_204 : ∀ w ∈ wtGA_204, w ∈ lw_tbl := List.forall_mem_cons.mpr ⟨lm_482, kwGA_205⟩
theorem kwGA_203 : ∀ w ∈ wtGA_203, w ∈ lw_tbl := List.forall_mem_cons.mpr ⟨lm_1052, kwGA_204⟩
theorem kwGA_202 : ∀ w ∈ wtGA_202, w ∈ lw_tbl := List.forall_mem_cons.mpr ⟨lm_1053, kwGA_203⟩
theorem kwGA_201 : ∀ w ∈ wtGA_201, w ∈ lw_tbl := List.forall_mem_cons.mpr ⟨lm_1054, kwGA_202⟩
theorem kwGA_200 : ∀ w ∈ wtGA_200, w ∈ lw_tbl := List.forall_mem_cons.mpr ⟨lm_1055, kwGA_201⟩
theorem kwGA_199 : ∀ w ∈ wtGA_199, w ∈ lw_tbl := List.forall_mem_cons.mpr ⟨lm_1056, kwGA_200⟩
theorem kwGA_198 : ∀ w ∈ wtGA_198, w ∈ lw_tbl := List.forall_mem_cons.mpr ⟨lm_1057, kwGA_199⟩
theorem kwGA_197 : ∀ w ∈ wtGA_197, w ∈ lw_tbl := List.forall_mem_cons.mpr ⟨lm_1058, kwGA_198⟩
theorem kwGA_196 : ∀ w ∈ wtGA_196, w ∈ lw_tbl := List.forall_mem_cons.mpr ⟨lm_1059, kwGA_197⟩
theorem kwGA_195 : ∀ w ∈ wtGA_195, w ∈ lw_tbl := List.forall_mem_cons.mpr ⟨lm_1060, kwGA_196⟩
theorem kwGA_194 : ∀ w ∈ wtGA_194, w ∈ lw_tbl := List.forall_mem_cons.mpr ⟨lm_1061, kwGA_195⟩
theorem kwGA_193 : ∀ w ∈ wtGA_193, w ∈ lw_tbl := List.forall_mem_cons.mpr ⟨lm_1062, kwGA_194⟩
theorem kwGA_192 : ∀ w ∈ wtGA_192, w ∈ lw_tbl := List.forall_mem_cons.mpr ⟨lm_1063, kwGA_193⟩
theorem kwGA_191 : ∀ w ∈ wtGA_191, w ∈ lw_tbl := List.forall_mem_cons.mpr ⟨lm_1064, kwGA_192⟩
theorem kwGA_190 : ∀ w ∈ wtGA_190, w ∈ lw_tbl := List.forall_mem_cons.mpr ⟨lm_1065, kwGA_191⟩
theorem kwGA_189 : ∀ w ∈ wtGA_189, w ∈ lw_tbl := List.forall_mem_cons.mpr ⟨lm_1066, kwGA_190⟩
theorem kwGA_188 : ∀ w ∈ wtGA_188, w ∈ lw_tbl := List.forall_mem_cons.mpr ⟨lm_1067, kwGA_189⟩
theorem kwGA_187 : ∀ w ∈ wtGA_187, w ∈ lw_tbl := List.forall_mem_cons.mpr ⟨lm_1068, kwGA_188⟩
theorem kwGA_186 : ∀ w ∈ wtGA_186, w ∈ lw_tbl := List.forall_mem_cons.mpr ⟨lm_1069, kwGA_187⟩
theorem kwGA_185 : ∀ w ∈ wtGA_185, w ∈ lw_tbl := List.forall_mem_cons.mpr ⟨lm_1070, kwGA_186⟩
theorem kwGA_184 : ∀ w ∈ wtGA_184, w ∈ lw_tbl := List.forall_mem_cons.mpr ⟨lm_1071, kwGA_185⟩
theorem kwGA_183 : ∀ w ∈ wtGA_183, w ∈ lw_tbl := List.forall_mem_cons.mpr ⟨lm_1072, kwGA_184⟩
theorem kwGA_182 : ∀ w ∈ wtGA_182, w ∈ lw_tbl := List.forall_mem_cons.mpr ⟨lm_1073, kwGA_183⟩
theorem kwGA_181 : ∀ w ∈ wtGA_181, w ∈ lw_tbl := List.forall_mem_cons.mpr ⟨lm_1074, kwGA_182⟩
theorem kwGA_180 : ∀ w ∈ wtGA_180, w ∈ lw_tbl := List.forall_mem_cons.mpr ⟨lm_1075, kwGA_181⟩
theorem kwGA_179 : ∀ w ∈ wtGA_179, w ∈ lw_tbl := List.forall_mem_cons.mpr ⟨lm_1076, kwGA_180⟩
theorem kwGA_178 : ∀ w ∈ wtGA_178, w ∈ lw_tbl := List.forall_mem_cons.mpr ⟨lm_1077, kwGA_179⟩
theorem kwGA_177 : ∀ w ∈ wtGA_177, w ∈ lw_tbl := List.forall_mem_cons.mpr ⟨lm_1078, kwGA_178⟩
theorem kwGA_176 : ∀ w ∈ wtGA_176, w ∈ lw_tbl := List.forall_mem_cons.mpr ⟨lm_1079, kwGA_177⟩
theorem kwGA_175 : ∀ w ∈ wtGA_175, w ∈ lw_tbl := List.forall_mem_cons.mpr ⟨lm_1080, kwGA_176⟩
theorem kwGA_174 : ∀ w ∈ wtGA_174, w ∈ lw_tbl := List.forall_mem_cons.mpr ⟨lm_1081, kwGA_175⟩
theorem kwGA_173 : ∀ w ∈ wtGA_173, w ∈ lw_tbl := List.forall_mem_cons.mpr ⟨lm_1082, kwGA_174⟩
theorem kwGA_172 : ∀ w ∈ wtGA_172, w ∈ lw_tbl := List.forall_mem_cons.mpr ⟨lm_1083, kwGA_173⟩
theorem kwGA_171 : ∀ w ∈ wtGA_171, w ∈ lw_tbl := List.forall_mem_cons.mpr ⟨lm_1084, kwGA_172⟩
theorem kwGA_170 : ∀ w ∈ wtGA_170, w ∈ lw_tbl := List.forall_mem_cons.mpr ⟨lm_1085, kwGA_171⟩
theorem kwGA_169 : ∀ w ∈ wtGA_169, w ∈ lw_tbl := List.forall_mem_cons.mpr ⟨lm_1086, kwGA_170⟩
theorem kwGA_168 : ∀ w ∈ wtGA_168, w ∈ lw_tbl := List.forall_mem_cons.mpr ⟨lm_1087, kwGA_169⟩
theorem kwGA_167 : ∀ w ∈ wtGA_167, w ∈ lw_tbl := List.forall_mem_cons.mpr ⟨lm_1088, kwGA_168⟩
theorem kwGA_166 : ∀ w ∈ wtGA_166, w ∈ lw_tbl := List.forall_mem_cons.mpr ⟨lm_1089, kwGA_167⟩
theorem kwGA_165 : ∀ w ∈ wtGA_165, w ∈ lw_tbl := List.forall_mem_cons.mpr ⟨lm_1090, kwGA_166⟩
theorem kwGA_164 : ∀ w ∈ wtGA_164, w ∈ lw_tbl := List.forall_mem_cons.mpr ⟨lm_1091, kwGA_165⟩
theorem kwGA_163 : ∀ w ∈ wtGA_163, w ∈ lw_tbl := List.forall_mem_cons.mpr ⟨lm_1092, kwGA_164⟩
theorem kwGA_162 : ∀ w ∈ wtGA_162, w ∈ lw_tbl := List.forall_mem_cons.mpr ⟨lm_1093, kwGA_163⟩
theorem kwGA_161 : ∀ w ∈ wtGA_161, w ∈ lw_tbl := List.forall_mem_cons.mpr ⟨lm_1094, kwGA_162⟩
theorem kwGA_160 : ∀ w ∈ wtGA_160, w ∈ lw_tbl := List.forall_mem_cons.mpr ⟨lm_1095, kwGA_161⟩
theorem kwGA_159 : ∀ w ∈ wtGA_159, w ∈ lw_tbl := List.forall_mem_cons.mpr ⟨lm_1096, kwGA_160⟩
theorem kwGA_158 : ∀ w ∈ wtGA_158, w ∈ lw_tbl := List.forall_mem_cons.mpr ⟨lm_1097, kwGA_159⟩
theorem kwGA_157 : ∀ w ∈ wtGA_157, w ∈ lw_tbl := List.forall_mem_cons.mpr ⟨lm_1098, kwGA_158⟩
theorem kwGA_156 : ∀ w ∈ wtGA_156, w ∈ lw_tbl := List.forall_mem_cons.mpr ⟨lm_1099, kwGA_157⟩
theorem kwGA_155 : ∀ w ∈ wtGA_155, w ∈ lw_tbl := List.forall_mem_cons.mpr ⟨lm_1100, kwGA_156⟩
theorem kwGA_154 : ∀ w ∈ wtGA_154, w ∈ lw_tbl := List.forall_mem_cons.mpr ⟨lm_1101, kwGA_155⟩
theorem kwGA_153 : ∀ w ∈ wtGA_153, w ∈ lw_tbl := List.forall_mem_cons.mpr ⟨lm_1102, kwGA_154⟩
theorem kwGA_152 : ∀ w ∈ wtGA_152, w ∈ lw_tbl := List.forall_mem_cons.mpr ⟨lm_1103, kwGA_153⟩
theorem kwGA_151 : ∀ w ∈ wtGA_151, w ∈ lw_tbl := List.forall_mem_cons.mpr ⟨lm_1104, kwGA_152⟩
theorem kwGA_150 : ∀ w ∈ wtGA_150, w ∈ lw_tbl := List.forall_mem_cons.mpr ⟨lm_1105, kwGA_151⟩
theorem kwGA_149 : ∀ w ∈ wtGA_149, w ∈ lw_tbl := List.forall_mem_cons.mpr ⟨lm_1106, kwGA_150⟩
theorem kwGA_148 : ∀ w ∈ wtGA_148, w ∈ lw_tbl := List.forall_mem_cons.mpr ⟨lm_1107, kwGA_149⟩
theorem kwGA_147 : ∀ w ∈ wtGA_147, w ∈ lw_tbl := List.forall_mem_cons.mpr ⟨lm_1108, kwGA_148⟩
theorem kwGA_146 : ∀ w ∈ wtGA_146, w ∈ lw_tbl := List.forall_mem_cons.mpr ⟨lm_1109, kwGA_147⟩
theorem kwGA_145 : ∀ w ∈ wtGA_145, w ∈ lw_tbl := List.forall_mem_cons.mpr ⟨lm_1110, kwGA_146⟩
theorem kwGA_144 : ∀ w ∈ wtGA_144, w ∈ lw_tbl := List.forall_mem_cons.mpr ⟨lm_1111, kwGA_145⟩
theorem kwGA_143 : ∀ w ∈ wtGA_143, w ∈ lw_tbl := List.forall_mem_cons.mpr ⟨lm_1112, kwGA_144⟩
theorem kwGA_142 : ∀ w ∈ wtGA_142, w ∈ lw_tbl := List.forall_mem_cons.mpr ⟨lm_1113, kwGA_143⟩
theorem kwGA_141 : ∀ w ∈ wtGA_141, w ∈ lw_tbl := List.forall_mem_cons.mpr ⟨lm_1114, kwGA_142⟩
theorem kwGA_140 : ∀ w ∈ wtGA_140, w ∈ lw_tbl := List.forall_mem_cons.mpr ⟨lm_18, kwGA_141⟩
theorem kwGA_139 : ∀ w ∈ wtGA_139, w ∈ lw_tbl := List.forall_mem_cons.mpr ⟨lm_21, kwGA_140⟩
theorem kwGA_138 : ∀ w ∈ wtGA_138, w ∈ lw_tbl := List.forall_mem_cons.mpr ⟨lm_20, kwGA_139⟩
theorem kwGA_137 : ∀ w ∈ wtGA_137, w ∈ lw_tbl := List.forall_mem_cons.mpr ⟨lm_10, kwGA_138⟩
theorem kwGA_136 : ∀ w ∈ wtGA_136, w ∈ lw_tbl := List.forall_mem_cons.mpr ⟨lm_13, kwGA_137⟩
theorem kwGA_135 : ∀ w ∈ wtGA_135, w ∈ lw_tbl := List.forall_mem_cons.mpr ⟨lm_12, kwGA_136⟩
theorem kwGA_134 : ∀ w ∈ wtGA_134, w ∈ lw_tbl := List.forall_mem_cons.mpr ⟨lm_1115, kwGA_135⟩
theorem kwGA_133 : ∀ w ∈ wtGA_133, w ∈ lw_tbl := List.forall_mem_cons.mpr ⟨lm_1116, kwGA_134⟩
theorem kwGA_132 : ∀ w ∈ wtGA_132, w ∈ lw_tbl := List.forall_mem_cons.mpr ⟨lm_1117, kwGA_133⟩
theorem kwGA_131 : ∀ w ∈ wtGA_131, w ∈ lw_tbl := List.forall_mem_cons.mpr ⟨lm_1118, kwGA_132⟩
theorem kwGA_130 : ∀ w ∈ wtGA_130, w ∈ lw_tbl := List.forall_mem_cons.mpr ⟨lm_1119, kwGA_131⟩
theorem kwGA_129 : ∀ w ∈ wtGA_129, w ∈ lw_tbl := List.forall_mem_cons.mpr ⟨lm_1120, kwGA_130⟩
theorem kwGA_128 : ∀ w ∈ wtGA_128, w ∈ lw_tbl := List.forall_mem_cons.mpr ⟨lm_0, kwGA_129⟩
theorem kwGA_127 : ∀ w ∈ wtGA_127, w ∈ lw_tbl := List.forall_mem_cons.mpr ⟨lm_3, kwGA_128⟩
theorem kwGA_126 : ∀ w ∈ wtGA_126, w ∈ lw_tbl := List.forall_mem_cons.mpr ⟨lm_2, kwGA_127⟩
theorem kwGA_125 : ∀ w ∈ wtGA_125, w ∈ lw_tbl := List.forall_mem_cons.mpr ⟨lm_1121, kwGA_126⟩
theorem kwGA_124 : ∀ w ∈ wtGA_124, w ∈ lw_tbl := List.forall_mem_cons.mpr ⟨lm_1122, kwGA_125⟩
theorem kwGA_123 : ∀ w ∈ wtGA_123, w ∈ lw_tbl := List.forall_mem_cons.mpr ⟨lm_1123, kwGA_124⟩
theorem kwGA_122 : ∀ w ∈ wtGA_122, w ∈ lw_tbl := List.forall_mem_cons.mpr ⟨lm_1124, kwGA_123⟩
theorem kwGA_121 : ∀ w ∈ wtGA_121, w ∈ lw_tbl := List.forall_mem_cons.mpr ⟨lm_1125, kwGA_122⟩
theorem kwGA_120 : ∀ w ∈ wtGA_120, w ∈ lw_tbl := List.forall_mem_cons.mpr ⟨lm_1126, kwGA_121⟩
theorem kwGA_119 : ∀ w ∈ wtGA_119, w ∈ lw_tbl := List.forall_mem_cons.mpr ⟨lm_1127, kwGA_120⟩
theorem kwGA_118 : ∀ w ∈ wtGA_118, w ∈ lw_tbl := List.forall_mem_cons.mpr ⟨lm_1128, kwGA_119⟩
theorem kwGA_117 : ∀ w ∈ wtGA_117, w ∈ lw_tbl := List.forall_mem_cons.mpr ⟨lm_1129, kwGA_118⟩
theorem kwGA_116 : ∀ w ∈ wtGA_116, w ∈ lw_tbl := List.forall_mem_cons.mpr ⟨lm_1130, kwGA_117⟩
theorem kwGA_115 : ∀ w ∈ wtGA_115, w ∈ lw_tbl := List.forall_mem_cons.mpr ⟨lm_1131, kwGA_116⟩
theorem kwGA_114 : ∀ w ∈ wtGA_114, w ∈ lw_tbl := List.forall_mem_cons.mpr ⟨lm_1132, kwGA_115⟩
theorem kwGA_113 : ∀ w ∈ wtGA_113, w ∈ lw_tbl := List.forall_mem_cons.mpr ⟨lm_1133, kwGA_114⟩
theorem kwGA_112 : ∀ w ∈ wtGA_112, w ∈ lw_tbl := List.forall_mem_cons.mpr ⟨lm_1134, kwGA_113⟩
theorem kwGA_111 : ∀ w ∈ wtGA_111, w ∈ lw_tbl := List.forall_mem_cons.mpr ⟨lm_1135, kwGA_112⟩
theorem kwGA_110 : ∀ w ∈ wtGA_110, w ∈ lw_tbl := List.forall_mem_cons.mpr ⟨lm_1136, kwGA_111⟩
theorem kwGA_109 : ∀ w ∈ wtGA_109, w ∈ lw_tbl := List.forall_mem_cons.mpr ⟨lm_1137, kwGA_110⟩
theorem kwGA_108 : ∀ w ∈ wtGA_108, w ∈ lw_tbl := List.forall_mem_cons.mpr ⟨lm_1138, kwGA_109⟩
theorem kwGA_107 : ∀ w ∈ wtGA_107, w ∈ lw_tbl := List.forall_mem_cons.mpr ⟨lm_1139, kwGA_108⟩
theorem kwGA_106 : ∀ w ∈ wtGA_106, w ∈ lw_tbl := List.forall_mem_cons.mpr ⟨lm_1140, kwGA_107⟩
theorem kwGA_105 : ∀ w ∈ wtGA_105, w ∈ lw_tbl := List.forall_mem_cons.mpr ⟨lm_1141, kwGA_106⟩
theorem kwGA_104 : ∀ w ∈ wtGA_104, w ∈ lw_tbl := List.forall_mem_cons.mpr ⟨lm_1142, kwGA_105⟩
theorem kwGA_103 : ∀ w ∈ wtGA_103, w ∈ lw_tbl := List.forall_mem_cons.mpr ⟨lm_1143, kwGA_104⟩
theorem kwGA_102 : ∀ w ∈ wtGA_102, w ∈ lw_tbl := List.forall_mem_cons.mpr ⟨lm_1144, kwGA_103⟩
theorem kwGA_101 : ∀ w ∈ wtGA_101, w ∈ lw_tbl := List.forall_mem_cons.mpr ⟨lm_1145, kwGA_102⟩
theorem kwGA_100 : ∀ w ∈ wtGA_100, w ∈ lw_tbl := List.forall_mem_cons.mpr ⟨lm_1146, kwGA_101⟩
theorem kwGA_99 : ∀ w ∈ wtGA_99, w ∈ lw_tbl := List.forall_mem_cons.mpr ⟨lm_1147, kwGA_100⟩
theorem kwGA_98 : ∀ w ∈ wtGA_98, w ∈ lw_tbl := List.forall_mem_cons.mpr ⟨lm_1148, kwGA_99⟩
theorem kwGA_97 : ∀ w ∈ wtGA_97, w ∈ lw_tbl := List.forall_mem_cons.mpr ⟨lm_1149, kwGA_98⟩
theorem kwGA_96 : ∀ w ∈ wtGA_96, w ∈ lw_tbl := List.forall_mem_cons.mpr ⟨lm_1150, kwGA_97⟩
theorem kwGA_95 : ∀ w ∈ wtGA_95, w ∈ lw_tbl := List.forall_mem_cons.mpr ⟨lm_1151, kwGA_96⟩
theorem kwGA_94 : ∀ w ∈ wtGA_94, w ∈ lw_tbl := List.forall_mem_cons.mpr ⟨lm_1152, kwGA_95⟩
theorem kwGA_93 : ∀ w ∈ wtGA_93, w ∈ lw_tbl := List.forall_mem_cons.mpr ⟨lm_1153, kwGA_94⟩
theorem kwGA_92 : ∀ w ∈ wtGA_92, w ∈ lw_tbl := List.forall_mem_cons.mpr ⟨lm_1154, kwGA_93⟩
theorem kwGA_91 : ∀ w ∈ wtGA_91, w ∈ lw_tbl := List.forall_mem_cons.mpr ⟨lm_1155, kwGA_92⟩
theorem kwGA_90 : ∀ w ∈ wtGA_90, w ∈ lw_tbl := List.forall_mem_cons.mpr ⟨lm_1156, kwGA_91⟩
theorem kwGA_89 : ∀ w ∈ wtGA_89, w ∈ lw_tbl := List.forall_mem_cons.mpr ⟨lm_1157, kwGA_90⟩
theorem kwGA_88 : ∀ w ∈ wtGA_88, w ∈ lw_tbl := List.forall_mem_cons.mpr ⟨lm_1158, kwGA_89⟩
theorem kwGA_87 : ∀ w ∈ wtGA_87, w ∈ lw_tbl := List.forall_mem_cons.mpr ⟨lm_1159, kwGA_88⟩
theorem kwGA_86 : ∀ w ∈ wtGA_86, w ∈ lw_tbl := List.forall_mem_cons.mpr ⟨lm_1160, kwGA_87⟩
theorem kwGA_85 : ∀ w ∈ wtGA_85, w ∈ lw_tbl := List.forall_mem_cons.mpr ⟨lm_1161, kwGA_86⟩
theorem kwGA_84 : ∀ w ∈ wtGA_84, w ∈ lw_tbl := List.forall_mem_cons.mpr ⟨lm_1162, kwGA_85⟩
theorem kwGA_83 : ∀ w ∈ wtGA_83, w ∈ lw_tbl := List.forall_mem_cons.mpr ⟨lm_1163, kwGA_84⟩
theorem kwGA_82 : ∀ w ∈ wtGA_82, w ∈ lw_tbl := List.forall_mem_cons.mpr ⟨lm_1164, kwGA_83⟩
theorem kwGA_81 : ∀ w ∈ wtGA_81, w ∈ lw_tbl := List.forall_mem_cons.mpr ⟨lm_1165, kwGA_82⟩
theorem kwGA_80 : ∀ w ∈ wtGA_80, w ∈ lw_tbl := List.forall_mem_cons.mpr ⟨lm_1166, kwGA_81⟩
theorem kwGA_79 : ∀ w ∈ wtGA_79, w ∈ lw_tbl := List.forall_mem_cons.mpr ⟨lm_436, kwGA_80⟩
theorem kwGA_78 : ∀ w ∈ wtGA_78, w ∈ lw_tbl := List.forall_mem_cons.mpr ⟨lm_1167, kwGA_79⟩
theorem kwGA_77 : ∀ w ∈ wtGA_77, w ∈ lw_tbl := List.forall_mem_cons.mpr ⟨lm_441, kwGA_78⟩
theorem kwGA_76 : ∀ w ∈ wtGA_76, w ∈ lw_tbl := List.forall_mem_cons.mpr ⟨lm_1168, kwGA_77⟩
theorem kwGA_75 : ∀ w ∈ wtGA_75, w ∈ lw_tbl := List.forall_mem_cons.mpr ⟨lm_439, kwGA_76⟩
theorem kwGA_74 : ∀ w ∈ wtGA_74, w ∈ lw_tbl := List.forall_mem_cons.mpr ⟨lm_1169, kwGA_75⟩
theorem kwGA_73 : ∀ w ∈ wtGA_73, w ∈ lw_tbl := List.forall_mem_cons.mpr ⟨lm_1170, kwGA_74⟩
theorem kwGA_72 : ∀ w ∈ wtGA_72, w ∈ lw_tbl := List.forall_mem_cons.mpr ⟨lm_1171, kwGA_73⟩
theorem kwGA_71 : ∀ w ∈ wtGA_71, w ∈ lw_tbl := List.forall_mem_cons.mpr ⟨lm_1172, kwGA_72⟩
theorem kwGA_70 : ∀ w ∈ wtGA_70, w ∈ lw_tbl := List.forall_mem_cons.mpr ⟨lm_1173, kwGA_71⟩
theorem kwGA_69 : ∀ w ∈ wtGA_69, w ∈ lw_tbl := List.forall_mem_cons.mpr ⟨lm_1174, kwGA_70⟩
theorem kwGA_68 : ∀ w ∈ wtGA_68, w ∈ lw_tbl := List.forall_mem_cons.mpr ⟨lm_1175, kwGA_69⟩
theorem kwGA_67 : ∀ w ∈ wtGA_67, w ∈ lw_tbl := List.forall_mem_cons.mpr ⟨lm_1176, kwGA_68⟩
theorem kwGA_66 : ∀ w ∈ wtGA_66, w ∈ lw_tbl := List.forall_mem_cons.mpr ⟨lm_1177, kwGA_67⟩
theorem kwGA_65 : ∀ w ∈ wtGA_65, w ∈ lw_tbl := List.forall_mem_cons.mpr ⟨lm_1178, kwGA_66⟩
theorem kwGA_64 : ∀ w ∈ wtGA_64, w ∈ lw_tbl := List.forall_mem_cons.mpr ⟨lm_1179, kwGA_65⟩
theorem kwGA_63 : ∀ w ∈ wtGA_63, w ∈ lw_tbl := List.forall_mem_cons.mpr ⟨lm_1180, kwGA_64⟩
theorem kwGA_62 : ∀ w ∈ wtGA_62, w ∈ lw_tbl := List.forall_mem_cons.mpr ⟨lm_1181, kwGA_63⟩
theorem kwGA_61 : ∀ w ∈ wtGA_61, w ∈ lw_tbl := List.forall_mem_cons.mpr ⟨lm_1182, kwGA_62⟩
theorem kwGA_60 : ∀ w ∈ wtGA_60, w ∈ lw_tbl := List.forall_mem_cons.mpr ⟨lm_1183, kwGA_61⟩
theorem kwGA_59 : ∀ w ∈ wtGA_59, w ∈ lw_tbl := List.forall_mem_cons.mpr ⟨lm_1184, kwGA_60⟩
theorem kwGA_58 : ∀ w ∈ wtGA_58, w ∈ lw_tbl := List.forall_mem_cons.mpr ⟨lm_1185, kwGA_59⟩
theorem kwGA_57 : ∀ w ∈ wtGA_57, w ∈ lw_tbl := List.forall_mem_cons.mpr ⟨lm_1186, kwGA_58⟩
theorem kwGA_56 : ∀ w ∈ wtGA_56, w ∈ lw_tbl := List.forall_mem_cons.mpr ⟨lm_1187, kwGA_57⟩
theorem kwGA_55 : ∀ w ∈ wtGA_55, w ∈ lw_tbl := List.forall_mem_cons.mpr ⟨lm_1188, kwGA_56⟩
theorem kwGA_54 : ∀ w ∈ wtGA_54, w ∈ lw_tbl := List.forall_mem_cons.mpr ⟨lm_1189, kwGA_55⟩
theorem kwGA_53 : ∀ w ∈ wtGA_53, w ∈ lw_tbl := List.forall_mem_cons.mpr ⟨lm_1190, kwGA_54⟩
theorem kwGA_52 : ∀ w ∈ wtGA_52, w ∈ lw_tbl := List.forall_mem_cons.mpr ⟨lm_1191, kwGA_53⟩
theorem kwGA_51 : ∀ w ∈ wtGA_51, w ∈ lw_tbl := List.forall_mem_cons.mpr ⟨lm_1192, kwGA_52⟩
theorem kwGA_50 : ∀ w ∈ wtGA_50, w ∈ lw_tbl := List.forall_mem_cons.mpr ⟨lm_444, kwGA_51⟩
theorem kwGA_49 : ∀ w ∈ wtGA_49, w ∈ lw_tbl := List.forall_mem_cons.mpr ⟨lm_1193, kwGA_50⟩
theorem kwGA_48 : ∀ w ∈ wtGA_48, w ∈ lw_tbl := List.forall_mem_cons.mpr ⟨lm_1194, kwGA_49⟩
theorem kwGA_47 : ∀ w ∈ wtGA_47, w ∈ lw_tbl := List.forall_mem_cons.mpr ⟨lm_1195, kwGA_48⟩
theorem kwGA_46 : ∀ w ∈ wtGA_46, w ∈ lw_tbl := List.forall_mem_cons.mpr ⟨lm_1196, kwGA_47⟩
theorem kwGA_45 : ∀ w ∈ wtGA_45, w ∈ lw_tbl := List.forall_mem_cons.mpr ⟨lm_1197, kwGA_46⟩
theorem kwGA_44 : ∀ w ∈ wtGA_44, w ∈ lw_tbl := List.forall_mem_cons.mpr ⟨lm_1198, kwGA_45⟩
theorem kwGA_43 : ∀ w ∈ wtGA_43, w ∈ lw_tbl := List.forall_mem_cons.mpr ⟨lm_1199, kwGA_44⟩
theorem kwGA_42 : ∀ w ∈ wtGA_42, w ∈ lw_tbl := List.forall_mem_cons.mpr ⟨lm_1200, kwGA_43⟩
theorem kwGA_41 : ∀ w ∈ wtGA_41, w ∈ lw_tbl := List.forall_mem_cons.mpr ⟨lm_1201, kwGA_42⟩
theorem kwGA_40 : ∀ w ∈ wtGA_40, w ∈ lw_tbl := List.forall_mem_cons.mpr ⟨lm_1202, kwGA_41⟩
theorem kwGA_39 : ∀ w ∈ wtGA_39, w ∈ lw_tbl := List.forall_mem_cons.mpr ⟨lm_1203, kwGA_40⟩
theorem kwGA_38 : ∀ w ∈ wtGA_38, w ∈ lw_tbl := List.forall_mem_cons.mpr ⟨lm_1204, kwGA_39⟩
theorem kwGA_37 : ∀ w ∈ wtGA_37, w ∈ lw_tbl := List.forall_mem_cons.mpr ⟨lm_1205, kwGA_38⟩
theorem kwGA_36 : ∀ w ∈ wtGA_36, w ∈ lw_tbl := List.forall_mem_cons.mpr ⟨lm_1206, kwGA_37⟩
theorem kwGA_35 : ∀ w ∈ wtGA_35, w ∈ lw_tbl := List.forall_mem_cons.mpr ⟨lm_1207, kwGA_36⟩
theorem kwGA_34 : ∀ w ∈ wtGA_34, w ∈ lw_tbl := List.forall_mem_cons.mpr ⟨lm_438, kwGA_35⟩
theorem kwGA_33 : ∀ w ∈ wtGA_33, w ∈ lw_tbl := List.forall_mem_cons.mpr ⟨lm_1208, kwGA_34⟩
theorem kwGA_32 : ∀ w ∈ wtGA_32, w ∈ lw_tbl := List.forall_mem_cons.mpr ⟨lm_1209, kwGA_33⟩
theorem kwGA_31 : ∀ w ∈ wtGA_31, w ∈ lw_tbl := List.forall_mem_cons.mpr ⟨lm_1210, kwGA_32⟩
theorem kwGA_30 : ∀ w ∈ wtGA_30, w ∈ lw_tbl := List.forall_mem_cons.mpr ⟨lm_442, kwGA_31⟩
theorem kwGA_29 : ∀ w ∈ wtGA_29, w ∈ lw_tbl := List.forall_mem_cons.mpr ⟨lm_1211, kwGA_30⟩
theorem kwGA_28 : ∀ w ∈ wtGA_28, w ∈ lw_tbl := List.forall_mem_cons.mpr ⟨lm_1212, kwGA_29⟩
theorem kwGA_27 : ∀ w ∈ wtGA_27, w ∈ lw_tbl := List.forall_mem_cons.mpr ⟨lm_1213, kwGA_28⟩
theorem kwGA_26 : ∀ w ∈ wtGA_26, w ∈ lw_tbl := List.forall_mem_cons.mpr ⟨lm_443, kwGA_27⟩
theorem kwGA_25 : ∀ w ∈ wtGA_25, w ∈ lw_tbl := List.forall_mem_cons.mpr ⟨lm_1214, kwGA_26⟩
theorem kwGA_24 : ∀ w ∈ wtGA_24, w ∈ lw_tbl := List.forall_mem_cons.mpr ⟨lm_1215, kwGA_25⟩
theorem kwGA_23 : ∀ w ∈ wtGA_23, w ∈ lw_tbl := List.forall_mem_cons.mpr ⟨lm_1216, kwGA_24⟩
theorem kwGA_22 : ∀ w ∈ wtGA_22, w ∈ lw_tbl := List.forall_mem_cons.mpr ⟨lm_1217, kwGA_23⟩
theorem kwGA_21 : ∀ w ∈ wtGA_21, w ∈ lw_tbl := List.forall_mem_cons.mpr ⟨lm_435, kwGA_22⟩
theorem kwGA_20 : ∀ w ∈ wtGA_20, w ∈ lw_tbl := List.forall_mem_cons.mpr ⟨lm_1218, kwGA_21⟩
theorem kwGA_19 : ∀ w ∈ wtGA_19, w ∈ lw_tbl := List.forall_mem_cons.mpr ⟨lm_1219, kwGA_20⟩
theorem kwGA_18 : ∀ w ∈ wtGA_18, w ∈ lw_tbl := List.forall_mem_cons.mpr ⟨lm_1220, kwGA_19⟩
theorem kwGA_17 : ∀ w ∈ wtGA_17, w ∈ lw_tbl := List.forall_mem_cons.mpr ⟨lm_437, kwGA_18⟩
theorem kwGA_16 : ∀ w ∈ wtGA_16, w ∈ lw_tbl := List.forall_mem_cons.mpr ⟨lm_1221, kwGA_17⟩
theorem kwGA_15 : ∀ w ∈ wtGA_15, w ∈ lw_tbl := List.forall_mem_cons.mpr ⟨lm_1222, kwGA_16⟩
theorem kwGA_14 : ∀ w ∈ wtGA_14, w ∈ lw_tbl := List.forall_mem_cons.mpr ⟨lm_1223, kwGA_15⟩
theorem kwGA_13 : ∀ w ∈ wtGA_13, w ∈ lw_tbl := List.forall_mem_cons.mpr ⟨lm_1224, kwGA_14⟩
theorem kwGA_12 : ∀ w ∈ wtGA_12, w ∈ lw_tbl := List.forall_mem_cons.mpr ⟨lm_434, kwGA_13⟩
theorem kwGA_11 : ∀ w ∈ wtGA_11, w ∈ lw_tbl := List.forall_mem_cons.mpr ⟨lm_1225, kwGA_12⟩
theorem kwGA_10 : ∀ w ∈ wtGA_10, w ∈ lw_tbl := List.forall_mem_cons.mpr ⟨lm_1226, kwGA_11⟩
theorem kwGA_9 : ∀ w ∈ wtGA_9, w ∈ lw_tbl := List.forall_mem_cons.mpr ⟨lm_1227, kwGA_10⟩
theorem kwGA_8 : ∀ w ∈ wtGA_8, w ∈ lw_tbl := List.forall_mem_cons.mpr ⟨lm_440, kwGA_9⟩
theorem kwGA_7 : ∀ w ∈ wtGA_7, w ∈ lw_tbl := List.forall_mem_cons.mpr ⟨lm_1228, kwGA_8⟩
theorem kwGA_6 : ∀ w ∈ wtGA_6, w ∈ lw_tbl := List.forall_mem_cons.mpr ⟨lm_1229, kwGA_7⟩
theorem kwGA_5 : ∀ w ∈ wtGA_5, w ∈ lw_tbl := List.forall_mem_cons.mpr ⟨lm_1230, kwGA_6⟩
theorem kwGA_4 : ∀ w ∈ wtGA_4, w ∈ lw_tbl := List.forall_mem_cons.mpr ⟨lm_1231, kwGA_5⟩
theorem kwGA_3 : ∀ w ∈ wtGA_3, w ∈ lw_tbl := List.forall_mem_cons.mpr ⟨lm_486, kwGA_4⟩
theorem kwGA_2 : ∀ w ∈ wtGA_2, w ∈ lw_tbl := List.forall_mem_cons.mpr ⟨lm_488, kwGA_3⟩
theorem kwGA_1 : ∀ w ∈ wtGA_1, w ∈ lw_tbl := List.forall_mem_cons.mpr ⟨lm_4, kwGA_2⟩
theorem kwGA_0 : ∀ w ∈ wtGA_0, w ∈ lw_tbl := List.forall_mem_cons.mpr ⟨lm_445, kwGA_1⟩
theorem lwGA : ∀ w ∈ wsGA, w ∈ lw_tbl := kwGA_0
theorem kwGB_596 : ∀ w ∈ wtGB_596, w ∈ lw_tbl := lyX12
theorem kwGB_595 : ∀ w ∈ wtGB_595, w ∈ lw_tbl := List.forall_mem_cons.mpr ⟨lm_1232, kwGB_596⟩
theorem kwGB_594 : ∀ w ∈ wtGB_594, w ∈ lw_tbl := List.forall_mem_cons.mpr ⟨lm_430, kwGB_595⟩
theorem kwGB_593 : ∀ w ∈ wtGB_593, w ∈ lw_tbl := List.forall_mem_cons.mpr ⟨lm_433, kwGB_594⟩
theorem kwGB_592 : ∀ w ∈ wtGB_592, w ∈ lw_tbl := List.forall_mem_cons.mpr ⟨lm_432, kwGB_593⟩
theorem kwGB_591 : ∀ w ∈ wtGB_591, w ∈ lw_tbl := List.forall_mem_cons.mpr ⟨lm_1233, kwGB_592⟩
theorem kwGB_590 : ∀ w ∈ wtGB_590, w ∈ lw_tbl := List.forall_mem_cons.mpr ⟨lm_1234, kwGB_591⟩
theorem kwGB_589 : ∀ w ∈ wtGB_589, w ∈ lw_tbl := List.forall_mem_cons.mpr ⟨lm_1235, kwGB_590⟩
theorem kwGB_588 : ∀ w ∈ wtGB_588, w ∈ lw_tbl := List.forall_mem_cons.mpr ⟨lm_422, kwGB_589⟩
theorem kwGB_587 : ∀ w ∈ wtGB_587, w ∈ lw_tbl := List.forall_mem_cons.mpr ⟨lm_425, kwGB_588⟩
theorem kwGB_586 : ∀ w ∈ wtGB_586, w ∈ lw_tbl := List.forall_mem_cons.mpr ⟨lm_424, kwGB_587⟩
theorem kwGB_585 : ∀ w ∈ wtGB_585, w ∈ lw_tbl := List.forall_mem_cons.mpr ⟨lm_1236, kwGB_586⟩
theorem kwGB_584 : ∀ w ∈ wtGB_584, w ∈ lw_tbl := List.forall_mem_cons.mpr ⟨lm_414, kwGB_585⟩
theorem kwGB_583 : ∀ w ∈ wtGB_583, w ∈ lw_tbl := List.forall_mem_cons.mpr ⟨lm_417, kwGB_584⟩
theorem kwGB_582 : ∀ w ∈ wtGB_582, w ∈ lw_tbl := List.forall_mem_cons.mpr ⟨lm_416, kwGB_583⟩
theorem kwGB_581 : ∀ w ∈ wtGB_581, w ∈ lw_tbl := List.forall_mem_cons.mpr ⟨lm_406, kwGB_582⟩
theorem kwGB_580 : ∀ w ∈ wtGB_580, w ∈ lw_tbl := List.forall_mem_cons.mpr ⟨lm_409, kwGB_581⟩
theorem kwGB_579 : ∀ w ∈ wtGB_579, w ∈ lw_tbl := List.forall_mem_cons.mpr ⟨lm_408, kwGB_580⟩
theorem kwGB_578 : ∀ w ∈ wtGB_578, w ∈ lw_tbl := List.forall_mem_cons.mpr ⟨lm_398, kwGB_579⟩
theorem kwGB_577 : ∀ w ∈ wtGB_577, w ∈ lw_tbl := List.forall_mem_cons.mpr ⟨lm_401, kwGB_578⟩
theorem kwGB_576 : ∀ w ∈ wtGB_576, w ∈ lw_tbl := List.forall_mem_cons.mpr ⟨lm_400, kwGB_577⟩
theorem kwGB_575 : ∀ w ∈ wtGB_575, w ∈ lw_tbl := List.forall_mem_cons.mpr ⟨lm_390, kwGB_576⟩
theorem kwGB_574 : ∀ w ∈ wtGB_574, w ∈ lw_tbl := List.forall_mem_cons.mpr ⟨lm_393, kwGB_575⟩
theorem kwGB_573 : ∀ w ∈ wtGB_573, w ∈ lw_tbl := List.forall_mem_cons.mpr ⟨lm_392, kwGB_574⟩
theorem kwGB_572 : ∀ w ∈ wtGB_572, w ∈ lw_tbl := List.forall_mem_cons.mpr ⟨lm_382, kwGB_573⟩
theorem kwGB_571 : ∀ w ∈ wtGB_571, w ∈ lw_tbl := List.forall_mem_cons.mpr ⟨lm_385, kwGB_572⟩
theorem kwGB_570 : ∀ w ∈ wtGB_570, w ∈ lw_tbl := List.forall_mem_cons.mpr ⟨lm_384, kwGB_571⟩
theorem kwGB_569 : ∀ w ∈ wtGB_569, w ∈ lw_tbl := List.forall_mem_cons.mpr ⟨lm_374, kwGB_570⟩
theorem kwGB_568 : ∀ w ∈ wtGB_568, w ∈ lw_tbl := List.forall_mem_cons.mpr ⟨lm_377, kwGB_569⟩
theorem kwGB_567 : ∀ w ∈ wtGB_567, w ∈ lw_tbl := List.forall_mem_cons.mpr ⟨lm_376, kwGB_568⟩
theorem kwGB_566 : ∀ w ∈ wtGB_566, w ∈ lw_tbl := List.forall_mem_cons.mpr ⟨lm_1237, kwGB_567⟩
theorem kwGB_565 : ∀ w ∈ wtGB_565, w ∈ lw_tbl := List.forall_mem_cons.mpr ⟨lm_1238, kwGB_566⟩
theorem kwGB_564 : ∀ w ∈ wtGB_564, w ∈ lw_tbl := List.forall_mem_cons.mpr ⟨lm_1239, kwGB_565⟩
theorem kwGB_563 : ∀ w ∈ wtGB_563, w ∈ lw_tbl := List.forall_mem_cons.mpr ⟨lm_1240, kwGB_564⟩
theorem kwGB_562 : ∀ w ∈ wtGB_562, w ∈ lw_tbl := List.forall_mem_cons.mpr ⟨lm_1241, kwGB_563⟩
theorem kwGB_561 : ∀ w ∈ wtGB_561, w ∈ lw_tbl := List.forall_mem_cons.mpr ⟨lm_1242, kwGB_562⟩
theorem kwGB_560 : ∀ w ∈ wtGB_560, w ∈ lw_tbl := List.forall_mem_cons.mpr ⟨lm_1243, kwGB_561⟩
theorem kwGB_559 : ∀ w ∈ wtGB_559, w ∈ lw_tbl := List.forall_mem_cons.mpr ⟨lm_1244, kwGB_560⟩
theorem kwGB_558 : ∀ w ∈ wtGB_558, w ∈ lw_tbl := List.forall_mem_cons.mpr ⟨lm_1245, kwGB_559⟩
theorem kwGB_557 : ∀ w ∈ wtGB_557, w ∈ lw_tbl := List.forall_mem_cons.mpr ⟨lm_1246, kwGB_558⟩
theorem kwGB_556 : ∀ w ∈ wtGB_556, w ∈ lw_tbl := List.forall_mem_cons.mpr ⟨lm_1247, kwGB_557⟩
theorem kwGB_555 : ∀ w ∈ wtGB_555, w ∈ lw_tbl := List.forall_mem_cons.mpr ⟨lm_1248, kwGB_556⟩
theorem kwGB_554 : ∀ w ∈ wtGB_554, w ∈ lw_tbl := List.forall_mem_cons.mpr ⟨lm_1249, kwGB_555⟩
theorem kwGB_553 : ∀ w ∈ wtGB_553, w ∈ lw_tbl := List.forall_mem_cons.mpr ⟨lm_1250, kwGB_554⟩
theorem kwGB_552 : ∀ w ∈ wtGB_552, w ∈ lw_tbl := List.forall_mem_cons.mpr ⟨lm_1251, kwGB_553⟩
theorem kwGB_551 : ∀ w ∈ wtGB_551, w ∈ lw_tbl := List.forall_mem_cons.mpr ⟨lm_366, kwGB_552⟩
theorem kwGB_550 : ∀ w ∈ wtGB_550, w ∈ lw_tbl := List.forall_mem_cons.mpr ⟨lm_369, kwGB_551⟩
theorem kwGB_549 : ∀ w ∈ wtGB_549, w ∈ lw_tbl := List.forall_mem_cons.mpr ⟨lm_368, kwGB_550⟩
theorem kwGB_548 : ∀ w ∈ wtGB_548, w ∈ lw_tbl := List.forall_mem_cons.mpr ⟨lm_514, kwGB_549⟩
theorem kwGB_547 : ∀ w ∈ wtGB_547, w ∈ lw_tbl := List.forall_mem_cons.mpr ⟨lm_515, kwGB_548⟩
theorem kwGB_546 : ∀ w ∈ wtGB_546, w ∈ lw_tbl := List.forall_mem_cons.mpr ⟨lm_358, kwGB_547⟩
theorem kwGB_545 : ∀ w ∈ wtGB_545, w ∈ lw_tbl := List.forall_mem_cons.mpr ⟨lm_361, kwGB_546⟩
theorem kwGB_544 : ∀ w ∈ wtGB_544, w ∈ lw_tbl := List.forall_mem_cons.mpr ⟨lm_360, kwGB_545⟩
theorem kwGB_543 : ∀ w ∈ wtGB_543, w ∈ lw_tbl := List.forall_mem_cons.mpr ⟨lm_350, kwGB_544⟩
theorem kwGB_542 : ∀ w ∈ wtGB_542, w ∈ lw_tbl := List.forall_mem_cons.mpr ⟨lm_353, kwGB_543⟩
theorem kwGB_541 : ∀ w ∈ wtGB_541, w ∈ lw_tbl := List.forall_mem_cons.mpr ⟨lm_352, kwGB_542⟩
theorem kwGB_540 : ∀ w ∈ wtGB_540, w ∈ lw_tbl := List.forall_mem_cons.mpr ⟨lm_1252, kwGB_541⟩
theorem kwGB_539 : ∀ w ∈ wtGB_539, w ∈ lw_tbl := List.forall_mem_cons.mpr ⟨lm_342, kwGB_540⟩
theorem kwGB_538 : ∀ w ∈ wtGB_538, w ∈ lw_tbl := List.forall_mem_cons.mpr ⟨lm_345, kwGB_539⟩
theorem kwGB_537 : ∀ w ∈ wtGB_537, w ∈ lw_tbl := List.forall_mem_cons.mpr ⟨lm_344, kwGB_538⟩
theorem kwGB_536 : ∀ w ∈ wtGB_536, w ∈ lw_tbl := List.forall_mem_cons.mpr ⟨lm_334, kwGB_537⟩
theorem kwGB_535 : ∀ w ∈ wtGB_535, w ∈ lw_tbl := List.forall_mem_cons.mpr ⟨lm_337, kwGB_536⟩
theorem kwGB_534 : ∀ w ∈ wtGB_534, w ∈ lw_tbl := List.forall_mem_cons.mpr ⟨lm_336, kwGB_535⟩
theorem kwGB_533 : ∀ w ∈ wtGB_533, w ∈ lw_tbl := List.forall_mem_cons.mpr ⟨lm_326, kwGB_534⟩
theorem kwGB_532 : ∀ w ∈ wtGB_532, w ∈ lw_tbl := List.forall_mem_cons.mpr ⟨lm_329, kwGB_533⟩
theorem kwGB_531 : ∀ w ∈ wtGB_531, w ∈ lw_tbl := List.forall_mem_cons.mpr ⟨lm_328, kwGB_532⟩
theorem kwGB_530 : ∀ w ∈ wtGB_530, w ∈ lw_tbl := List.forall_mem_cons.mpr ⟨lm_318, kwGB_531⟩
theorem kwGB_529 : ∀ w ∈ wtGB_529, w ∈ lw_tbl := List.forall_mem_cons.mpr ⟨lm_321, kwGB_530⟩
theorem kwGB_528 : ∀ w ∈ wtGB_528, w ∈ lw_tbl := List.forall_mem_cons.mpr ⟨lm_320, kwGB_529⟩
theorem kwGB_527 : ∀ w ∈ wtGB_527, w ∈ lw_tbl := List.forall_mem_cons.mpr ⟨lm_310, kwGB_528⟩
theorem kwGB_526 : ∀ w ∈ wtGB_526, w ∈ lw_tbl := List.forall_mem_cons.mpr ⟨lm_313, kwGB_527⟩
theorem kwGB_525 : ∀ w ∈ wtGB_525, w ∈ lw_tbl := List.forall_mem_cons.mpr ⟨lm_312, kwGB_526⟩
theorem kwGB_524 : ∀ w ∈ wtGB_524, w ∈ lw_tbl := List.forall_mem_cons.mpr ⟨lm_1253, kwGB_525⟩
theorem kwGB_523 : ∀ w ∈ wtGB_523, w ∈ lw_tbl := List.forall_mem_cons.mpr ⟨lm_1254, kwGB_524⟩
theorem kwGB_522 : ∀ w ∈ wtGB_522, w ∈ lw_tbl := List.forall_mem_cons.mpr ⟨lm_1255, kwGB_523⟩
theorem kwGB_521 : ∀ w ∈ wtGB_521, w ∈ lw_tbl := List.forall_mem_cons.mpr ⟨lm_1256, kwGB_522⟩
theorem kwGB_520 : ∀ w ∈ wtGB_520, w ∈ lw_tbl := List.forall_mem_cons.mpr ⟨lm_1257, kwGB_521⟩
theorem kwGB_519 : ∀ w ∈ wtGB_519, w ∈ lw_tbl := List.forall_mem_cons.mpr ⟨lm_1258, kwGB_520⟩
theorem kwGB_518 : ∀ w ∈ wtGB_518, w ∈ lw_tbl := List.forall_mem_cons.mpr ⟨lm_1259, kwGB_519⟩
theorem kwGB_517 : ∀ w ∈ wtGB_517, w ∈ lw_tbl := List.forall_mem_cons.mpr ⟨lm_1260, kwGB_518⟩
theorem kwGB_516 : ∀ w ∈ wtGB_516, w ∈ lw_tbl := List.forall_mem_cons.mpr ⟨lm_302, kwGB_517⟩
theorem kwGB_515 : ∀ w ∈ wtGB_515, w ∈ lw_tbl := List.forall_mem_cons.mpr ⟨lm_305, kwGB_516⟩
theorem kwGB_514 : ∀ w ∈ wtGB_514, w ∈ lw_tbl := List.forall_mem_cons.mpr ⟨lm_304, kwGB_515⟩
theorem kwGB_513 : ∀ w ∈ wtGB_513, w ∈ lw_tbl := List.forall_mem_cons.mpr ⟨lm_1261, kwGB_514⟩
theorem kwGB_512 : ∀ w ∈ wtGB_512, w ∈ lw_tbl := List.forall_mem_cons.mpr ⟨lm_1262, kwGB_513⟩
theorem kwGB_511 : ∀ w ∈ wtGB_511, w ∈ lw_tbl := List.forall_mem_cons.mpr ⟨lm_1263, kwGB_512⟩
theorem kwGB_510 : ∀ w ∈ wtGB_510, w ∈ lw_tbl := List.forall_mem_cons.mpr ⟨lm_1264, kwGB_511⟩
theorem kwGB_509 : ∀ w ∈ wtGB_509, w ∈ lw_tbl := List.forall_mem_cons.mpr ⟨lm_294, kwGB_510⟩
theorem kwGB_508 : ∀ w ∈ wtGB_508, w ∈ lw_tbl := List.forall_mem_cons.mpr ⟨lm_297, kwGB_509⟩
theorem kwGB_507 : ∀ w ∈ wtGB_507, w ∈ lw_tbl := List.forall_mem_cons.mpr ⟨lm_296, kwGB_508⟩
theorem kwGB_506 : ∀ w ∈ wtGB_506, w ∈ lw_tbl := List.forall_mem_cons.mpr ⟨lm_1265, kwGB_507⟩
theorem kwGB_505 : ∀ w ∈ wtGB_505, w ∈ lw_tbl := List.forall_mem_cons.mpr ⟨lm_1266, kwGB_506⟩
theorem kwGB_504 : ∀ w ∈ wtGB_504, w ∈ lw_tbl := List.forall_mem_cons.mpr ⟨lm_1267, kwGB_505⟩
theorem kwGB_503 : ∀ w ∈ wtGB_503, w ∈ lw_tbl := List.forall_mem_cons.mpr ⟨lm_1268, kwGB_504⟩
theorem kwGB_502 : ∀ w ∈ wtGB_502, w ∈ lw_tbl := List.forall_mem_cons.mpr ⟨lm_1269, kwGB_503⟩
theorem kwGB_501 : ∀ w ∈ wtGB_501, w ∈ lw_tbl := List.forall_mem_cons.mpr ⟨lm_1270, kwGB_502⟩
theorem kwGB_500 : ∀ w ∈ wtGB_500, w ∈ lw_tbl := List.forall_mem_cons.mpr ⟨lm_286, kwGB_501⟩
theorem kwGB_499 : ∀ w ∈ wtGB_499, w ∈ lw_tbl := List.forall_mem_cons.mpr ⟨lm_289, kwGB_500⟩
theorem kwGB_498 : ∀ w ∈ wtGB_498, w ∈ lw_tbl := List.forall_mem_cons.mpr ⟨lm_288, kwGB_499⟩
theorem kwGB_497 : ∀ w ∈ wtGB_497, w ∈ lw_tbl := List.forall_mem_cons.mpr ⟨lm_278, kwGB_498⟩
theorem kwGB_496 : ∀ w ∈ wtGB_496, w ∈ lw_tbl := List.forall_mem_cons.mpr ⟨lm_281, kwGB_497⟩
theorem kwGB_495 : ∀ w ∈ wtGB_495, w ∈ lw_tbl := List.forall_mem_cons.mpr ⟨lm_280, kwGB_496⟩
theorem kwGB_494 : ∀ w ∈ wtGB_494, w ∈ lw_tbl := List.forall_mem_cons.mpr ⟨lm_270, kwGB_495⟩
theorem kwGB_493 : ∀ w ∈ wtGB_493, w ∈ lw_tbl := List.forall_mem_cons.mpr ⟨lm_273, kwGB_494⟩
theorem kwGB_492 : ∀ w ∈ wtGB_492, w ∈ lw_tbl := List.forall_mem_cons.mpr ⟨lm_272, kwGB_493⟩
theorem kwGB_491 : ∀ w ∈ wtGB_491, w ∈ lw_tbl := List.forall_mem_cons.mpr ⟨lm_1271, kwGB_492⟩
theorem kwGB_490 : ∀ w ∈ wtGB_490, w ∈ lw_tbl := List.forall_mem_cons.mpr ⟨lm_1272, kwGB_491⟩
theorem kwGB_489 : ∀ w ∈ wtGB_489, w ∈ lw_tbl := List.forall_mem_cons.mpr ⟨lm_1273, kwGB_490⟩
theorem kwGB_488 : ∀ w ∈ wtGB_488, w ∈ lw_tbl := List.forall_mem_cons.mpr ⟨lm_1274, kwGB_489⟩
theorem kwGB_487 : ∀ w ∈ wtGB_487, w ∈ lw_tbl := List.forall_mem_cons.mpr ⟨lm_1275, kwGB_488⟩
theorem kwGB_486 : ∀ w ∈ wtGB_486, w ∈ lw_tbl := List.forall_mem_cons.mpr ⟨lm_1276, kwGB_487⟩
theorem kwGB_485 : ∀ w ∈ wtGB_485, w ∈ lw_tbl := List.forall_mem_cons.mpr ⟨lm_1277, kwGB_486⟩
theorem kwGB_484 : ∀ w ∈ wtGB_484, w ∈ lw_tbl := List.forall_mem_cons.mpr ⟨lm_1278, kwGB_485⟩
theorem kwGB_483 : ∀ w ∈ wtGB_483, w ∈ lw_tbl := List.forall_mem_cons.mpr ⟨lm_1279, kwGB_484⟩
theorem kwGB_482 : ∀ w ∈ wtGB_482, w ∈ lw_tbl := List.forall_mem_cons.mpr ⟨lm_1280, kwGB_483⟩
theorem kwGB_481 : ∀ w ∈ wtGB_481, w ∈ lw_tbl := List.forall_mem_cons.mpr ⟨lm_1281, kwGB_482⟩
theorem kwGB_480 : ∀ w ∈ wtGB_480, w ∈ lw_tbl := List.forall_mem_cons.mpr ⟨lm_1282, kwGB_481⟩
theorem kwGB_479 : ∀ w ∈ wtGB_479, w ∈ lw_tbl := List.forall_mem_cons.mpr ⟨lm_262, kwGB_480⟩
theorem kwGB_478 : ∀ w ∈ wtGB_478, w ∈ lw_tbl := List.forall_mem_cons.mpr ⟨lm_265, kwGB_479⟩
theorem kwGB_477 : ∀ w ∈ wtGB_477, w ∈ lw_tbl := List.forall_mem_cons.mpr ⟨lm_264, kwGB_478⟩
theorem kwGB_476 : ∀ w ∈ wtGB_476, w ∈ lw_tbl := List.forall_mem_cons.mpr ⟨lm_254, kwGB_477⟩
theorem kwGB_475 : ∀ w ∈ wtGB_475, w ∈ lw_tbl := List.forall_mem_cons.mpr ⟨lm_257, kwGB_476⟩
theorem kwGB_474 : ∀ w ∈ wtGB_474, w ∈ lw_tbl := List.forall_mem_cons.mpr ⟨lm_256, kwGB_475⟩
theorem kwGB_473 : ∀ w ∈ wtGB_473, w ∈ lw_tbl := List.forall_mem_cons.mpr ⟨lm_246, kwGB_474⟩
theorem kwGB_472 : ∀ w ∈ wtGB_472, w ∈ lw_tbl := List.forall_mem_cons.mpr ⟨lm_249, kwGB_473⟩
theorem kwGB_471 : ∀ w ∈ wtGB_471, w ∈ lw_tbl := List.forall_mem_cons.mpr ⟨lm_248, kwGB_472⟩
theorem kwGB_470 : ∀ w ∈ wtGB_470, w ∈ lw_tbl := List.forall_mem_cons.mpr ⟨lm_1283, kwGB_471⟩
theorem kwGB_469 : ∀ w ∈ wtGB_469, w ∈ lw_tbl := List.forall_mem_cons.mpr ⟨lm_1284, kwGB_470⟩
theorem kwGB_468 : ∀ w ∈ wtGB_468, w ∈ lw_tbl := List.forall_mem_cons.mpr ⟨lm_1285, kwGB_469⟩
theorem kwGB_467 : ∀ w ∈ wtGB_467, w ∈ lw_tbl := List.forall_mem_cons.mpr ⟨lm_1286, kwGB_468⟩
theorem kwGB_466 : ∀ w ∈ wtGB_466, w ∈ lw_tbl := List.forall_mem_cons.mpr ⟨lm_1287, kwGB_467⟩
theorem kwGB_465 : ∀ w ∈ wtGB_465, w ∈ lw_tbl := List.forall_mem_cons.mpr ⟨lm_1288, kwGB_466⟩
theorem kwGB_464 : ∀ w ∈ wtGB_464, w ∈ lw_tbl := List.forall_mem_cons.mpr ⟨lm_1289, kwGB_465⟩
theorem kwGB_463 : ∀ w ∈ wtGB_463, w ∈ lw_tbl := List.forall_mem_cons.mpr ⟨lm_1290, kwGB_464⟩
theorem kwGB_462 : ∀ w ∈ wtGB_462, w ∈ lw_tbl := List.forall_mem_cons.mpr ⟨lm_1291, kwGB_463⟩
theorem kwGB_461 : ∀ w ∈ wtGB_461, w ∈ lw_tbl := List.forall_mem_cons.mpr ⟨lm_1292, kwGB_462⟩
theorem kwGB_460 : ∀ w ∈ wtGB_460, w ∈ lw_tbl := List.forall_mem_cons.mpr ⟨lm_1293, kwGB_461⟩
theorem kwGB_459 : ∀ w ∈ wtGB_459, w ∈ lw_tbl := List.forall_mem_cons.mpr ⟨lm_1294, kwGB_460⟩
theorem kwGB_458 : ∀ w ∈ wtGB_458, w ∈ lw_tbl := List.forall_mem_cons.mpr ⟨lm_1295, kwGB_459⟩
theorem kwGB_457 : ∀ w ∈ wtGB_457, w ∈ lw_tbl := List.forall_mem_cons.mpr ⟨lm_1296, kwGB_458⟩
theorem kwGB_456 : ∀ w ∈ wtGB_456, w ∈ lw_tbl := List.forall_mem_cons.mpr ⟨lm_1297, kwGB_457⟩
theorem kwGB_455 : ∀ w ∈ wtGB_455, w ∈ lw_tbl := List.forall_mem_cons.mpr ⟨lm_1298, kwGB_456⟩
theorem kwGB_454 : ∀ w ∈ wtGB_454, w ∈ lw_tbl := List.forall_mem_cons.mpr ⟨lm_1299, kwGB_455⟩
theorem kwGB_453 : ∀ w ∈ wtGB_453, w ∈ lw_tbl := List.forall_mem_cons.mpr ⟨lm_1300, kwGB_454⟩
theorem kwGB_452 : ∀ w ∈ wtGB_452, w ∈ lw_tbl := List.forall_mem_cons.mpr ⟨lm_1301, kwGB_453⟩
theorem kwGB_451 : ∀ w ∈ wtGB_451, w ∈ lw_tbl := List.forall_mem_cons.mpr ⟨lm_1302, kwGB_452⟩
theorem kwGB_450 : ∀ w ∈ wtGB_450, w ∈ lw_tbl := List.forall_mem_cons.mpr ⟨lm_1303, kwGB_451⟩
theorem kwGB_449 : ∀ w ∈ wtGB_449, w ∈ lw_tbl := List.forall_mem_cons.mpr ⟨lm_1304, kwGB_450⟩
theorem kwGB_448 : ∀ w ∈ wtGB_448, w ∈ lw_tbl := List.forall_mem_cons.mpr ⟨lm_238, kwGB_449⟩
theorem kwGB_447 : ∀ w ∈ wtGB_447, w ∈ lw_tbl := List.forall_mem_cons.mpr ⟨lm_241, kwGB_448⟩
theorem kwGB_446 : ∀ w ∈ wtGB_446, w ∈ lw_tbl := List.forall_mem_cons.mpr ⟨lm_240, kwGB_447⟩
theorem kwGB_445 : ∀ w ∈ wtGB_445, w ∈ lw_tbl := List.forall_mem_cons.mpr ⟨lm_626, kwGB_446⟩
theorem kwGB_444 : ∀ w ∈ wtGB_444, w ∈ lw_tbl := List.forall_mem_cons.mpr ⟨lm_627, kwGB_445⟩
theorem kwGB_443 : ∀ w ∈ wtGB_443, w ∈ lw_tbl := List.forall_mem_cons.mpr ⟨lm_628, kwGB_444⟩
theorem kwGB_442 : ∀ w ∈ wtGB_442, w ∈ lw_tbl := List.forall_mem_cons.mpr ⟨lm_230, kwGB_443⟩
theorem kwGB_441 : ∀ w ∈ wtGB_441, w ∈ lw_tbl := List.forall_mem_cons.mpr ⟨lm_233, kwGB_442⟩
theorem kwGB_440 : ∀ w ∈ wtGB_440, w ∈ lw_tbl := List.forall_mem_cons.mpr ⟨lm_232, kwGB_441⟩
theorem kwGB_439 : ∀ w ∈ wtGB_439, w ∈ lw_tbl := List.forall_mem_cons.mpr ⟨lm_222, kwGB_440⟩
theorem kwGB_438 : ∀ w ∈ wtGB_438, w ∈ lw_tbl := List.forall_mem_cons.mpr ⟨lm_225, kwGB_439⟩
theorem kwGB_437 : ∀ w ∈ wtGB_437, w ∈ lw_tbl := List.forall_mem_cons.mpr ⟨lm_224, kwGB_438⟩
theorem kwGB_436 : ∀ w ∈ wtGB_436, w ∈ lw_tbl := List.forall_mem_cons.mpr ⟨lm_1305, kwGB_437⟩
theorem kwGB_435 : ∀ w ∈ wtGB_435, w ∈ lw_tbl := List.forall_mem_cons.mpr ⟨lm_1306, kwGB_436⟩
theorem kwGB_434 : ∀ w ∈ wtGB_434, w ∈ lw_tbl := List.forall_mem_cons.mpr ⟨lm_1307, kwGB_435⟩
theorem kwGB_433 : ∀ w ∈ wtGB_433, w ∈ lw_tbl := List.forall_mem_cons.mpr ⟨lm_1308, kwGB_434⟩
theorem kwGB_432 : ∀ w ∈ wtGB_432, w ∈ lw_tbl := List.forall_mem_cons.mpr ⟨lm_214, kwGB_433⟩
theorem kwGB_431 : ∀ w ∈ wtGB_431, w ∈ lw_tbl := List.forall_mem_cons.mpr ⟨lm_217, kwGB_432⟩
theorem kwGB_430 : ∀ w ∈ wtGB_430, w ∈ lw_tbl := List.forall_mem_cons.mpr ⟨lm_216, kwGB_431⟩
theorem kwGB_429 : ∀ w ∈ wtGB_429, w ∈ lw_tbl := List.forall_mem_cons.mpr ⟨lm_206, kwGB_430⟩
theorem kwGB_428 : ∀ w ∈ wtGB_428, w ∈ lw_tbl := List.forall_mem_cons.mpr ⟨lm_209, kwGB_429⟩
theorem kwGB_427 : ∀ w ∈ wtGB_427, w ∈ lw_tbl := List.forall_mem_cons.mpr ⟨lm_208, kwGB_428⟩
theorem kwGB_426 : ∀ w ∈ wtGB_426, w ∈ lw_tbl := List.forall_mem_cons.mpr ⟨lm_1309, kwGB_427⟩
theorem kwGB_425 : ∀ w ∈ wtGB_425, w ∈ lw_tbl := List.forall_mem_cons.mpr ⟨lm_1310, kwGB_426⟩
theorem kwGB_424 : ∀ w ∈ wtGB_424, w ∈ lw_tbl := List.forall_mem_cons.mpr ⟨lm_1311, kwGB_425⟩
theorem kwGB_423 : ∀ w ∈ wtGB_423, w ∈ lw_tbl := List.forall_mem_cons.mpr ⟨lm_1312, kwGB_424⟩
theorem kwGB_422 : ∀ w ∈ wtGB_422, w ∈ lw_tbl := List.forall_mem_cons.mpr ⟨lm_1313, kwGB_423⟩
theorem kwGB_421 : ∀ w ∈ wtGB_421, w ∈ lw_tbl := List.forall_mem_cons.mpr ⟨lm_1314, kwGB_422⟩
theorem kwGB_420 : ∀ w ∈ wtGB_420, w ∈ lw_tbl := List.forall_mem_cons.mpr ⟨lm_1315, kwGB_421⟩
theorem kwGB_419 : ∀ w ∈ wtGB_419, w ∈ lw_tbl := List.forall_mem_cons.mpr ⟨lm_1316, kwGB_420⟩
theorem kwGB_418 : ∀ w ∈ wtGB_418, w ∈ lw_tbl := List.forall_mem_cons.mpr ⟨lm_1317, kwGB_419⟩
theorem kwGB_417 : ∀ w ∈ wtGB_417, w ∈ lw_tbl := List.forall_mem_cons.mpr ⟨lm_1318, kwGB_418⟩
theorem kwGB_416 : ∀ w ∈ wtGB_416, w ∈ lw_tbl := List.forall_mem_cons.mpr ⟨lm_1319, kwGB_417⟩
theorem kwGB_415 : ∀ w ∈ wtGB_415, w ∈ lw_tbl := List.forall_mem_cons.mpr ⟨lm_1320, kwGB_416⟩
theorem kwGB_414 : ∀ w ∈ wtGB_414, w ∈ lw_tbl := List.forall_mem_cons.mpr ⟨lm_198, kwGB_415⟩
theorem kwGB_413 : ∀ w ∈ wtGB_413, w ∈ lw_tbl := List.forall_mem_cons.mpr ⟨lm_201, kwGB_414⟩
theorem kwGB_412 : ∀ w ∈ wtGB_412, w ∈ lw_tbl := List.forall_mem_cons.mpr ⟨lm_200, kwGB_413⟩
theorem kwGB_411 : ∀ w ∈ wtGB_411, w ∈ lw_tbl := List.forall_mem_cons.mpr ⟨lm_1321, kwGB_412⟩
theorem kwGB_410 : ∀ w ∈ wtGB_410, w ∈ lw_tbl := List.forall_mem_cons.mpr ⟨lm_190, kwGB_411⟩
theorem kwGB_409 : ∀ w ∈ wtGB_409, w ∈ lw_tbl := List.forall_mem_cons.mpr ⟨lm_193, kwGB_410⟩
theorem kwGB_408 : ∀ w ∈ wtGB_408, w ∈ lw_tbl := List.forall_mem_cons.mpr ⟨lm_192, kwGB_409⟩
theorem kwGB_407 : ∀ w ∈ wtGB_407, w ∈ lw_tbl := List.forall_mem_cons.mpr ⟨lm_182, kwGB_408⟩
theorem kwGB_406 : ∀ w ∈ wtGB_406, w ∈ lw_tbl := List.forall_mem_cons.mpr ⟨lm_185, kwGB_407⟩
theorem kwGB_405 : ∀ w ∈ wtGB_405, w ∈ lw_tbl := List.forall_mem_cons.mpr ⟨lm_184, kwGB_406⟩
theorem kwGB_404 : ∀ w ∈ wtGB_404, w ∈ lw_tbl := List.forall_mem_cons.mpr ⟨lm_1322, kwGB_405⟩
theorem kwGB_403 : ∀ w ∈ wtGB_403, w ∈ lw_tbl := List.forall_mem_cons.mpr ⟨lm_1323, kwGB_404⟩
theorem kwGB_402 : ∀ w ∈ wtGB_402, w ∈ lw_tbl := List.forall_mem_cons.mpr ⟨lm_1324, kwGB_403⟩
theorem kwGB_401 : ∀ w ∈ wtGB_401, w ∈ lw_tbl := List.forall_mem_cons.mpr ⟨lm_1325, kwGB_402⟩
theorem kwGB_400 : ∀ w ∈ wtGB_400, w ∈ lw_tbl := List.forall_mem_cons.mpr ⟨lm_1326, kwGB_401⟩
theorem kwGB_399 : ∀ w ∈ wtGB_399, w ∈ lw_tbl := List.forall_mem_cons.mpr ⟨lm_174, kwGB_400⟩
theorem kwGB_398 : ∀ w ∈ wtGB_398, w ∈ lw_tbl := List.forall_mem_cons.mpr ⟨lm_177, kwGB_399⟩
theorem kwGB_397 : ∀ w ∈ wtGB_397, w ∈ lw_tbl := List.forall_mem_cons.mpr ⟨lm_176, kwGB_398⟩
theorem kwGB_396 : ∀ w ∈ wtGB_396, w ∈ lw_tbl := List.forall_mem_cons.mpr ⟨lm_166, kwGB_397⟩
theorem kwGB_395 : ∀ w ∈ wtGB_395, w ∈ lw_tbl := List.forall_mem_cons.mpr ⟨lm_169, kwGB_396⟩
theorem kwGB_394 : ∀ w ∈ wtGB_394, w ∈ lw_tbl := List.forall_mem_cons.mpr ⟨lm_168, kwGB_395⟩
theorem kwGB_393 : ∀ w ∈ wtGB_393, w ∈ lw_tbl := List.forall_mem_cons.mpr ⟨lm_158, kwGB_394⟩
theorem kwGB_392 : ∀ w ∈ wtGB_392, w ∈ lw_tbl := List.forall_mem_cons.mpr ⟨lm_161, kwGB_393⟩
theorem kwGB_391 : ∀ w ∈ wtGB_391, w ∈ lw_tbl := List.forall_mem_cons.mpr ⟨lm_160, kwGB_392⟩
theorem kwGB_390 : ∀ w ∈ wtGB_390, w ∈ lw_tbl := List.forall_mem_cons.mpr ⟨lm_1327, kwGB_391⟩
theorem kwGB_389 : ∀ w ∈ wtGB_389, w ∈ lw_tbl := List.forall_mem_cons.mpr ⟨lm_1328, kwGB_390⟩
theorem kwGB_388 : ∀ w ∈ wtGB_388, w ∈ lw_tbl := List.forall_mem_cons.mpr ⟨lm_1329, kwGB_389⟩
theorem kwGB_387 : ∀ w ∈ wtGB_387, w ∈ lw_tbl := List.forall_mem_cons.mpr ⟨lm_1330, kwGB_388⟩
theorem kwGB_386 : ∀ w ∈ wtGB_386, w ∈ lw_tbl := List.forall_mem_cons.mpr ⟨lm_150, kwGB_387⟩
theorem kwGB_385 : ∀ w ∈ wtGB_385, w ∈ lw_tbl := List.forall_mem_cons.mpr ⟨lm_153, kwGB_386⟩
theorem kwGB_384 : ∀ w ∈ wtGB_384, w ∈ lw_tbl := List.forall_mem_cons.mpr ⟨lm_152, kwGB_385⟩
theorem kwGB_383 : ∀ w ∈ wtGB_383, w ∈ lw_tbl := List.forall_mem_cons.mpr ⟨lm_142, kwGB_384⟩
theorem kwGB_382 : ∀ w ∈ wtGB_382, w ∈ lw_tbl := List.forall_mem_cons.mpr ⟨lm_145, kwGB_383⟩
theorem kwGB_381 : ∀ w ∈ wtGB_381, w ∈ lw_tbl := List.forall_mem_cons.mpr ⟨lm_144, kwGB_382⟩
theorem kwGB_380 : ∀ w ∈ wtGB_380, w ∈ lw_tbl := List.forall_mem_cons.mpr ⟨lm_1331, kwGB_381⟩
theorem kwGB_379 : ∀ w ∈ wtGB_379, w ∈ lw_tbl := List.forall_mem_cons.mpr ⟨lm_1332, kwGB_380⟩
theorem kwGB_378 : ∀ w ∈ wtGB_378, w ∈ lw_tbl := List.forall_mem_cons.mpr ⟨lm_1333, kwGB_379⟩
theorem kwGB_377 : ∀ w ∈ wtGB_377, w ∈ lw_tbl := List.forall_mem_cons.mpr ⟨lm_1334, kwGB_378⟩
theorem kwGB_376 : ∀ w ∈ wtGB_376, w ∈ lw_tbl := List.forall_mem_cons.mpr ⟨lm_1335, kwGB_377⟩
theorem kwGB_375 : ∀ w ∈ wtGB_375, w ∈ lw_tbl := List.forall_mem_cons.mpr ⟨lm_1336, kwGB_376⟩
theorem kwGB_374 : ∀ w ∈ wtGB_374, w ∈ lw_tbl := List.forall_mem_cons.mpr ⟨lm_1337, kwGB_375⟩
theorem kwGB_373 : ∀ w ∈ wtGB_373, w ∈ lw_tbl := List.forall_mem_cons.mpr ⟨lm_1338, kwGB_374⟩
theorem kwGB_372 : ∀ w ∈ wtGB_372, w ∈ lw_tbl := List.forall_mem_cons.mpr ⟨lm_1339, kwGB_373⟩
theorem kwGB_371 : ∀ w ∈ wtGB_371, w ∈ lw_tbl := List.forall_mem_cons.mpr ⟨lm_1340, kwGB_372⟩
theorem kwGB_370 : ∀ w ∈ wtGB_370, w ∈ lw_tbl := List.forall_mem_cons.mpr ⟨lm_1341, kwGB_371⟩
theorem kwGB_369 : ∀ w ∈ wtGB_369, w ∈ lw_tbl := List.forall_mem_cons.mpr ⟨lm_1342, kwGB_370⟩
theorem kwGB_368 : ∀ w ∈ wtGB_368, w ∈ lw_tbl := List.forall_mem_cons.mpr ⟨lm_134, kwGB_369⟩
theorem kwGB_367 : ∀ w ∈ wtGB_367, w ∈ lw_tbl := List.forall_mem_cons.mpr ⟨lm_137, kwGB_368⟩
theorem kwGB_366 : ∀ w ∈ wtGB_366, w ∈ lw_tbl := List.forall_mem_cons.mpr ⟨lm_136, kwGB_367⟩
theorem kwGB_365 : ∀ w ∈ wtGB_365, w ∈ lw_tbl := List.forall_mem_cons.mpr ⟨lm_1343, kwGB_366⟩
theorem kwGB_364 : ∀ w ∈ wtGB_364, w ∈ lw_tbl := List.forall_mem_cons.mpr ⟨lm_1344, kwGB_365⟩
theorem kwGB_363 : ∀ w ∈ wtGB_363, w ∈ lw_tbl := List.forall_mem_cons.mpr ⟨lm_1345, kwGB_364⟩
theorem kwGB_362 : ∀ w ∈ wtGB_362, w ∈ lw_tbl := List.forall_mem_cons.mpr ⟨lm_1346, kwGB_363⟩
theorem kwGB_361 : ∀ w ∈ wtGB_361, w ∈ lw_tbl := List.forall_mem_cons.mpr ⟨lm_1347, kwGB_362⟩
theorem kwGB_360 : ∀ w ∈ wtGB_360, w ∈ lw_tbl := List.forall_mem_cons.mpr ⟨lm_1348, kwGB_361⟩
theorem kwGB_359 : ∀ w ∈ wtGB_359, w ∈ lw_tbl := List.forall_mem_cons.mpr ⟨lm_1349, kwGB_360⟩
theorem kwGB_358 : ∀ w ∈ wtGB_358, w ∈ lw_tbl := List.forall_mem_cons.mpr ⟨lm_1350, kwGB_359⟩
theorem kwGB_357 : ∀ w ∈ wtGB_357, w ∈ lw_tbl := List.forall_mem_cons.mpr ⟨lm_1351, kwGB_358⟩
theorem kwGB_356 : ∀ w ∈ wtGB_356, w ∈ lw_tbl := List.forall_mem_cons.mpr ⟨lm_1352, kwGB_357⟩
theorem kwGB_355 : ∀ w ∈ wtGB_355, w ∈ lw_tbl := List.forall_mem_cons.mpr ⟨lm_1353, kwGB_356⟩
theorem kwGB_354 : ∀ w ∈ wtGB_354, w ∈ lw_tbl := List.forall_mem_cons.mpr ⟨lm_1354, kwGB_355⟩
theorem kwGB_353 : ∀ w ∈ wtGB_353, w ∈ lw_tbl := List.forall_mem_cons.mpr ⟨lm_126, kwGB_354⟩
theorem kwGB_352 : ∀ w ∈ wtGB_352, w ∈ lw_tbl := List.forall_mem_cons.mpr ⟨lm_129, kwGB_353⟩
theorem kwGB_351 : ∀ w ∈ wtGB_351, w ∈ lw_tbl := List.forall_mem_cons.mpr ⟨lm_128, kwGB_352⟩
theorem kwGB_350 : ∀ w ∈ wtGB_350, w ∈ lw_tbl := List.forall_mem_cons.mpr ⟨lm_118, kwGB_351⟩
theorem kwGB_349 : ∀ w ∈ wtGB_349, w ∈ lw_tbl := List.forall_mem_cons.mpr ⟨lm_121, kwGB_350⟩
theorem kwGB_348 : ∀ w ∈ wtGB_348, w ∈ lw_tbl := List.forall_mem_cons.mpr ⟨lm_120, kwGB_349⟩
theorem kwGB_347 : ∀ w ∈ wtGB_347, w ∈ lw_tbl := List.forall_mem_cons.mpr ⟨lm_725, kwGB_348⟩
theorem kwGB_346 : ∀ w ∈ wtGB_346, w ∈ lw_tbl := List.forall_mem_cons.mpr ⟨lm_726, kwGB_347⟩
theorem kwGB_345 : ∀ w ∈ wtGB_345, w ∈ lw_tbl := List.forall_mem_cons.mpr ⟨lm_727, kwGB_346⟩
theorem kwGB_344 : ∀ w ∈ wtGB_344, w ∈ lw_tbl := List.forall_mem_cons.mpr ⟨lm_110, kwGB_345⟩
theorem kwGB_343 : ∀ w ∈ wtGB_343, w ∈ lw_tbl := List.forall_mem_cons.mpr ⟨lm_113, kwGB_344⟩
theorem kwGB_342 : ∀ w ∈ wtGB_342, w ∈ lw_tbl := List.forall_mem_cons.mpr ⟨lm_112, kwGB_343⟩
theorem kwGB_341 : ∀ w ∈ wtGB_341, w ∈ lw_tbl := List.forall_mem_cons.mpr ⟨lm_1355, kwGB_342⟩
theorem kwGB_340 : ∀ w ∈ wtGB_340, w ∈ lw_tbl := List.forall_mem_cons.mpr ⟨lm_1356, kwGB_341⟩
theorem kwGB_339 : ∀ w ∈ wtGB_339, w ∈ lw_tbl := List.forall_mem_cons.mpr ⟨lm_1357, kwGB_340⟩
theorem kwGB_338 : ∀ w ∈ wtGB_338, w ∈ lw_tbl := List.forall_mem_cons.mpr ⟨lm_1358, kwGB_339⟩
theorem kwGB_337 : ∀ w ∈ wtGB_337, w ∈ lw_tbl := List.forall_mem_cons.mpr ⟨lm_102, kwGB_338⟩
theorem kwGB_336 : ∀ w ∈ wtGB_336, w ∈ lw_tbl := List.forall_mem_cons.mpr ⟨lm_105, kwGB_337⟩
theorem kwGB_335 : ∀ w ∈ wtGB_335, w ∈ lw_tbl := List.forall_mem_cons.mpr ⟨lm_104, kwGB_336⟩
theorem kwGB_334 : ∀ w ∈ wtGB_334, w ∈ lw_tbl := List.forall_mem_cons.mpr ⟨lm_94, kwGB_335⟩
theorem kwGB_333 : ∀ w ∈ wtGB_333, w ∈ lw_tbl := List.forall_mem_cons.mpr ⟨lm_97, kwGB_334⟩
theorem kwGB_332 : ∀ w ∈ wtGB_332, w ∈ lw_tbl := List.forall_mem_cons.mpr ⟨lm_96, kwGB_333⟩
theorem kwGB_331 : ∀ w ∈ wtGB_331, w ∈ lw_tbl := List.forall_mem_cons.mpr ⟨lm_1359, kwGB_332⟩
theorem kwGB_330 : ∀ w ∈ wtGB_330, w ∈ lw_tbl := List.forall_mem_cons.mpr ⟨lm_1360, kwGB_331⟩
theorem kwGB_329 : ∀ w ∈ wtGB_329, w ∈ lw_tbl := List.forall_mem_cons.mpr ⟨lm_1361, kwGB_330⟩
theorem kwGB_328 : ∀ w ∈ wtGB_328, w ∈ lw_tbl := List.forall_mem_cons.mpr ⟨lm_1362, kwGB_329⟩
theorem kwGB_327 : ∀ w ∈ wtGB_327, w ∈ lw_tbl := List.forall_mem_cons.mpr ⟨lm_1363, kwGB_328⟩
theorem kwGB_326 : ∀ w ∈ wtGB_326, w ∈ lw_tbl := List.forall_mem_cons.mpr ⟨lm_86, kwGB_327⟩
theorem kwGB_325 : ∀ w ∈ wtGB_325, w ∈ lw_tbl := List.forall_mem_cons.mpr ⟨lm_89, kwGB_326⟩
theorem kwGB_324 : ∀ w ∈ wtGB_324, w ∈ lw_tbl := List.forall_mem_cons.mpr ⟨lm_88, kwGB_325⟩
theorem kwGB_323 : ∀ w ∈ wtGB_323, w ∈ lw_tbl := List.forall_mem_cons.mpr ⟨lm_754, kwGB_324⟩
theorem kwGB_322 : ∀ w ∈ wtGB_322, w ∈ lw_tbl := List.forall_mem_cons.mpr ⟨lm_755, kwGB_323⟩
theorem kwGB_321 : ∀ w ∈ wtGB_321, w ∈ lw_tbl := List.forall_mem_cons.mpr ⟨lm_756, kwGB_322⟩
theorem kwGB_320 : ∀ w ∈ wtGB_320, w ∈ lw_tbl := List.forall_mem_cons.mpr ⟨lm_757, kwGB_321⟩
theorem kwGB_319 : ∀ w ∈ wtGB_319, w ∈ lw_tbl := List.forall_mem_cons.mpr ⟨lm_758, kwGB_320⟩
theorem kwGB_318 : ∀ w ∈ wtGB_318, w ∈ lw_tbl := List.forall_mem_cons.mpr ⟨lm_759, kwGB_319⟩
theorem kwGB_317 : ∀ w ∈ wtGB_317, w ∈ lw_tbl := List.forall_mem_cons.mpr ⟨lm_1364, kwGB_318⟩
theorem kwGB_316 : ∀ w ∈ wtGB_316, w ∈ lw_tbl := List.forall_mem_cons.mpr ⟨lm_1365, kwGB_317⟩
theorem kwGB_315 : ∀ w ∈ wtGB_315, w ∈ lw_tbl := List.forall_mem_cons.mpr ⟨lm_1366, kwGB_316⟩
theorem kwGB_314 : ∀ w ∈ wtGB_314, w ∈ lw_tbl := List.forall_mem_cons.mpr ⟨lm_1367, kwGB_315⟩
theorem kwGB_313 : ∀ w ∈ wtGB_313, w ∈ lw_tbl := List.forall_mem_cons.mpr ⟨lm_1368, kwGB_314⟩
theorem kwGB_312 : ∀ w ∈ wtGB_312, w ∈ lw_tbl := List.forall_mem_cons.mpr ⟨lm_1369, kwGB_313⟩
theorem kwGB_311 : ∀ w ∈ wtGB_311, w ∈ lw_tbl := List.forall_mem_cons.mpr ⟨lm_1370, kwGB_312⟩
theorem kwGB_310 : ∀ w ∈ wtGB_310, w ∈ lw_tbl := List.forall_mem_cons.mpr ⟨lm_1371, kwGB_311⟩
theorem kwGB_309 : ∀ w ∈ wtGB_309, w ∈ lw_tbl := List.forall_mem_cons.mpr ⟨lm_1372, kwGB_310⟩
theorem kwGB_308 : ∀ w ∈ wtGB_308, w ∈ lw_tbl := List.forall_mem_cons.mpr ⟨lm_1373, kwGB_309⟩
theorem kwGB_307 : ∀ w ∈ wtGB_307, w ∈ lw_tbl := List.forall_mem_cons.mpr ⟨lm_1374, kwGB_308⟩
theorem kwGB_306 : ∀ w ∈ wtGB_306, w ∈ lw_tbl := List.forall_mem_cons.mpr ⟨lm_1375, kwGB_307⟩
theorem kwGB_305 : ∀ w ∈ wtGB_305, w ∈ lw_tbl := List.forall_mem_cons.mpr ⟨lm_1376, kwGB_306⟩
theorem kwGB_304 : ∀ w ∈ wtGB_304, w ∈ lw_tbl := List.forall_mem_cons.mpr ⟨lm_1377, kwGB_305⟩
theorem kwGB_303 : ∀ w ∈ wtGB_303, w ∈ lw_tbl := List.forall_mem_cons.mpr ⟨lm_1378, kwGB_304⟩
theorem kwGB_302 : ∀ w ∈ wtGB_302, w ∈ lw_tbl := List.forall_mem_cons.mpr ⟨lm_1379, kwGB_303⟩
theorem kwGB_301 : ∀ w ∈ wtGB_301, w ∈ lw_tbl := List.forall_mem_cons.mpr ⟨lm_1380, kwGB_302⟩
theorem kwGB_300 : ∀ w ∈ wtGB_300, w ∈ lw_tbl := List.forall_mem_cons.mpr ⟨lm_1381, kwGB_301⟩
theorem kwGB_299 : ∀ w ∈ wtGB_299, w ∈ lw_tbl := List.forall_mem_cons.mpr ⟨lm_1382, kwGB_300⟩
theorem kwGB_298 : ∀ w ∈ wtGB_298, w ∈ lw_tbl := List.forall_mem_cons.mpr ⟨lm_1383, kwGB_299⟩
theorem kwGB_297 : ∀ w ∈ wtGB_297, w ∈ lw_tbl := List.forall_mem_cons.mpr ⟨lm_1384, kwGB_298⟩
theorem kwGB_296 : ∀ w ∈ wtGB_296, w ∈ lw_tbl := List.forall_mem_cons.mpr ⟨lm_1385, kwGB_297⟩
theorem kwGB_295 : ∀ w ∈ wtGB_295, w ∈ lw_tbl := List.forall_mem_cons.mpr ⟨lm_1386, kwGB_296⟩
theorem kwGB_294 : ∀ w ∈ wtGB_294, w ∈ lw_tbl := List.forall_mem_cons.mpr ⟨lm_1387, kwGB_295⟩
theorem kwGB_293 : ∀ w ∈ wtGB_293, w ∈ lw_tbl := List.forall_mem_cons.mpr ⟨lm_1388, kwGB_294⟩
theorem kwGB_292 : ∀ w ∈ wtGB_292, w ∈ lw_tbl := List.forall_mem_cons.mpr ⟨lm_1389, kwGB_293⟩
theorem kwGB_291 : ∀ w ∈ wtGB_291, w ∈ lw_tbl := List.forall_mem_cons.mpr ⟨lm_1390, kwGB_292⟩
theorem kwGB_290 : ∀ w ∈ wtGB_290, w ∈ lw_tbl := List.forall_mem_cons.mpr ⟨lm_1391, kwGB_291⟩
theorem kwGB_289 : ∀ w ∈ wtGB_289, w ∈ lw_tbl := List.forall_mem_cons.mpr ⟨lm_1392, kwGB_290⟩
theorem kwGB_288 : ∀ w ∈ wtGB_288, w ∈ lw_tbl := List.forall_mem_cons.mpr ⟨lm_1393, kwGB_289⟩
theorem kwGB_287 : ∀ w ∈ wtGB_287, w ∈ lw_tbl := List.forall_mem_cons.mpr ⟨lm_1394, kwGB_288⟩
theorem kwGB_286 : ∀ w ∈ wtGB_286, w ∈ lw_tbl := List.forall_mem_cons.mpr ⟨lm_1395, kwGB_287⟩
theorem kwGB_285 : ∀ w ∈ wtGB_285, w ∈ lw_tbl := List.forall_mem_cons.mpr ⟨lm_1396, kwGB_286⟩
theorem kwGB_284 : ∀ w ∈ wtGB_284, w ∈ lw_tbl := List.forall_mem_cons.mpr ⟨lm_1397, kwGB_285⟩
theorem kwGB_283 : ∀ w ∈ wtGB_283, w ∈ lw_tbl := List.forall_mem_cons.mpr ⟨lm_1398, kwGB_284⟩
theorem kwGB_282 : ∀ w ∈ wtGB_282, w ∈ lw_tbl := List.forall_mem_cons.mpr ⟨lm_1399, kwGB_283⟩
theorem kwGB_281 : ∀ w ∈ wtGB_281, w ∈ lw_tbl := List.forall_mem_cons.mpr ⟨lm_1400, kwGB_282⟩
theorem kwGB_280 : ∀ w ∈ wtGB_280, w ∈ lw_tbl := List.forall_mem_cons.mpr ⟨lm_1401, kwGB_281⟩
theorem kwGB_279 : ∀ w ∈ wtGB_279, w ∈ lw_tbl := List.forall_mem_cons.mpr ⟨lm_1402, kwGB_280⟩
theorem kwGB_278 : ∀ w ∈ wtGB_278, w ∈ lw_tbl := List.forall_mem_cons.mpr ⟨lm_1403, kwGB_279⟩
theorem kwGB_277 : ∀ w ∈ wtGB_277, w ∈ lw_tbl := List.forall_mem_cons.mpr ⟨lm_1404, kwGB_278⟩
theorem kwGB_276 : ∀ w ∈ wtGB_276, w ∈ lw_tbl := List.forall_mem_cons.mpr ⟨lm_1405, kwGB_277⟩
theorem kwGB_275 : ∀ w ∈ wtGB_275, w ∈ lw_tbl := List.forall_mem_cons.mpr ⟨lm_1406, kwGB_276⟩
theorem kwGB_274 : ∀ w ∈ wtGB_274, w ∈ lw_tbl := List.forall_mem_cons.mpr ⟨lm_1407, kwGB_275⟩
theorem kwGB_273 : ∀ w ∈ wtGB_273, w ∈ lw_tbl := List.forall_mem_cons.mpr ⟨lm_1408, kwGB_274⟩
theorem kwGB_272 : ∀ w ∈ wtGB_272, w ∈ lw_tbl := List.forall_mem_cons.mpr ⟨lm_1409, kwGB_273⟩
theorem kwGB_271 : ∀ w ∈ wtGB_271, w ∈ lw_tbl := List.forall_mem_cons.mpr ⟨lm_1410, kwGB_272⟩
theorem kwGB_270 : ∀ w ∈ wtGB_270, w ∈ lw_tbl := List.forall_mem_cons.mpr ⟨lm_1411, kwGB_271⟩
theorem kwGB_269 : ∀ w ∈ wtGB_269, w ∈ lw_tbl := List.forall_mem_cons.mpr ⟨lm_1412, kwGB_270⟩
theorem kwGB_268 : ∀ w ∈ wtGB_268, w ∈ lw_tbl := List.forall_mem_cons.mpr ⟨lm_1413, kwGB_269⟩
theorem kwGB_267 : ∀ w ∈ wtGB_267, w ∈ lw_tbl := List.forall_mem_cons.mpr ⟨lm_1414, kwGB_268⟩
theorem kwGB_266 : ∀ w ∈ wtGB_266, w ∈ lw_tbl := List.forall_mem_cons.mpr ⟨lm_1415, kwGB_267⟩
theorem kwGB_265 : ∀ w ∈ wtGB_265, w ∈ lw_tbl := List.forall_mem_cons.mpr ⟨lm_1416, kwGB_266⟩
theorem kwGB_264 : ∀ w ∈ wtGB_264, w ∈ lw_tbl := List.forall_mem_cons.mpr ⟨lm_1417, kwGB_265⟩
theorem kwGB_263 : ∀ w ∈ wtGB_263, w ∈ lw_tbl := List.forall_mem_cons.mpr ⟨lm_1418, kwGB_264⟩
theorem kwGB_262 : ∀ w ∈ wtGB_262, w ∈ lw_tbl := List.forall_mem_cons.mpr ⟨lm_1419, kwGB_263⟩
theorem kwGB_261 : ∀ w ∈ wtGB_261, w ∈ lw_tbl := List.forall_mem_cons.mpr ⟨lm_1420, kwGB_262⟩
theorem kwGB_260 : ∀ w ∈ wtGB_260, w ∈ lw_tbl := List.forall_mem_cons.mpr ⟨lm_1421, kwGB_261⟩
theorem kwGB_259 : ∀ w ∈ wtGB_259, w ∈ lw_tbl := List.forall_mem_cons.mpr ⟨lm_1422, kwGB_260⟩
theorem kwGB_258 : ∀ w ∈ wtGB_258, w ∈ lw_tbl := List.forall_mem_cons.mpr ⟨lm_1423, kwGB_259⟩
theorem kwGB_257 : ∀ w ∈ wtGB_257, w ∈ lw_tbl := List.forall_mem_cons.mpr ⟨lm_1424, kwGB_258⟩
theorem kwGB_256 : ∀ w ∈ wtGB_256, w ∈ lw_tbl := List.forall_mem_cons.mpr ⟨lm_1425, kwGB_257⟩
theorem kwGB_255 : ∀ w ∈ wtGB_255, w ∈ lw_tbl := List.forall_mem_cons.mpr ⟨lm_78, kwGB_256⟩
theorem kwGB_254 : ∀ w ∈ wtGB_254, w ∈ lw_tbl := List.forall_mem_cons.mpr ⟨lm_81, kwGB_255⟩
theorem kwGB_253 : ∀ w ∈ wtGB_253, w ∈ lw_tbl := List.forall_mem_cons.mpr ⟨lm_80, kwGB_254⟩
theorem kwGB_252 : ∀ w ∈ wtGB_252, w ∈ lw_tbl := List.forall_mem_cons.mpr ⟨lm_1426, kwGB_253⟩
theorem kwGB_251 : ∀ w ∈ wtGB_251, w ∈ lw_tbl := List.forall_mem_cons.mpr ⟨lm_1427, kwGB_252⟩
theorem kwGB_250 : ∀ w ∈ wtGB_250, w ∈ lw_tbl := List.forall_mem_cons.mpr ⟨lm_1428, kwGB_251⟩
theorem kwGB_249 : ∀ w ∈ wtGB_249, w ∈ lw_tbl := List.forall_mem_cons.mpr ⟨lm_1429, kwGB_250⟩
theorem kwGB_248 : ∀ w ∈ wtGB_248, w ∈ lw_tbl := List.forall_mem_cons.mpr ⟨lm_70, kwGB_249⟩
theorem kwGB_247 : ∀ w ∈ wtGB_247, w ∈ lw_tbl := List.forall_mem_cons.mpr ⟨lm_73, kwGB_248⟩
theorem kwGB_246 : ∀ w ∈ wtGB_246, w ∈ lw_tbl := List.forall_mem_cons.mpr ⟨lm_72, kwGB_247⟩
theorem kwGB_245 : ∀ w ∈ wtGB_245, w ∈ lw_tbl := List.forall_mem_cons.mpr ⟨lm_1430, kwGB_246⟩
theorem kwGB_244 : ∀ w ∈ wtGB_244, w ∈ lw_tbl := List.forall_mem_cons.mpr ⟨lm_1431, kwGB_245⟩
theorem kwGB_243 : ∀ w ∈ wtGB_243, w ∈ lw_tbl := List.forall_mem_cons.mpr ⟨lm_1432, kwGB_244⟩
theorem kwGB_242 : ∀ w ∈ wtGB_242, w ∈ lw_tbl := List.forall_mem_cons.mpr ⟨lm_1433, kwGB_243⟩
theorem kwGB_241 : ∀ w ∈ wtGB_241, w ∈ lw_tbl := List.forall_mem_cons.mpr ⟨lm_62, kwGB_242⟩
theorem kwGB_240 : ∀ w ∈ wtGB_240, w ∈ lw_tbl := List.forall_mem_cons.mpr ⟨lm_65, kwGB_241⟩
theorem kwGB_239 : ∀ w ∈ wtGB_239, w ∈ lw_tbl := List.forall_mem_cons.mpr ⟨lm_64, kwGB_240⟩
theorem kwGB_238 : ∀ w ∈ wtGB_238, w ∈ lw_tbl := List.forall_mem_cons.mpr ⟨lm_1434, kwGB_239⟩
theorem kwGB_237 : ∀ w ∈ wtGB_237, w ∈ lw_tbl := List.forall_mem_cons.mpr ⟨lm_1435, kwGB_238⟩
theorem kwGB_236 : ∀ w ∈ wtGB_236, w ∈ lw_tbl := List.forall_mem_cons.mpr ⟨lm_1436, kwGB_237⟩
theorem kwGB_235 : ∀ w ∈ wtGB_235, w ∈ lw_tbl := List.forall_mem_cons.mpr ⟨lm_1437, kwGB_236⟩
theorem kwGB_234 : ∀ w ∈ wtGB_234, w ∈ lw_tbl := List.forall_mem_cons.mpr ⟨lm_54, kwGB_235⟩
theorem kwGB_233 : ∀ w ∈ wtGB_233, w ∈ lw_tbl := List.forall_mem_cons.mpr ⟨lm_57, kwGB_234⟩
theorem kwGB_232 : ∀ w ∈ wtGB_232, w ∈ lw_tbl := List.forall_mem_cons.mpr ⟨lm_56, kwGB_233⟩
theorem kwGB_231 : ∀ w ∈ wtGB_231, w ∈ lw_tbl := List.forall_mem_cons.mpr ⟨lm_1438, kwGB_232⟩
theorem kwGB_230 : ∀ w ∈ wtGB_230, w ∈ lw_tbl := List.forall_mem_cons.mpr ⟨lm_1439, kwGB_231⟩
theorem kwGB_229 : ∀ w ∈ wtGB_229, w ∈ lw_tbl := List.forall_mem_cons.mpr ⟨lm_1440, kwGB_230⟩
theorem kwGB_228 : ∀ w ∈ wtGB_228, w ∈ lw_tbl := List.forall_mem_cons.mpr ⟨lm_1441, kwGB_229⟩
theorem kwGB_227 : ∀ w ∈ wtGB_227, w ∈ lw_tbl := List.forall_mem_cons.mpr ⟨lm_1442, kwGB_228⟩
theorem kwGB_226 : ∀ w ∈ wtGB_226, w ∈ lw_tbl := List.forall_mem_cons.mpr ⟨lm_1443, kwGB_227⟩
theorem kwGB_225 : ∀ w ∈ wtGB_225, w ∈ lw_tbl := List.forall_mem_cons.mpr ⟨lm_1444, kwGB_226⟩
theorem kwGB_224 : ∀ w ∈ wtGB_224, w ∈ lw_tbl := List.forall_mem_cons.mpr ⟨lm_1445, kwGB_225⟩
theorem kwGB_223 : ∀ w ∈ wtGB_223, w ∈ lw_tbl := List.forall_mem_cons.mpr ⟨lm_1446, kwGB_224⟩
theorem kwGB_222 : ∀ w ∈ wtGB_222, w ∈ lw_tbl := List.forall_mem_cons.mpr ⟨lm_46, kwGB_223⟩
theorem kwGB_221 : ∀ w ∈ wtGB_221, w ∈ lw_tbl := List.forall_mem_cons.mpr ⟨lm_49, kwGB_222⟩
theorem kwGB_220 : ∀ w ∈ wtGB_220, w ∈ lw_tbl := List.forall_mem_cons.mpr ⟨lm_48, kwGB_221⟩
theorem kwGB_219 : ∀ w ∈ wtGB_219, w ∈ lw_tbl := List.forall_mem_cons.mpr ⟨lm_1447, kwGB_220⟩
theorem kwGB_218 : ∀ w ∈ wtGB_218, w ∈ lw_tbl := List.forall_mem_cons.mpr ⟨lm_38, kwGB_219⟩
theorem kwGB_217 : ∀ w ∈ wtGB_217, w ∈ lw_tbl := List.forall_mem_cons.mpr ⟨lm_41, kwGB_218⟩
theorem kwGB_216 : ∀ w ∈ wtGB_216, w ∈ lw_tbl := List.forall_mem_cons.mpr ⟨lm_40, kwGB_217⟩
theorem kwGB_215 : ∀ w ∈ wtGB_215, w ∈ lw_tbl := List.forall_mem_cons.mpr ⟨lm_30, kwGB_216⟩
theorem kwGB_214 : ∀ w ∈ wtGB_214, w ∈ lw_tbl := List.forall_mem_cons.mpr ⟨lm_33, kwGB_215⟩
theorem kwGB_213 : ∀ w ∈ wtGB_213, w ∈ lw_tbl := List.forall_mem_cons.mpr ⟨lm_32, kwGB_214⟩
theorem kwGB_212 : ∀ w ∈ wtGB_212, w ∈ lw_tbl := List.forall_mem_cons.mpr ⟨lm_1448, kwGB_213⟩
theorem kwGB_211 : ∀ w ∈ wtGB_211, w ∈ lw_tbl := List.forall_mem_cons.mpr ⟨lm_1449, kwGB_212⟩
theorem kwGB_210 : ∀ w ∈ wtGB_210, w ∈ lw_tbl := List.forall_mem_cons.mpr ⟨lm_1450, kwGB_211⟩
theorem kwGB_209 : ∀ w ∈ wtGB_209, w ∈ lw_tbl := List.forall_mem_cons.mpr ⟨lm_1451, kwGB_210⟩
theorem kwGB_208 : ∀ w ∈ wtGB_208, w ∈ lw_tbl := List.forall_mem_cons.mpr ⟨lm_1452, kwGB_209⟩
theorem kwGB_207 : ∀ w ∈ wtGB_207, w ∈ lw_tbl := List.forall_mem_cons.mpr ⟨lm_1453, kwGB_208⟩
theorem kwGB_206 : ∀ w ∈ wtGB_206, w ∈ lw_tbl := List.forall_mem_cons.mpr ⟨lm_1454, kwGB_207⟩
theorem kwGB_205 : ∀ w ∈ wtGB_205, w ∈ lw_tbl := List.forall_mem_cons.mpr ⟨lm_1455, kwGB_206⟩
theorem kwGB_204 : ∀ w ∈ wtGB_204, w ∈ lw_tbl := List.forall_mem_cons.mpr ⟨lm_912, kwGB_205⟩
theorem kwGB_203 : ∀ w ∈ wtGB_203, w ∈ lw_tbl := List.forall_mem_cons.mpr ⟨lm_913, kwGB_204⟩
theorem kwGB_202 : ∀ w ∈ wtGB_202, w ∈ lw_tbl := List.forall_mem_cons.mpr ⟨lm_1456, kwGB_203⟩
theorem kwGB_201 : ∀ w ∈ wtGB_201, w ∈ lw_tbl := List.forall_mem_cons.mpr ⟨lm_1457, kwGB_202⟩
theorem kwGB_200 : ∀ w ∈ wtGB_200, w ∈ lw_tbl := List.forall_mem_cons.mpr ⟨lm_1458, kwGB_201⟩
theorem kwGB_199 : ∀ w ∈ wtGB_199, w ∈ lw_tbl := List.forall_mem_cons.mpr ⟨lm_1459, kwGB_200⟩
theorem kwGB_198 : ∀ w ∈ wtGB_198, w ∈ lw_tbl := List.forall_mem_cons.mpr ⟨lm_1460, kwGB_199⟩
theorem kwGB_197 : ∀ w ∈ wtGB_197, w ∈ lw_tbl := List.forall_mem_cons.mpr ⟨lm_1461, kwGB_198⟩
theorem kwGB_196 : ∀ w ∈ wtGB_196, w ∈ lw_tbl := List.forall_mem_cons.mpr ⟨lm_1462, kwGB_197⟩
theorem kwGB_195 : ∀ w ∈ wtGB_195, w ∈ lw_tbl := List.forall_mem_cons.mpr ⟨lm_1463, kwGB_196⟩
theorem kwGB_194 : ∀ w ∈ wtGB_194, w ∈ lw_tbl := List.forall_mem_cons.mpr ⟨lm_1464, kwGB_195⟩
theorem kwGB_193 : ∀ w ∈ wtGB_193, w ∈ lw_tbl := List.forall_mem_cons.mpr ⟨lm_1465, kwGB_194⟩
theorem kwGB_192 : ∀ w ∈ wtGB_192, w ∈ lw_tbl := List.forall_mem_cons.mpr ⟨lm_1466, kwGB_193⟩
theorem kwGB_191 : ∀ w ∈ wtGB_191, w ∈ lw_tbl := List.forall_mem_cons.mpr ⟨lm_1467, kwGB_192⟩
theorem kwGB_190 : ∀ w ∈ wtGB_190, w ∈ lw_tbl := List.forall_mem_cons.mpr ⟨lm_1468, kwGB_191⟩
theorem kwGB_189 : ∀ w ∈ wtGB_189, w ∈ lw_tbl := List.forall_mem_cons.mpr ⟨lm_1469, kwGB_190⟩
theorem kwGB_188 : ∀ w ∈ wtGB_188, w ∈ lw_tbl := List.forall_mem_cons.mpr ⟨lm_1470, kwGB_189⟩
theorem kwGB_187 : ∀ w ∈ wtGB_187, w ∈ lw_tbl := List.forall_mem_cons.mpr ⟨lm_1471, kwGB_188⟩
theorem kwGB_186 : ∀ w ∈ wtGB_186, w ∈ lw_tbl := List.forall_mem_cons.mpr ⟨lm_1472, kwGB_187⟩
theorem kwGB_185 : ∀ w ∈ wtGB_185, w ∈ lw_tbl := List.forall_mem_cons.mpr ⟨lm_1473, kwGB_186⟩
theorem kwGB_184 : ∀ w ∈ wtGB_184, w ∈ lw_tbl := List.forall_mem_cons.mpr ⟨lm_1474, kwGB_185⟩
theorem kwGB_183 : ∀ w ∈ wtGB_183, w ∈ lw_tbl := List.forall_mem_cons.mpr ⟨lm_1475, kwGB_184⟩
theorem kwGB_182 : ∀ w ∈ wtGB_182, w ∈ lw_tbl := List.forall_mem_cons.mpr ⟨lm_1476, kwGB_183⟩
theorem kwGB_181 : ∀ w ∈ wtGB_181, w ∈ lw_tbl := List.forall_mem_cons.mpr ⟨lm_1477, kwGB_182⟩
theorem kwGB_180 : ∀ w ∈ wtGB_180, w ∈ lw_tbl := List.forall_mem_cons.mpr ⟨lm_1478, kwGB_181⟩
theorem kwGB_179 : ∀ w ∈ wtGB_179, w ∈ lw_tbl := List.forall_mem_cons.mpr ⟨lm_1479, kwGB_180⟩
theorem kwGB_178 : ∀ w ∈ wtGB_178, w ∈ lw_tbl := List.forall_mem_cons.mpr ⟨lm_1480, kwGB_179⟩
theorem kwGB_177 : ∀ w ∈ wtGB_177, w ∈ lw_tbl := List.forall_mem_cons.mpr ⟨lm_1481, kwGB_178⟩
theorem kwGB_176 : ∀ w ∈ wtGB_176, w ∈ lw_tbl := List.forall_mem_cons.mpr ⟨lm_1482, kwGB_177⟩
theorem kwGB_175 : ∀ w ∈ wtGB_175, w ∈ lw_tbl := List.forall_mem_cons.mpr ⟨lm_1483, kwGB_176⟩
theorem kwGB_174 : ∀ w ∈ wtGB_174, w ∈ lw_tbl := List.forall_mem_cons.mpr ⟨lm_1484, kwGB_175⟩
theorem kwGB_173 : ∀ w ∈ wtGB_173, w ∈ lw_tbl := List.forall_mem_cons.mpr ⟨lm_1485, kwGB_174⟩
theorem kwGB_172 : ∀ w ∈ wtGB_172, w ∈ lw_tbl := List.forall_mem_cons.mpr ⟨lm_1486, kwGB_173⟩
theorem kwGB_171 : ∀ w ∈ wtGB_171, w ∈ lw_tbl := List.forall_mem_cons.mpr ⟨lm_1487, kwGB_172⟩
theorem kwGB_170 : ∀ w ∈ wtGB_170, w ∈ lw_tbl := List.forall_mem_cons.mpr ⟨lm_1488, kwGB_171⟩
theorem kwGB_169 : ∀ w ∈ wtGB_169, w ∈ lw_tbl := List.forall_mem_cons.mpr ⟨lm_1489, kwGB_170⟩
theorem kwGB_168 : ∀ w ∈ wtGB_168, w ∈ lw_tbl := List.forall_mem_cons.mpr ⟨lm_1490, kwGB_169⟩
theorem kwGB_167 : ∀ w ∈ wtGB_167, w ∈ lw_tbl := List.forall_mem_cons.mpr ⟨lm_1491, kwGB_168⟩
theorem kwGB_166 : ∀ w ∈ wtGB_166, w ∈ lw_tbl := List.forall_mem_cons.mpr ⟨lm_1492, kwGB_167⟩
theorem kwGB_165 : ∀ w ∈ wtGB_165, w ∈ lw_tbl := List.forall_mem_cons.mpr ⟨lm_1493, kwGB_166⟩
theorem kwGB_164 : ∀ w ∈ wtGB_164, w ∈ lw_tbl := List.forall_mem_cons.mpr ⟨lm_1494, kwGB_165⟩
theorem kwGB_163 : ∀ w ∈ wtGB_163, w ∈ lw_tbl := List.forall_mem_cons.mpr ⟨lm_1495, kwGB_164⟩
theorem kwGB_162 : ∀ w ∈ wtGB_162, w ∈ lw_tbl := List.forall_mem_cons.mpr ⟨lm_1496, kwGB_163⟩
theorem kwGB_161 : ∀ w ∈ wtGB_161, w ∈ lw_tbl := List.forall_mem_cons.mpr ⟨lm_1497, kwGB_162⟩
theorem kwGB_160 : ∀ w ∈ wtGB_160, w ∈ lw_tbl := List.forall_mem_cons.mpr ⟨lm_1498, kwGB_161⟩
theorem kwGB_159 : ∀ w ∈ wtGB_159, w ∈ lw_tbl := List.forall_mem_cons.mpr ⟨lm_1499, kwGB_160⟩
theorem kwGB_158 : ∀ w ∈ wtGB_158, w ∈ lw_tbl := List.forall_mem_cons.mpr ⟨lm_1500, kwGB_159⟩
theorem kwGB_157 : ∀ w ∈ wtGB_157, w ∈ lw_tbl := List.forall_mem_cons.mpr ⟨lm_1501, kwGB_158⟩
theorem kwGB_156 : ∀ w ∈ wtGB_156, w ∈ lw_tbl := List.forall_mem_cons.mpr ⟨lm_1502, kwGB_157⟩
theorem kwGB_155 : ∀ w ∈ wtGB_155, w ∈ lw_tbl := List.forall_mem_cons.mpr ⟨lm_1503, kwGB_156⟩
theorem kwGB_154 : ∀ w ∈ wtGB_154, w ∈ lw_tbl := List.forall_mem_cons.mpr ⟨lm_1504, kwGB_155⟩
theorem kwGB_153 : ∀ w ∈ wtGB_153, w ∈ lw_tbl := List.forall_mem_cons.mpr ⟨lm_1505, kwGB_154⟩
theorem kwGB_152 : ∀ w ∈ wtGB_152, w ∈ lw_tbl := List.forall_mem_cons.mpr ⟨lm_1506, kwGB_153⟩
theorem kwGB_151 : ∀ w ∈ wtGB_151, w ∈ lw_tbl := List.forall_mem_cons.mpr ⟨lm_1507, kwGB_152⟩
theorem kwGB_150 : ∀ w ∈ wtGB_150, w ∈ lw_tbl := List.forall_mem_cons.mpr ⟨lm_1508, kwGB_151⟩
theorem kwGB_149 : ∀ w ∈ wtGB_149, w ∈ lw_tbl := List.forall_mem_cons.mpr ⟨lm_1509, kwGB_150⟩
theorem kwGB_148 : ∀ w ∈ wtGB_148, w ∈ lw_tbl := List.forall_mem_cons.mpr ⟨lm_1510, kwGB_149⟩
theorem kwGB_147 : ∀ w ∈ wtGB_147, w ∈ lw_tbl := List.forall_mem_cons.mpr ⟨lm_1511, kwGB_148⟩
theorem kwGB_146 : ∀ w ∈ wtGB_146, w ∈ lw_tbl := List.forall_mem_cons.mpr ⟨lm_1512, kwGB_147⟩
theorem kwGB_145 : ∀ w ∈ wtGB_145, w ∈ lw_tbl := List.forall_mem_cons.mpr ⟨lm_1513, kwGB_146⟩
theorem kwGB_144 : ∀ w ∈ wtGB_144, w ∈ lw_tbl := List.forall_mem_cons.mpr ⟨lm_1514, kwGB_145⟩
theorem kwGB_143 : ∀ w ∈ wtGB_143, w ∈ lw_tbl := List.forall_mem_cons.mpr ⟨lm_1515, kwGB_144⟩
theorem kwGB_142 : ∀ w ∈ wtGB_142, w ∈ lw_tbl := List.forall_mem_cons.mpr ⟨lm_1516, kwGB_143⟩
theorem kwGB_141 : ∀ w ∈ wtGB_141, w ∈ lw_tbl := List.forall_mem_cons.mpr ⟨lm_1517, kwGB_142⟩
theorem kwGB_140 : ∀ w ∈ wtGB_140, w ∈ lw_tbl := List.forall_mem_cons.mpr ⟨lm_1518, kwGB_141⟩
theorem kwGB_139 : ∀ w ∈ wtGB_139, w ∈ lw_tbl := List.forall_mem_cons.mpr ⟨lm_1519, kwGB_140⟩
theorem kwGB_138 : ∀ w ∈ wtGB_138, w ∈ lw_tbl := List.forall_mem_cons.mpr ⟨lm_1520, kwGB_139⟩
theorem kwGB_137 : ∀ w ∈ wtGB_137, w ∈ lw_tbl := List.forall_mem_cons.mpr ⟨lm_1521, kwGB_138⟩
theorem kwGB_136 : ∀ w ∈ wtGB_136, w ∈ lw_tbl := List.forall_mem_cons.mpr ⟨lm_1522, kwGB_137⟩
theorem kwGB_135 : ∀ w ∈ wtGB_135, w ∈ lw_tbl := List.forall_mem_cons.mpr ⟨lm_1523, kwGB_136⟩
theorem kwGB_134 : ∀ w ∈ wtGB_134, w ∈ lw_tbl := List.forall_mem_cons.mpr ⟨lm_1524, kwGB_135⟩
theorem kwGB_133 : ∀ w ∈ wtGB_133, w ∈ lw_tbl := List.forall_mem_cons.mpr ⟨lm_1525, kwGB_134⟩
theorem kwGB_132 : ∀ w ∈ wtGB_132, w ∈ lw_tbl := List.forall_mem_cons.mpr ⟨lm_1526, kwGB_133⟩
theorem kwGB_131 : ∀ w ∈ wtGB_131, w ∈ lw_tbl := List.forall_mem_cons.mpr ⟨lm_1527, kwGB_132⟩
theorem kwGB_130 : ∀ w ∈ wtGB_130, w ∈ lw_tbl := List.forall_mem_cons.mpr ⟨lm_1528, kwGB_131⟩
theorem kwGB_129 : ∀ w ∈ wtGB_129, w ∈ lw_tbl := List.forall_mem_cons.mpr ⟨lm_1529, kwGB_130⟩
theorem kwGB_128 : ∀ w ∈ wtGB_128, w ∈ lw_tbl := List.forall_mem_cons.mpr ⟨lm_1530, kwGB_129⟩
theorem kwGB_127 : ∀ w ∈ wtGB_127, w ∈ lw_tbl := List.forall_mem_cons.mpr ⟨lm_1531, kwGB_128⟩
theorem kwGB_126 : ∀ w ∈ wtGB_126, w ∈ lw_tbl := List.forall_mem_cons.mpr ⟨lm_1532, kwGB_127⟩
theorem kwGB_125 : ∀ w ∈ wtGB_125, w ∈ lw_tbl := List.forall_mem_cons.mpr ⟨lm_1533, kwGB_126⟩
theorem kwGB_124 : ∀ w ∈ wtGB_124, w ∈ lw_tbl := List.forall_mem_cons.mpr ⟨lm_1534, kwGB_125⟩
theorem kwGB_123 : ∀ w ∈ wtGB_123, w ∈ lw_tbl := List.forall_mem_cons.mpr ⟨lm_1535, kwGB_124⟩
theorem kwGB_122 : ∀ w ∈ wtGB_122, w ∈ lw_tbl := List.forall_mem_cons.mpr ⟨lm_1536, kwGB_123⟩
theorem kwGB_121 : ∀ w ∈ wtGB_121, w ∈ lw_tbl := List.forall_mem_cons.mpr ⟨lm_1537, kwGB_122⟩
theorem kwGB_120 : ∀ w ∈ wtGB_120, w ∈ lw_tbl := List.forall_mem_cons.mpr ⟨lm_1538, kwGB_121⟩
theorem kwGB_119 : ∀ w ∈ wtGB_119, w ∈ lw_tbl := List.forall_mem_cons.mpr ⟨lm_1539, kwGB_120⟩
theorem kwGB_118 : ∀ w ∈ wtGB_118, w ∈ lw_tbl := List.forall_mem_cons.mpr ⟨lm_1540, kwGB_119⟩
theorem kwGB_117 : ∀ w ∈ wtGB_117, w ∈ lw_tbl := List.forall_mem_cons.mpr ⟨lm_1541, kwGB_118⟩
theorem kwGB_116 : ∀ w ∈ wtGB_116, w ∈ lw_tbl := List.forall_mem_cons.mpr ⟨lm_1542, kwGB_117⟩
theorem kwGB_115 : ∀ w ∈ wtGB_115, w ∈ lw_tbl := List.forall_mem_cons.mpr ⟨lm_1543, kwGB_116⟩
theorem kwGB_114 : ∀ w ∈ wtGB_114, w ∈ lw_tbl := List.forall_mem_cons.mpr ⟨lm_1544, kwGB_115⟩
theorem kwGB_113 : ∀ w ∈ wtGB_113, w ∈ lw_tbl := List.forall_mem_cons.mpr ⟨lm_1545, kwGB_114⟩
theorem kwGB_112 : ∀ w ∈ wtGB_112, w ∈ lw_tbl := List.forall_mem_cons.mpr ⟨lm_1546, kwGB_113⟩
theorem kwGB_111 : ∀ w ∈ wtGB_111, w ∈ lw_tbl := List.forall_mem_cons.mpr ⟨lm_1547, kwGB_112⟩
theorem kwGB_110 : ∀ w ∈ wtGB_110, w ∈ lw_tbl := List.forall_mem_cons.mpr ⟨lm_1548, kwGB_111⟩
theorem kwGB_109 : ∀ w ∈ wtGB_109, w ∈ lw_tbl := List.forall_mem_cons.mpr ⟨lm_1549, kwGB_110⟩
theorem kwGB_108 : ∀ w ∈ wtGB_108, w ∈ lw_tbl := List.forall_mem_cons.mpr ⟨lm_1550, kwGB_109⟩
theorem kwGB_107 : ∀ w ∈ wtGB_107, w ∈ lw_tbl := List.forall_mem_cons.mpr ⟨lm_1551, kwGB_108⟩
theorem kwGB_106 : ∀ w ∈ wtGB_106, w ∈ lw_tbl := List.forall_mem_cons.mpr ⟨lm_1552, kwGB_107⟩
theorem kwGB_105 : ∀ w ∈ wtGB_105, w ∈ lw_tbl := List.forall_mem_cons.mpr ⟨lm_1553, kwGB_106⟩
theorem kwGB_104 : ∀ w ∈ wtGB_104, w ∈ lw_tbl := List.forall_mem_cons.mpr ⟨lm_1554, kwGB_105⟩
theorem kwGB_103 : ∀ w ∈ wtGB_103, w ∈ lw_tbl := List.forall_mem_cons.mpr ⟨lm_1555, kwGB_104⟩
theorem kwGB_102 : ∀ w ∈ wtGB_102, w ∈ lw_tbl := List.forall_mem_cons.mpr ⟨lm_22, kwGB_103⟩
theorem kwGB_101 : ∀ w ∈ wtGB_101, w ∈ lw_tbl := List.forall_mem_cons.mpr ⟨lm_25, kwGB_102⟩
theorem kwGB_100 : ∀ w ∈ wtGB_100, w ∈ lw_tbl := List.forall_mem_cons.mpr ⟨lm_24, kwGB_101⟩
theorem kwGB_99 : ∀ w ∈ wtGB_99, w ∈ lw_tbl := List.forall_mem_cons.mpr ⟨lm_987, kwGB_100⟩
theorem kwGB_98 : ∀ w ∈ wtGB_98, w ∈ lw_tbl := List.forall_mem_cons.mpr ⟨lm_988, kwGB_99⟩
theorem kwGB_97 : ∀ w ∈ wtGB_97, w ∈ lw_tbl := List.forall_mem_cons.mpr ⟨lm_989, kwGB_98⟩
theorem kwGB_96 : ∀ w ∈ wtGB_96, w ∈ lw_tbl := List.forall_mem_cons.mpr ⟨lm_1008, kwGB_97⟩
theorem kwGB_95 : ∀ w ∈ wtGB_95, w ∈ lw_tbl := List.forall_mem_cons.mpr ⟨lm_1009, kwGB_96⟩
theorem kwGB_94 : ∀ w ∈ wtGB_94, w ∈ lw_tbl := List.forall_mem_cons.mpr ⟨lm_1010, kwGB_95⟩
theorem kwGB_93 : ∀ w ∈ wtGB_93, w ∈ lw_tbl := List.forall_mem_cons.mpr ⟨lm_1011, kwGB_94⟩
theorem kwGB_92 : ∀ w ∈ wtGB_92, w ∈ lw_tbl := List.forall_mem_cons.mpr ⟨lm_1012, kwGB_93⟩
theorem kwGB_91 : ∀ w ∈ wtGB_91, w ∈ lw_tbl := List.forall_mem_cons.mpr ⟨lm_1013, kwGB_92⟩
theorem kwGB_90 : ∀ w ∈ wtGB_90, w ∈ lw_tbl := List.forall_mem_cons.mpr ⟨lm_1014, kwGB_91⟩
theorem kwGB_89 : ∀ w ∈ wtGB_89, w ∈ lw_tbl := List.forall_mem_cons.mpr ⟨lm_1015, kwGB_90⟩
theorem kwGB_88 : ∀ w ∈ wtGB_88, w ∈ lw_tbl := List.forall_mem_cons.mpr ⟨lm_1016, kwGB_89⟩
theorem kwGB_87 : ∀ w ∈ wtGB_87, w ∈ lw_tbl := List.forall_mem_cons.mpr ⟨lm_1017, kwGB_88⟩
theorem kwGB_86 : ∀ w ∈ wtGB_86, w ∈ lw_tbl := List.forall_mem_cons.mpr ⟨lm_1018, kwGB_87⟩
theorem kwGB_85 : ∀ w ∈ wtGB_85, w ∈ lw_tbl := List.forall_mem_cons.mpr ⟨lm_1019, kwGB_86⟩
theorem kwGB_84 : ∀ w ∈ wtGB_84, w ∈ lw_tbl := List.forall_mem_cons.mpr ⟨lm_1020, kwGB_85⟩
theorem kwGB_83 : ∀ w ∈ wtGB_83, w ∈ lw_tbl := List.forall_mem_cons.mpr ⟨lm_1021, kwGB_84⟩
theorem kwGB_82 : ∀ w ∈ wtGB_82, w ∈ lw_tbl := List.forall_mem_cons.mpr ⟨lm_1022, kwGB_83⟩
theorem kwGB_81 : ∀ w ∈ wtGB_81, w ∈ lw_tbl := List.forall_mem_cons.mpr ⟨lm_1023, kwGB_82⟩
theorem kwGB_80 : ∀ w ∈ wtGB_80, w ∈ lw_tbl := List.forall_mem_cons.mpr ⟨lm_1024, kwGB_81⟩
theorem kwGB_79 : ∀ w ∈ wtGB_79, w ∈ lw_tbl := List.forall_mem_cons.mpr ⟨lm_1025, kwGB_80⟩
theorem kwGB_78 : ∀ w ∈ wtGB_78, w ∈ lw_tbl := List.forall_mem_cons.mpr ⟨lm_484, kwGB_79⟩
theorem kwGB_77 : ∀ w ∈ wtGB_77, w ∈ lw_tbl := List.forall_mem_cons.mpr ⟨lm_1026, kwGB_78⟩
theorem kwGB_76 : ∀ w ∈ wtGB_76, w ∈ lw_tbl := List.forall_mem_cons.mpr ⟨lm_1027, kwGB_77⟩
theorem kwGB_75 : ∀ w ∈ wtGB_75, w ∈ lw_tbl := List.forall_mem_cons.mpr ⟨lm_1028, kwGB_76⟩
theorem kwGB_74 : ∀ w ∈ wtGB_74, w ∈ lw_tbl := List.forall_mem_cons.mpr ⟨lm_1029, kwGB_75⟩
theorem kwGB_73 : ∀ w ∈ wtGB_73, w ∈ lw_tbl := List.forall_mem_cons.mpr ⟨lm_1030, kwGB_74⟩
theorem kwGB_72 : ∀ w ∈ wtGB_72, w ∈ lw_tbl := List.forall_mem_cons.mpr ⟨lm_1031, kwGB_73⟩
theorem kwGB_71 : ∀ w ∈ wtGB_71, w ∈ lw_tbl := List.forall_mem_cons.mpr ⟨lm_1032, kwGB_72⟩
theorem kwGB_70 : ∀ w ∈ wtGB_70, w ∈ lw_tbl := List.forall_mem_cons.mpr ⟨lm_1033, kwGB_71⟩
theorem kwGB_69 : ∀ w ∈ wtGB_69, w ∈ lw_tbl := List.forall_mem_cons.mpr ⟨lm_1034, kwGB_70⟩
theorem kwGB_68 : ∀ w ∈ wtGB_68, w ∈ lw_tbl := List.forall_mem_cons.mpr ⟨lm_1035, kwGB_69⟩
theorem kwGB_67 : ∀ w ∈ wtGB_67, w ∈ lw_tbl := List.forall_mem_cons.mpr ⟨lm_1036, kwGB_68⟩
theorem kwGB_66 : ∀ w ∈ wtGB_66, w ∈ lw_tbl := List.forall_mem_cons.mpr ⟨lm_1037, kwGB_67⟩
theorem kwGB_65 : ∀ w ∈ wtGB_65, w ∈ lw_tbl := List.forall_mem_cons.mpr ⟨lm_1038, kwGB_66⟩
theorem kwGB_64 : ∀ w ∈ wtGB_64, w ∈ lw_tbl := List.forall_mem_cons.mpr ⟨lm_1039, kwGB_65⟩
theorem kwGB_63 : ∀ w ∈ wtGB_63, w ∈ lw_tbl := List.forall_mem_cons.mpr ⟨lm_1040, kwGB_64⟩
theorem kwGB_62 : ∀ w ∈ wtGB_62, w ∈ lw_tbl := List.forall_mem_cons.mpr ⟨lm_1041, kwGB_63⟩
theorem kwGB_61 : ∀ w ∈ wtGB_61, w ∈ lw_tbl := List.forall_mem_cons.mpr ⟨lm_1042, kwGB_62⟩
theorem kwGB_60 : ∀ w ∈ wtGB_60, w ∈ lw_tbl := List.forall_mem_cons.mpr ⟨lm_1044, kwGB_61⟩
theorem kwGB_59 : ∀ w ∈ wtGB_59, w ∈ lw_tbl := List.forall_mem_cons.mpr ⟨lm_1045, kwGB_60⟩
theorem kwGB_58 : ∀ w ∈ wtGB_58, w ∈ lw_tbl := List.forall_mem_cons.mpr ⟨lm_1046, kwGB_59⟩
theorem kwGB_57 : ∀ w ∈ wtGB_57, w ∈ lw_tbl := List.forall_mem_cons.mpr ⟨lm_1047, kwGB_58⟩
theorem kwGB_56 : ∀ w ∈ wtGB_56, w ∈ lw_tbl := List.forall_mem_cons.mpr ⟨lm_1048, kwGB_57⟩
theorem kwGB_55 : ∀ w ∈ wtGB_55, w ∈ lw_tbl := List.forall_mem_cons.mpr ⟨lm_1049, kwGB_56⟩
theorem kwGB_54 : ∀ w ∈ wtGB_54, w ∈ lw_tbl := List.forall_mem_cons.mpr ⟨lm_1050, kwGB_55⟩
theorem kwGB_53 : ∀ w ∈ wtGB_53, w ∈ lw_tbl := List.forall_mem_cons.mpr ⟨lm_1051, kwGB_54⟩
theorem kwGB_52 : ∀ w ∈ wtGB_52, w ∈ lw_tbl := List.forall_mem_cons.mpr ⟨lm_482, kwGB_53⟩
theorem kwGB_51 : ∀ w ∈ wtGB_51, w ∈ lw_tbl := List.forall_mem_cons.mpr ⟨lm_1052, kwGB_52⟩
theorem kwGB_50 : ∀ w ∈ wtGB_50, w ∈ lw_tbl := List.forall_mem_cons.mpr ⟨lm_1053, kwGB_51⟩
theorem kwGB_49 : ∀ w ∈ wtGB_49, w ∈ lw_tbl := List.forall_mem_cons.mpr ⟨lm_1556, kwGB_50⟩
theorem kwGB_48 : ∀ w ∈ wtGB_48, w ∈ lw_tbl := List.forall_mem_cons.mpr ⟨lm_1557, kwGB_49⟩
theorem kwGB_47 : ∀ w ∈ wtGB_47, w ∈ lw_tbl := List.forall_mem_cons.mpr ⟨lm_1558, kwGB_48⟩
theorem kwGB_46 : ∀ w ∈ wtGB_46, w ∈ lw_tbl := List.forall_mem_cons.mpr ⟨lm_14, kwGB_47⟩
theorem kwGB_45 : ∀ w ∈ wtGB_45, w ∈ lw_tbl := List.forall_mem_cons.mpr ⟨lm_17, kwGB_46⟩
theorem kwGB_44 : ∀ w ∈ wtGB_44, w ∈ lw_tbl := List.forall_mem_cons.mpr ⟨lm_16, kwGB_45⟩
theorem kwGB_43 : ∀ w ∈ wtGB_43, w ∈ lw_tbl := List.forall_mem_cons.mpr ⟨lm_1559, kwGB_44⟩
theorem kwGB_42 : ∀ w ∈ wtGB_42, w ∈ lw_tbl := List.forall_mem_cons.mpr ⟨lm_5, kwGB_43⟩
theorem kwGB_41 : ∀ w ∈ wtGB_41, w ∈ lw_tbl := List.forall_mem_cons.mpr ⟨lm_8, kwGB_42⟩
theorem kwGB_40 : ∀ w ∈ wtGB_40, w ∈ lw_tbl := List.forall_mem_cons.mpr ⟨lm_7, kwGB_41⟩
theorem kwGB_39 : ∀ w ∈ wtGB_39, w ∈ lw_tbl := List.forall_mem_cons.mpr ⟨lm_1560, kwGB_40⟩
theorem kwGB_38 : ∀ w ∈ wtGB_38, w ∈ lw_tbl := List.forall_mem_cons.mpr ⟨lm_1561, kwGB_39⟩
theorem kwGB_37 : ∀ w ∈ wtGB_37, w ∈ lw_tbl := List.forall_mem_cons.mpr ⟨lm_1562, kwGB_38⟩
theorem kwGB_36 : ∀ w ∈ wtGB_36, w ∈ lw_tbl := List.forall_mem_cons.mpr ⟨lm_1563, kwGB_37⟩
theorem kwGB_35 : ∀ w ∈ wtGB_35, w ∈ lw_tbl := List.forall_mem_cons.mpr ⟨lm_1564, kwGB_36⟩
theorem kwGB_34 : ∀ w ∈ wtGB_34, w ∈ lw_tbl := List.forall_mem_cons.mpr ⟨lm_1565, kwGB_35⟩
theorem kwGB_33 : ∀ w ∈ wtGB_33, w ∈ lw_tbl := List.forall_mem_cons.mpr ⟨lm_1566, kwGB_34⟩
theorem kwGB_32 : ∀ w ∈ wtGB_32, w ∈ lw_tbl := List.forall_mem_cons.mpr ⟨lm_1567, kwGB_33⟩
theorem kwGB_31 : ∀ w ∈ wtGB_31, w ∈ lw_tbl := List.forall_mem_cons.mpr ⟨lm_1568, kwGB_32⟩
theorem kwGB_30 : ∀ w ∈ wtGB_30, w ∈ lw_tbl := List.forall_mem_cons.mpr ⟨lm_1569, kwGB_31⟩
theorem kwGB_29 : ∀ w ∈ wtGB_29, w ∈ lw_tbl := List.forall_mem_cons.mpr ⟨lm_1570, kwGB_30⟩
theorem kwGB_28 : ∀ w ∈ wtGB_28, w ∈ lw_tbl := List.forall_mem_cons.mpr ⟨lm_1571, kwGB_29⟩
theorem kwGB_27 : ∀ w ∈ wtGB_27, w ∈ lw_tbl := List.forall_mem_cons.mpr ⟨lm_1572, kwGB_28⟩
theorem kwGB_26 : ∀ w ∈ wtGB_26, w ∈ lw_tbl := List.forall_mem_cons.mpr ⟨lm_1573, kwGB_27⟩
theorem kwGB_25 : ∀ w ∈ wtGB_25, w ∈ lw_tbl := List.forall_mem_cons.mpr ⟨lm_1574, kwGB_26⟩
theorem kwGB_24 : ∀ w ∈ wtGB_24, w ∈ lw_tbl := List.forall_mem_cons.mpr ⟨lm_1575, kwGB_25⟩
theorem kwGB_23 : ∀ w ∈ wtGB_23, w ∈ lw_tbl := List.forall_mem_cons.mpr ⟨lm_1576, kwGB_24⟩
theorem kwGB_22 : ∀ w ∈ wtGB_22, w ∈ lw_tbl := List.forall_mem_cons.mpr ⟨lm_1577, kwGB_23⟩
theorem kwGB_21 : ∀ w ∈ wtGB_21, w ∈ lw_tbl := List.forall_mem_cons.mpr ⟨lm_1578, kwGB_22⟩
theorem kwGB_20 : ∀ w ∈ wtGB_20, w ∈ lw_tbl := List.forall_mem_cons.mpr ⟨lm_1579, kwGB_21⟩
theorem kwGB_19 : ∀ w ∈ wtGB_19, w ∈ lw_tbl := List.forall_mem_cons.mpr ⟨lm_1580, kwGB_20⟩
theorem kwGB_18 : ∀ w ∈ wtGB_18, w ∈ lw_tbl := List.forall_mem_cons.mpr ⟨lm_1581, kwGB_19⟩
theorem kwGB_17 : ∀ w ∈ wtGB_17, w ∈ lw_tbl := List.forall_mem_cons.mpr ⟨lm_1582, kwGB_18⟩
theorem kwGB_16 : ∀ w ∈ wtGB_16, w ∈ lw_tbl := List.forall_mem_cons.mpr ⟨lm_1583, kwGB_17⟩
theorem kwGB_15 : ∀ w ∈ wtGB_15, w ∈ lw_tbl := List.forall_mem_cons.mpr ⟨lm_1584, kwGB_16⟩
theorem kwGB_14 : ∀ w ∈ wtGB_14, w ∈ lw_tbl := List.forall_mem_cons.mpr ⟨lm_1121, kwGB_15⟩
theorem kwGB_13 : ∀ w ∈ wtGB_13, w ∈ lw_tbl := List.forall_mem_cons.mpr ⟨lm_1585, kwGB_14⟩
theorem kwGB_12 : ∀ w ∈ wtGB_12, w ∈ lw_tbl := List.forall_mem_cons.mpr ⟨lm_1586, kwGB_13⟩
theorem kwGB_11 : ∀ w ∈ wtGB_11, w ∈ lw_tbl := List.forall_mem_cons.mpr ⟨lm_1587, kwGB_12⟩
theorem kwGB_10 : ∀ w ∈ wtGB_10, w ∈ lw_tbl := List.forall_mem_cons.mpr ⟨lm_1588, kwGB_11⟩
theorem kwGB_9 : ∀ w ∈ wtGB_9, w ∈ lw_tbl := List.forall_mem_cons.mpr ⟨lm_1589, kwGB_10⟩
theorem kwGB_8 : ∀ w ∈ wtGB_8, w ∈ lw_tbl := List.forall_mem_cons.mpr ⟨lm_490, kwGB_9⟩
theorem kwGB_7 : ∀ w ∈ wtGB_7, w ∈ lw_tbl := List.forall_mem_cons.mpr ⟨lm_492, kwGB_8⟩
theorem kwGB_6 : ∀ w ∈ wtGB_6, w ∈ lw_tbl := List.forall_mem_cons.mpr ⟨lm_1143, kwGB_7⟩
theorem kwGB_5 : ∀ w ∈ wtGB_5, w ∈ lw_tbl := List.forall_mem_cons.mpr ⟨lm_1203, kwGB_6⟩
theorem kwGB_4 : ∀ w ∈ wtGB_4, w ∈ lw_tbl := List.forall_mem_cons.mpr ⟨lm_1205, kwGB_5⟩
theorem kwGB_3 : ∀ w ∈ wtGB_3, w ∈ lw_tbl := List.forall_mem_cons.mpr ⟨lm_1229, kwGB_4⟩
theorem kwGB_2 : ∀ w ∈ wtGB_2, w ∈ lw_tbl := List.forall_mem_cons.mpr ⟨lm_1230, kwGB_3⟩
theorem kwGB_1 : ∀ w ∈ wtGB_1, w ∈ lw_tbl := List.forall_mem_cons.mpr ⟨lm_9, kwGB_2⟩
theorem kwGB_0 : ∀ w ∈ wtGB_0, w ∈ lw_tbl := List.forall_mem_cons.mpr ⟨lm_446, kwGB_1⟩
theorem lwGB : ∀ w ∈ wsGB, w ∈ lw_tbl := kwGB_0

noncomputable def lsL_c0 : List (Nat × Instr × Nat) := [(264, .aload_n 1, 1), (265, .aload_n 0, 1), (266, .iload_n 3, 1), (267, .iconst 1, 1), (268, .iadd, 1), (269, .iaload, 1), (270, .aload_n 0, 1), (271, .iload_n 3, 1), (272, .iconst 2, 1), (273, .iadd, 1), (274, .iaload, 1), (275, .aload_n 0, 1), (276, .iload_n 3, 1), (277, .iconst 3, 1), (278, .iadd, 1), (279, .iaload, 1), (280, .aload_n 0, 1), (281, .iload_n 3, 1), (282, .iconst 4, 1), (283, .iadd, 1), (284, .iaload, 1), (285, .aload_n 0, 1), (286, .iload_n 3, 1), (287, .iconst 5, 1), (288, .iadd, 1), (289, .iaload, 1), (290, .invokevirtual 13, 3), (293, .pop, 1), (294, .aload_n 2, 1), (295, .aload_n 0, 1), (296, .iload_n 3, 1), (297, .iconst 1, 1), (298, .iadd, 1), (299, .iaload, 1), (300, .aload_n 0, 1), (301, .iload_n 3, 1), (302, .iconst 2, 1), (303, .iadd, 1), (304, .iaload, 1), (305, .aload_n 0, 1), (306, .iload_n 3, 1), (307, .iconst 3, 1), (308, .iadd, 1), (309, .iaload, 1), (310, .aload_n 0, 1), (311, .iload_n 3, 1), (312, .iconst 4, 1), (313, .iadd, 1), (314, .iaload, 1), (315, .aload_n 0, 1), (316, .iload_n 3, 1), (317, .iconst 5, 1), (318, .iadd, 1), (319, .iaload, 1), (320, .invokevirtual 17, 3), (323, .pop, 1), (324, .goto 1732, 3)]
theorem dkL_c0 : dkAll cL_law lsL_c0 = true := dk_fast (by decide +kernel)
set_option maxHeartbeats 4000000 in
set_option maxRecDepth 100000 in
theorem law_c0 {p : Program} {l : Launch} {e : Env} {s : State} {m : MethodId} {below : List Frame} {meth : Method} {c : Code} {dC : Nat → ClassId} {dI : Nat → Nat → Nat} {b L : Nat} {xs : Nat → Int32} (hL : L ≤ 3072) (C0 : lw_At p s m meth c b L xs) (hz : nzA s) {sa sb sa2 sb2 : Nat → Nat} {zf : Value} (hTA : gz_ST RX6 stIA sa sb zf (fun q : Nat => s.heap.size ≤ q) s s.heap) (hTB : gz_ST RX12 stIB sa2 sb2 zf (fun q : Nat => s.heap.size ≤ q) s s.heap) {x0 hm n : Nat} (hn : 6 * n + 6 ≤ L) {H : Heap} {locs : List Loc} {ls : Array Slot} (hI : LInv dC dI s x0 hm H) (hS : va_S (fun q : Nat => s.heap.size ≤ q) s.heap H locs) (hl : lv_has ls 4 [(0, .ref b), (1, .ref x0), (2, .ref hm), (3, .int (nI (6 * n)))]) (next : ∀ (H : Heap) (locs : List Loc) (ls : Array Slot), LInv dC dI s x0 hm H → va_S (fun q : Nat => s.heap.size ≤ q) s.heap H locs → lv_has ls 4 [(0, .ref b), (1, .ref x0), (2, .ref hm), (3, .int (nI (6 * n)))] → W p l e room_1 s m #[Value.ref b] below meth c H locs (400 + (n + 1)) (40000 + 5 * (n + 1)) (lw_Z below #[Value.ref b] s) (F0 m 2056 ls [])) : W p l e room_1 s m #[Value.ref b] below meth c H locs (400 + n) (40000 + 5 * n) (lw_Z below #[Value.ref b] s) (F0 m 264 ls []) := by
  obtain ⟨hx, hb, hr, hml, hown0, hts, hX, hbl, hlocks, hgv⟩ := id C0
  have hown : s.vm.findClass RL = some m.cls := hown0
  have hA : ∀ q : Nat, s.heap.size ≤ q → (fun q : Nat => s.heap.size ≤ q) q := fun _ h => h
  have hbA : ¬ (fun q : Nat => s.heap.size ≤ q) b := Nat.not_le.mpr hbl
  obtain ⟨ax, kx, vx, fx, gx, rx, mi, mr, km, fm, rfl, hK, hXI, hMI, hlen, hP, hD⟩ := hI
  refine lv_aload_n hx hb (dk_at dkL_c0 0 rfl) rfl (lv_at hl 1 rfl) ?_
  refine lw_arg hx hb hX hbl hbA hS hl (dk_at dkL_c0 1 rfl) (dk_at dkL_c0 2 rfl) (dk_at dkL_c0 3 rfl) (dk_at dkL_c0 4 rfl) (dk_at dkL_c0 5 rfl) 1 (by decide) (Nat.le_of_ble_eq_true rfl) hn hL (fun a1 ea1 => ?_)
  refine lw_arg hx hb hX hbl hbA hS hl (dk_at dkL_c0 6 rfl) (dk_at dkL_c0 7 rfl) (dk_at dkL_c0 8 rfl) (dk_at dkL_c0 9 rfl) (dk_at dkL_c0 10 rfl) 2 (by decide) (Nat.le_of_ble_eq_true rfl) hn hL (fun a2 ea2 => ?_)
  refine lw_arg hx hb hX hbl hbA hS hl (dk_at dkL_c0 11 rfl) (dk_at dkL_c0 12 rfl) (dk_at dkL_c0 13 rfl) (dk_at dkL_c0 14 rfl) (dk_at dkL_c0 15 rfl) 3 (by decide) (Nat.le_of_ble_eq_true rfl) hn hL (fun a3 ea3 => ?_)
  refine lw_arg hx hb hX hbl hbA hS hl (dk_at dkL_c0 16 rfl) (dk_at dkL_c0 17 rfl) (dk_at dkL_c0 18 rfl) (dk_at dkL_c0 19 rfl) (dk_at dkL_c0 20 rfl) 4 (by decide) (Nat.le_of_ble_eq_true rfl) hn hL (fun a4 ea4 => ?_)
  refine lw_arg hx hb hX hbl hbA hS hl (dk_at dkL_c0 21 rfl) (dk_at dkL_c0 22 rfl) (dk_at dkL_c0 23 rfl) (dk_at dkL_c0 24 rfl) (dk_at dkL_c0 25 rfl) 5 (by decide) (Nat.le_of_ble_eq_true rfl) hn hL (fun a5 ea5 => ?_)
  refine lw_cx (st := [.int a5, .int a4, .int a3, .int a2, .int a1, .ref (ax 0)]) (rest := []) ⟨hx, hb, hml, hown, hts⟩ (uX11_feed l dC dI H.size ax kx vx fx gx rx hXI a1 a2 a3 a4 a5) (cwV 5 hts (gz_lV lm_1 lm_2 lm_3 lm_4 lm_0 lwGA goodGA) rfl rfl rfl hdV_X11_feed_X11_5 ⟨Nat.le_of_ble_eq_true rfl, Nat.le_of_ble_eq_true rfl⟩) rfl rfl hl.1 (Nat.le_of_ble_eq_true rfl) (dk_at dkL_c0 26 rfl) (lw_rm (a := 0) (b := 0) hn hL (Nat.le_of_ble_eq_true rfl) (Nat.le_of_ble_eq_true rfl)) hz hK hP hD hS (fun rx9 ax2 kx2 vx2 fx2 gx2 rx2 H locs h0 hXI2 hrelx hK hP hD hS => ?_)
  refine lv_pop hx hb (dk_at dkL_c0 27 rfl) rfl ?_
  refine lv_aload_n hx hb (dk_at dkL_c0 28 rfl) rfl (lv_at hl 2 rfl) ?_
  refine lw_arg hx hb hX hbl hbA hS hl (dk_at dkL_c0 29 rfl) (dk_at dkL_c0 30 rfl) (dk_at dkL_c0 31 rfl) (dk_at dkL_c0 32 rfl) (dk_at dkL_c0 33 rfl) 1 (by decide) (Nat.le_of_ble_eq_true rfl) hn hL (fun a6 ea6 => ?_)
  refine lw_arg hx hb hX hbl hbA hS hl (dk_at dkL_c0 34 rfl) (dk_at dkL_c0 35 rfl) (dk_at dkL_c0 36 rfl) (dk_at dkL_c0 37 rfl) (dk_at dkL_c0 38 rfl) 2 (by decide) (Nat.le_of_ble_eq_true rfl) hn hL (fun a7 ea7 => ?_)
  refine lw_arg hx hb hX hbl hbA hS hl (dk_at dkL_c0 39 rfl) (dk_at dkL_c0 40 rfl) (dk_at dkL_c0 41 rfl) (dk_at dkL_c0 42 rfl) (dk_at dkL_c0 43 rfl) 3 (by decide) (Nat.le_of_ble_eq_true rfl) hn hL (fun a8 ea8 => ?_)
  refine lw_arg hx hb hX hbl hbA hS hl (dk_at dkL_c0 44 rfl) (dk_at dkL_c0 45 rfl) (dk_at dkL_c0 46 rfl) (dk_at dkL_c0 47 rfl) (dk_at dkL_c0 48 rfl) 4 (by decide) (Nat.le_of_ble_eq_true rfl) hn hL (fun a9 ea9 => ?_)
  refine lw_arg hx hb hX hbl hbA hS hl (dk_at dkL_c0 49 rfl) (dk_at dkL_c0 50 rfl) (dk_at dkL_c0 51 rfl) (dk_at dkL_c0 52 rfl) (dk_at dkL_c0 53 rfl) 5 (by decide) (Nat.le_of_ble_eq_true rfl) hn hL (fun a10 ea10 => ?_)
  refine lw_cm (st := [.int a10, .int a9, .int a8, .int a7, .int a6, .ref hm]) (rest := []) ⟨hx, hb, hml, hown, hts⟩ (uX12_feed l dC dI H.size hm mi mr km fm hMI a6 a7 a8 a9 a10) (cwV 5 hts (gz_lV lm_6 lm_7 lm_8 lm_9 lm_5 lwGB goodGB) rfl rfl rfl hdV_X12_feed_X12_5 ⟨Nat.le_of_ble_eq_true rfl, Nat.le_of_ble_eq_true rfl⟩) rfl rfl hl.1 (Nat.le_of_ble_eq_true rfl) (dk_at dkL_c0 54 rfl) (lw_rm2 (a := 0) (b := 0) (a2 := 1) (b2 := 5) hn hL (Nat.le_of_ble_eq_true rfl) (Nat.le_of_ble_eq_true rfl)) hK hP hD hS (fun rm9 mi2 fm2 H locs hMI2 hrelm hP hD hS => ?_)
  refine lv_pop hx hb (dk_at dkL_c0 55 rfl) rfl ?_
  refine lv_goto (tgt := 2056) hx hb (dk_at dkL_c0 56 rfl) (by decide) ?_
  have e90 : a6 = a1 := ea6.trans ea1.symm
  have e91 : a7 = a2 := ea7.trans ea2.symm
  have e92 : a8 = a3 := ea8.trans ea3.symm
  have e93 : a9 = a4 := ea9.trans ea4.symm
  have e94 : a10 = a5 := ea10.trans ea5.symm
  rw [e90, e91, e92, e93, e94] at hrelm
  have hN9 := pr_feed hXI hMI hlen hrelx hrelm
  refine W.widen (k := 400 + (n + 1)) (n := 40000 + 5 * (n + 1)) (by omega) (by omega) ?_
  exact next _ _ _ ⟨ax2, kx2, vx2, fx2, gx2, rx2, mi2, mr, km, fm2, h0, hK, hXI2, hMI2, hN9.1, hP, hD⟩ hS hl
noncomputable def lsL_c1 : List (Nat × Instr × Nat) := [(327, .aload_n 1, 1), (328, .aload_n 0, 1), (329, .iload_n 3, 1), (330, .iconst 1, 1), (331, .iadd, 1), (332, .iaload, 1), (333, .invokevirtual 18, 3), (336, .pop, 1), (337, .aload_n 2, 1), (338, .aload_n 0, 1), (339, .iload_n 3, 1), (340, .iconst 1, 1), (341, .iadd, 1), (342, .iaload, 1), (343, .invokevirtual 22, 3), (346, .pop, 1), (347, .goto 1709, 3)]
theorem dkL_c1 : dkAll cL_law lsL_c1 = true := dk_fast (by decide +kernel)
set_option maxHeartbeats 4000000 in
set_option maxRecDepth 100000 in
theorem law_c1 {p : Program} {l : Launch} {e : Env} {s : State} {m : MethodId} {below : List Frame} {meth : Method} {c : Code} {dC : Nat → ClassId} {dI : Nat → Nat → Nat} {b L : Nat} {xs : Nat → Int32} (hL : L ≤ 3072) (C0 : lw_At p s m meth c b L xs) (hz : nzA s) {sa sb sa2 sb2 : Nat → Nat} {zf : Value} (hTA : gz_ST RX6 stIA sa sb zf (fun q : Nat => s.heap.size ≤ q) s s.heap) (hTB : gz_ST RX12 stIB sa2 sb2 zf (fun q : Nat => s.heap.size ≤ q) s s.heap) {x0 hm n : Nat} (hn : 6 * n + 6 ≤ L) {H : Heap} {locs : List Loc} {ls : Array Slot} (hI : LInv dC dI s x0 hm H) (hS : va_S (fun q : Nat => s.heap.size ≤ q) s.heap H locs) (hl : lv_has ls 4 [(0, .ref b), (1, .ref x0), (2, .ref hm), (3, .int (nI (6 * n)))]) (next : ∀ (H : Heap) (locs : List Loc) (ls : Array Slot), LInv dC dI s x0 hm H → va_S (fun q : Nat => s.heap.size ≤ q) s.heap H locs → lv_has ls 4 [(0, .ref b), (1, .ref x0), (2, .ref hm), (3, .int (nI (6 * n)))] → W p l e room_1 s m #[Value.ref b] below meth c H locs (400 + (n + 1)) (40000 + 5 * (n + 1)) (lw_Z below #[Value.ref b] s) (F0 m 2056 ls [])) : W p l e room_1 s m #[Value.ref b] below meth c H locs (400 + n) (40000 + 5 * n) (lw_Z below #[Value.ref b] s) (F0 m 327 ls []) := by
  obtain ⟨hx, hb, hr, hml, hown0, hts, hX, hbl, hlocks, hgv⟩ := id C0
  have hown : s.vm.findClass RL = some m.cls := hown0
  have hA : ∀ q : Nat, s.heap.size ≤ q → (fun q : Nat => s.heap.size ≤ q) q := fun _ h => h
  have hbA : ¬ (fun q : Nat => s.heap.size ≤ q) b := Nat.not_le.mpr hbl
  obtain ⟨ax, kx, vx, fx, gx, rx, mi, mr, km, fm, rfl, hK, hXI, hMI, hlen, hP, hD⟩ := hI
  refine lv_aload_n hx hb (dk_at dkL_c1 0 rfl) rfl (lv_at hl 1 rfl) ?_
  refine lw_arg hx hb hX hbl hbA hS hl (dk_at dkL_c1 1 rfl) (dk_at dkL_c1 2 rfl) (dk_at dkL_c1 3 rfl) (dk_at dkL_c1 4 rfl) (dk_at dkL_c1 5 rfl) 1 (by decide) (Nat.le_of_ble_eq_true rfl) hn hL (fun a1 ea1 => ?_)
  refine lw_cx (st := [.int a1, .ref (ax 0)]) (rest := []) ⟨hx, hb, hml, hown, hts⟩ (uX11_end l dC dI H.size ax kx vx fx gx rx hXI a1) (cwV 1 hts (gz_lV lm_11 lm_12 lm_13 lm_4 lm_10 lwGA goodGA) rfl rfl rfl hdV_X11_end_X11_1 ⟨Nat.le_of_ble_eq_true rfl, Nat.le_of_ble_eq_true rfl⟩) rfl rfl hl.1 (Nat.le_of_ble_eq_true rfl) (dk_at dkL_c1 6 rfl) (lw_rm (a := 0) (b := 0) hn hL (Nat.le_of_ble_eq_true rfl) (Nat.le_of_ble_eq_true rfl)) hz hK hP hD hS (fun rx9 ax2 kx2 vx2 fx2 gx2 rx2 H locs h0 hXI2 hrelx hK hP hD hS => ?_)
  refine lv_pop hx hb (dk_at dkL_c1 7 rfl) rfl ?_
  refine lv_aload_n hx hb (dk_at dkL_c1 8 rfl) rfl (lv_at hl 2 rfl) ?_
  refine lw_arg hx hb hX hbl hbA hS hl (dk_at dkL_c1 9 rfl) (dk_at dkL_c1 10 rfl) (dk_at dkL_c1 11 rfl) (dk_at dkL_c1 12 rfl) (dk_at dkL_c1 13 rfl) 1 (by decide) (Nat.le_of_ble_eq_true rfl) hn hL (fun a2 ea2 => ?_)
  refine lw_cm (st := [.int a2, .ref hm]) (rest := []) ⟨hx, hb, hml, hown, hts⟩ (uX12_end l dC dI H.size hm mi mr km fm hMI a2) (cwV 1 hts (gz_lV lm_15 lm_16 lm_17 lm_9 lm_14 lwGB goodGB) rfl rfl rfl hdV_X12_end_X12_1 ⟨Nat.le_of_ble_eq_true rfl, Nat.le_of_ble_eq_true rfl⟩) rfl rfl hl.1 (Nat.le_of_ble_eq_true rfl) (dk_at dkL_c1 14 rfl) (lw_rm2 (a := 0) (b := 0) (a2 := 0) (b2 := 0) hn hL (Nat.le_of_ble_eq_true rfl) (Nat.le_of_ble_eq_true rfl)) hK hP hD hS (fun rm9 mi2 fm2 H locs hMI2 hrelm hP hD hS => ?_)
  refine lv_pop hx hb (dk_at dkL_c1 15 rfl) rfl ?_
  refine lv_goto (tgt := 2056) hx hb (dk_at dkL_c1 16 rfl) (by decide) ?_
  have e90 : a2 = a1 := ea2.trans ea1.symm
  rw [e90] at hrelm
  have hN9 := pr_end hXI hMI hlen hrelx hrelm
  refine W.widen (k := 400 + (n + 1)) (n := 40000 + 5 * (n + 1)) (by omega) (by omega) ?_
  exact next _ _ _ ⟨ax2, kx2, vx2, fx2, gx2, rx2, mi2, mr, km, fm2, h0, hK, hXI2, hMI2, hN9.1, hP, hD⟩ hS hl
noncomputable def lsL_c2 : List (Nat × Instr × Nat) := [(350, .aload_n 1, 1), (351, .invokevirtual 23, 3), (354, .pop, 1), (355, .aload_n 2, 1), (356, .invokevirtual 27, 3), (359, .pop, 1), (360, .goto 1696, 3)]
theorem dkL_c2 : dkAll cL_law lsL_c2 = true := dk_fast (by decide +kernel)
set_option maxHeartbeats 4000000 in
set_option maxRecDepth 100000 in
theorem law_c2 {p : Program} {l : Launch} {e : Env} {s : State} {m : MethodId} {below : List Frame} {meth : Method} {c : Code} {dC : Nat → ClassId} {dI : Nat → Nat → Nat} {b L : Nat} {xs : Nat → Int32} (hL : L ≤ 3072) (C0 : lw_At p s m meth c b L xs) (hz : nzA s) {sa sb sa2 sb2 : Nat → Nat} {zf : Value} (hTA : gz_ST RX6 stIA sa sb zf (fun q : Nat => s.heap.size ≤ q) s s.heap) (hTB : gz_ST RX12 stIB sa2 sb2 zf (fun q : Nat => s.heap.size ≤ q) s s.heap) {x0 hm n : Nat} (hn : 6 * n + 6 ≤ L) {H : Heap} {locs : List Loc} {ls : Array Slot} (hI : LInv dC dI s x0 hm H) (hS : va_S (fun q : Nat => s.heap.size ≤ q) s.heap H locs) (hl : lv_has ls 4 [(0, .ref b), (1, .ref x0), (2, .ref hm), (3, .int (nI (6 * n)))]) (next : ∀ (H : Heap) (locs : List Loc) (ls : Array Slot), LInv dC dI s x0 hm H → va_S (fun q : Nat => s.heap.size ≤ q) s.heap H locs → lv_has ls 4 [(0, .ref b), (1, .ref x0), (2, .ref hm), (3, .int (nI (6 * n)))] → W p l e room_1 s m #[Value.ref b] below meth c H locs (400 + (n + 1)) (40000 + 5 * (n + 1)) (lw_Z below #[Value.ref b] s) (F0 m 2056 ls [])) : W p l e room_1 s m #[Value.ref b] below meth c H locs (400 + n) (40000 + 5 * n) (lw_Z below #[Value.ref b] s) (F0 m 350 ls []) := by
  obtain ⟨hx, hb, hr, hml, hown0, hts, hX, hbl, hlocks, hgv⟩ := id C0
  have hown : s.vm.findClass RL = some m.cls := hown0
  have hA : ∀ q : Nat, s.heap.size ≤ q → (fun q : Nat => s.heap.size ≤ q) q := fun _ h => h
  have hbA : ¬ (fun q : Nat => s.heap.size ≤ q) b := Nat.not_le.mpr hbl
  obtain ⟨ax, kx, vx, fx, gx, rx, mi, mr, km, fm, rfl, hK, hXI, hMI, hlen, hP, hD⟩ := hI
  refine lv_aload_n hx hb (dk_at dkL_c2 0 rfl) rfl (lv_at hl 1 rfl) ?_
  have hPx := gz_PL hP
  have hDx := gz_DL hD
  have hKx := gz_KL hK
  have hFx := gz_freeA hDx hS hA
  refine va_calli (va_runV (As := []) (rest := []) ⟨hx, hb, hml, hown, hts⟩ (uX11_almanac l dC dI H.size ax kx vx fx gx rx sa sb zf hXI ) (cwV 0 hts (gz_lV lm_19 lm_20 lm_21 lm_4 lm_18 lwGA goodGA) rfl rfl rfl hdV_X11_almanac_X11_0 ⟨Nat.le_of_ble_eq_true rfl, Nat.le_of_ble_eq_true rfl⟩) ⟨bl_I (bl_a bl_sz (bl_a bl_P (bl_a bl_K (bl_a bl_c (bl_a bl_nz bl_ST))))), xw_recv hKx hPx, fun U hU hW => ⟨rfl, by rw [hU], by rw [hU]; exact hPx, va_K.moved hW.alike hKx, hDx.weaken (fun _ _ _ _ => trivial), nzA_warm hW hz, by rw [hU]; exact ((hTA.kept hS.2.1).narrow hFx).warm hW⟩⟩ rfl rfl hl.1 rfl (lv_room (Nat.le_of_ble_eq_true rfl)) (dk_at dkL_c2 1 rfl) ⟨by show 400 + n + 0 ≤ 600000; omega, by show 40000 + 5 * n + 0 ≤ 7302250; omega⟩) hS (fun q _ h => hFx q h) hFx (fun rx9 u t H1 locs ht hvm hw hB hz1 hk1 hS => ?_)
  obtain ⟨ax2, kx2, vx2, fx2, gx2, rx2, hKK, h0, hXI2, hrelx, hP1, hD1⟩ := hB
  rw [ht] at hP1
  subst hw
  have hw : True := trivial
  obtain ⟨hP, hD⟩ := gz_joinL hP hD hk1 hFx hP1 hD1
  have hK := va_K.app (hKK _ hKx) (gz_KR hK)
  have hwx := hw
  generalize H1 = H at hP hS ⊢
  refine lv_pop hx hb (dk_at dkL_c2 2 rfl) rfl ?_
  refine lv_aload_n hx hb (dk_at dkL_c2 3 rfl) rfl (lv_at hl 2 rfl) ?_
  have hPx := gz_PR hP
  have hDx := gz_DR hD
  have hKx := gz_KR hK
  have hFx := gz_freeA hDx hS hA
  refine va_calli (va_runV (As := []) (rest := []) ⟨hx, hb, hml, hown, hts⟩ (uX12_almanac l dC dI H.size hm mi mr km fm sa2 sb2 zf hMI ) (cwV 0 hts (gz_lV lm_23 lm_24 lm_25 lm_9 lm_22 lwGB goodGB) rfl rfl rfl hdV_X12_almanac_X12_0 ⟨Nat.le_of_ble_eq_true rfl, Nat.le_of_ble_eq_true rfl⟩) ⟨bl_I (bl_a bl_sz (bl_a bl_P (bl_a bl_K (bl_a bl_c bl_ST)))), mw2_recv hKx hPx, fun U hU hW => ⟨rfl, by rw [hU], by rw [hU]; exact hPx, va_K.moved hW.alike hKx, hDx.weaken (fun _ _ _ _ => trivial), by rw [hU]; exact ((hTB.kept hS.2.1).narrow hFx).warm hW⟩⟩ rfl rfl hl.1 rfl (lv_room (Nat.le_of_ble_eq_true rfl)) (dk_at dkL_c2 4 rfl) ⟨by show 400 + n + 0 ≤ 600000; omega, by show 40000 + 5 * n + 0 ≤ 7302250; omega⟩) hS (fun q _ h => hFx q h) hFx (fun rm9 u t H1 locs ht hvm hw hB hz1 hk1 hS => ?_)
  obtain ⟨mi2, fm2, hMI2, hrelm, hP1, hD1⟩ := hB
  rw [ht] at hP1
  subst hw
  have hw : True := trivial
  obtain ⟨hP, hD⟩ := gz_joinR hP hD hk1 hFx hP1 hD1
  have hwm := hw
  generalize H1 = H at hP hS ⊢
  refine lv_pop hx hb (dk_at dkL_c2 5 rfl) rfl ?_
  refine lv_goto (tgt := 2056) hx hb (dk_at dkL_c2 6 rfl) (by decide) ?_
  have hN9 := pr_almanac hXI hMI hlen hrelx hrelm
  refine W.widen (k := 400 + (n + 1)) (n := 40000 + 5 * (n + 1)) (by omega) (by omega) ?_
  exact next _ _ _ ⟨ax2, kx2, vx2, fx2, gx2, rx2, mi2, mr, km, fm2, h0, hK, hXI2, hMI2, hN9.1, hP, hD⟩ hS hl
noncomputable def lsL_c3 : List (Nat × Instr × Nat) := [(363, .aload_n 1, 1), (364, .aload_n 0, 1), (365, .iload_n 3, 1), (366, .iconst 1, 1), (367, .iadd, 1), (368, .iaload, 1), (369, .invokevirtual 28, 3), (372, .pop, 1), (373, .aload_n 2, 1), (374, .aload_n 0, 1), (375, .iload_n 3, 1), (376, .iconst 1, 1), (377, .iadd, 1), (378, .iaload, 1), (379, .invokevirtual 31, 3), (382, .pop, 1), (383, .goto 1673, 3)]
theorem dkL_c3 : dkAll cL_law lsL_c3 = true := dk_fast (by decide +kernel)
set_option maxHeartbeats 4000000 in
set_option maxRecDepth 100000 in
theorem law_c3 {p : Program} {l : Launch} {e : Env} {s : State} {m : MethodId} {below : List Frame} {meth : Method} {c : Code} {dC : Nat → ClassId} {dI : Nat → Nat → Nat} {b L : Nat} {xs : Nat → Int32} (hL : L ≤ 3072) (C0 : lw_At p s m meth c b L xs) (hz : nzA s) {sa sb sa2 sb2 : Nat → Nat} {zf : Value} (hTA : gz_ST RX6 stIA sa sb zf (fun q : Nat => s.heap.size ≤ q) s s.heap) (hTB : gz_ST RX12 stIB sa2 sb2 zf (fun q : Nat => s.heap.size ≤ q) s s.heap) {x0 hm n : Nat} (hn : 6 * n + 6 ≤ L) {H : Heap} {locs : List Loc} {ls : Array Slot} (hI : LInv dC dI s x0 hm H) (hS : va_S (fun q : Nat => s.heap.size ≤ q) s.heap H locs) (hl : lv_has ls 4 [(0, .ref b), (1, .ref x0), (2, .ref hm), (3, .int (nI (6 * n)))]) (next : ∀ (H : Heap) (locs : List Loc) (ls : Array Slot), LInv dC dI s x0 hm H → va_S (fun q : Nat => s.heap.size ≤ q) s.heap H locs → lv_has ls 4 [(0, .ref b), (1, .ref x0), (2, .ref hm), (3, .int (nI (6 * n)))] → W p l e room_1 s m #[Value.ref b] below meth c H locs (400 + (n + 1)) (40000 + 5 * (n + 1)) (lw_Z below #[Value.ref b] s) (F0 m 2056 ls [])) : W p l e room_1 s m #[Value.ref b] below meth c H locs (400 + n) (40000 + 5 * n) (lw_Z below #[Value.ref b] s) (F0 m 363 ls []) := by
  obtain ⟨hx, hb, hr, hml, hown0, hts, hX, hbl, hlocks, hgv⟩ := id C0
  have hown : s.vm.findClass RL = some m.cls := hown0
  have hA : ∀ q : Nat, s.heap.size ≤ q → (fun q : Nat => s.heap.size ≤ q) q := fun _ h => h
  have hbA : ¬ (fun q : Nat => s.heap.size ≤ q) b := Nat.not_le.mpr hbl
  obtain ⟨ax, kx, vx, fx, gx, rx, mi, mr, km, fm, rfl, hK, hXI, hMI, hlen, hP, hD⟩ := hI
  refine lv_aload_n hx hb (dk_at dkL_c3 0 rfl) rfl (lv_at hl 1 rfl) ?_
  refine lw_arg hx hb hX hbl hbA hS hl (dk_at dkL_c3 1 rfl) (dk_at dkL_c3 2 rfl) (dk_at dkL_c3 3 rfl) (dk_at dkL_c3 4 rfl) (dk_at dkL_c3 5 rfl) 1 (by decide) (Nat.le_of_ble_eq_true rfl) hn hL (fun a1 ea1 => ?_)
  refine lw_cx (st := [.int a1, .ref (ax 0)]) (rest := []) ⟨hx, hb, hml, hown, hts⟩ (uX11_fault l dC dI H.size ax kx vx fx gx rx hXI a1) (cwV 1 hts (gz_lV lm_27 lm_28 lm_29 lm_4 lm_26 lwGA goodGA) rfl rfl rfl hdV_X11_fault_X11_1 ⟨Nat.le_of_ble_eq_true rfl, Nat.le_of_ble_eq_true rfl⟩) rfl rfl hl.1 (Nat.le_of_ble_eq_true rfl) (dk_at dkL_c3 6 rfl) (lw_rm (a := 0) (b := 0) hn hL (Nat.le_of_ble_eq_true rfl) (Nat.le_of_ble_eq_true rfl)) hz hK hP hD hS (fun rx9 ax2 kx2 vx2 fx2 gx2 rx2 H locs h0 hXI2 hrelx hK hP hD hS => ?_)
  refine lv_pop hx hb (dk_at dkL_c3 7 rfl) rfl ?_
  refine lv_aload_n hx hb (dk_at dkL_c3 8 rfl) rfl (lv_at hl 2 rfl) ?_
  refine lw_arg hx hb hX hbl hbA hS hl (dk_at dkL_c3 9 rfl) (dk_at dkL_c3 10 rfl) (dk_at dkL_c3 11 rfl) (dk_at dkL_c3 12 rfl) (dk_at dkL_c3 13 rfl) 1 (by decide) (Nat.le_of_ble_eq_true rfl) hn hL (fun a2 ea2 => ?_)
  refine lw_cm (st := [.int a2, .ref hm]) (rest := []) ⟨hx, hb, hml, hown, hts⟩ (uX12_fault l dC dI H.size hm mi mr km fm hMI a2) (cwV 1 hts (gz_lV lm_31 lm_32 lm_33 lm_9 lm_30 lwGB goodGB) rfl rfl rfl hdV_X12_fault_X12_1 ⟨Nat.le_of_ble_eq_true rfl, Nat.le_of_ble_eq_true rfl⟩) rfl rfl hl.1 (Nat.le_of_ble_eq_true rfl) (dk_at dkL_c3 14 rfl) (lw_rm2 (a := 0) (b := 0) (a2 := 0) (b2 := 0) hn hL (Nat.le_of_ble_eq_true rfl) (Nat.le_of_ble_eq_true rfl)) hK hP hD hS (fun rm9 mi2 fm2 H locs hMI2 hrelm hP hD hS => ?_)
  refine lv_pop hx hb (dk_at dkL_c3 15 rfl) rfl ?_
  refine lv_goto (tgt := 2056) hx hb (dk_at dkL_c3 16 rfl) (by decide) ?_
  have e90 : a2 = a1 := ea2.trans ea1.symm
  rw [e90] at hrelm
  have hN9 := pr_fault hXI hMI hlen hrelx hrelm
  refine W.widen (k := 400 + (n + 1)) (n := 40000 + 5 * (n + 1)) (by omega) (by omega) ?_
  exact next _ _ _ ⟨ax2, kx2, vx2, fx2, gx2, rx2, mi2, mr, km, fm2, h0, hK, hXI2, hMI2, hN9.1, hP, hD⟩ hS hl
noncomputable def lsL_c4 : List (Nat × Instr × Nat) := [(386, .aload_n 1, 1), (387, .aload_n 0, 1), (388, .iload_n 3, 1), (389, .iconst 1, 1), (390, .iadd, 1), (391, .iaload, 1), (392, .invokevirtual 32, 3), (395, .pop, 1), (396, .aload_n 2, 1), (397, .aload_n 0, 1), (398, .iload_n 3, 1), (399, .iconst 1, 1), (400, .iadd, 1), (401, .iaload, 1), (402, .invokevirtual 35, 3), (405, .pop, 1), (406, .goto 1650, 3)]
theorem dkL_c4 : dkAll cL_law lsL_c4 = true := dk_fast (by decide +kernel)
set_option maxHeartbeats 4000000 in
set_option maxRecDepth 100000 in
theorem law_c4 {p : Program} {l : Launch} {e : Env} {s : State} {m : MethodId} {below : List Frame} {meth : Method} {c : Code} {dC : Nat → ClassId} {dI : Nat → Nat → Nat} {b L : Nat} {xs : Nat → Int32} (hL : L ≤ 3072) (C0 : lw_At p s m meth c b L xs) (hz : nzA s) {sa sb sa2 sb2 : Nat → Nat} {zf : Value} (hTA : gz_ST RX6 stIA sa sb zf (fun q : Nat => s.heap.size ≤ q) s s.heap) (hTB : gz_ST RX12 stIB sa2 sb2 zf (fun q : Nat => s.heap.size ≤ q) s s.heap) {x0 hm n : Nat} (hn : 6 * n + 6 ≤ L) {H : Heap} {locs : List Loc} {ls : Array Slot} (hI : LInv dC dI s x0 hm H) (hS : va_S (fun q : Nat => s.heap.size ≤ q) s.heap H locs) (hl : lv_has ls 4 [(0, .ref b), (1, .ref x0), (2, .ref hm), (3, .int (nI (6 * n)))]) (next : ∀ (H : Heap) (locs : List Loc) (ls : Array Slot), LInv dC dI s x0 hm H → va_S (fun q : Nat => s.heap.size ≤ q) s.heap H locs → lv_has ls 4 [(0, .ref b), (1, .ref x0), (2, .ref hm), (3, .int (nI (6 * n)))] → W p l e room_1 s m #[Value.ref b] below meth c H locs (400 + (n + 1)) (40000 + 5 * (n + 1)) (lw_Z below #[Value.ref b] s) (F0 m 2056 ls [])) : W p l e room_1 s m #[Value.ref b] below meth c H locs (400 + n) (40000 + 5 * n) (lw_Z below #[Value.ref b] s) (F0 m 386 ls []) := by
  obtain ⟨hx, hb, hr, hml, hown0, hts, hX, hbl, hlocks, hgv⟩ := id C0
  have hown : s.vm.findClass RL = some m.cls := hown0
  have hA : ∀ q : Nat, s.heap.size ≤ q → (fun q : Nat => s.heap.size ≤ q) q := fun _ h => h
  have hbA : ¬ (fun q : Nat => s.heap.size ≤ q) b := Nat.not_le.mpr hbl
  obtain ⟨ax, kx, vx, fx, gx, rx, mi, mr, km, fm, rfl, hK, hXI, hMI, hlen, hP, hD⟩ := hI
  refine lv_aload_n hx hb (dk_at dkL_c4 0 rfl) rfl (lv_at hl 1 rfl) ?_
  refine lw_arg hx hb hX hbl hbA hS hl (dk_at dkL_c4 1 rfl) (dk_at dkL_c4 2 rfl) (dk_at dkL_c4 3 rfl) (dk_at dkL_c4 4 rfl) (dk_at dkL_c4 5 rfl) 1 (by decide) (Nat.le_of_ble_eq_true rfl) hn hL (fun a1 ea1 => ?_)
  refine lw_cx (st := [.int a1, .ref (ax 0)]) (rest := []) ⟨hx, hb, hml, hown, hts⟩ (uX11_count l dC dI H.size ax kx vx fx gx rx hXI a1) (cwV 1 hts (gz_lV lm_35 lm_36 lm_37 lm_4 lm_34 lwGA goodGA) rfl rfl rfl hdV_X11_count_X11_1 ⟨Nat.le_of_ble_eq_true rfl, Nat.le_of_ble_eq_true rfl⟩) rfl rfl hl.1 (Nat.le_of_ble_eq_true rfl) (dk_at dkL_c4 6 rfl) (lw_rm (a := 0) (b := 0) hn hL (Nat.le_of_ble_eq_true rfl) (Nat.le_of_ble_eq_true rfl)) hz hK hP hD hS (fun rx9 ax2 kx2 vx2 fx2 gx2 rx2 H locs h0 hXI2 hrelx hK hP hD hS => ?_)
  refine lv_pop hx hb (dk_at dkL_c4 7 rfl) rfl ?_
  refine lv_aload_n hx hb (dk_at dkL_c4 8 rfl) rfl (lv_at hl 2 rfl) ?_
  refine lw_arg hx hb hX hbl hbA hS hl (dk_at dkL_c4 9 rfl) (dk_at dkL_c4 10 rfl) (dk_at dkL_c4 11 rfl) (dk_at dkL_c4 12 rfl) (dk_at dkL_c4 13 rfl) 1 (by decide) (Nat.le_of_ble_eq_true rfl) hn hL (fun a2 ea2 => ?_)
  refine lw_cm (st := [.int a2, .ref hm]) (rest := []) ⟨hx, hb, hml, hown, hts⟩ (uX12_count l dC dI H.size hm mi mr km fm hMI a2) (cwV 1 hts (gz_lV lm_39 lm_40 lm_41 lm_9 lm_38 lwGB goodGB) rfl rfl rfl hdV_X12_count_X12_1 ⟨Nat.le_of_ble_eq_true rfl, Nat.le_of_ble_eq_true rfl⟩) rfl rfl hl.1 (Nat.le_of_ble_eq_true rfl) (dk_at dkL_c4 14 rfl) (lw_rm2 (a := 0) (b := 0) (a2 := 0) (b2 := 0) hn hL (Nat.le_of_ble_eq_true rfl) (Nat.le_of_ble_eq_true rfl)) hK hP hD hS (fun rm9 mi2 fm2 H locs hMI2 hrelm hP hD hS => ?_)
  refine lv_pop hx hb (dk_at dkL_c4 15 rfl) rfl ?_
  refine lv_goto (tgt := 2056) hx hb (dk_at dkL_c4 16 rfl) (by decide) ?_
  have e90 : a2 = a1 := ea2.trans ea1.symm
  rw [e90] at hrelm
  have hN9 := pr_count hXI hMI hlen hrelx hrelm
  refine W.widen (k := 400 + (n + 1)) (n := 40000 + 5 * (n + 1)) (by omega) (by omega) ?_
  exact next _ _ _ ⟨ax2, kx2, vx2, fx2, gx2, rx2, mi2, mr, km, fm2, h0, hK, hXI2, hMI2, hN9.1, hP, hD⟩ hS hl
noncomputable def lsL_c5 : List (Nat × Instr × Nat) := [(409, .aload_n 1, 1), (410, .aload_n 0, 1), (411, .iload_n 3, 1), (412, .iconst 1, 1), (413, .iadd, 1), (414, .iaload, 1), (415, .aload_n 0, 1), (416, .iload_n 3, 1), (417, .iconst 2, 1), (418, .iadd, 1), (419, .iaload, 1), (420, .invokevirtual 36, 3), (423, .pop, 1), (424, .aload_n 2, 1), (425, .aload_n 0, 1), (426, .iload_n 3, 1), (427, .iconst 1, 1), (428, .iadd, 1), (429, .iaload, 1), (430, .aload_n 0, 1), (431, .iload_n 3, 1), (432, .iconst 2, 1), (433, .iadd, 1), (434, .iaload, 1), (435, .invokevirtual 40, 3), (438, .pop, 1), (439, .goto 1617, 3)]
theorem dkL_c5 : dkAll cL_law lsL_c5 = true := dk_fast (by decide +kernel)
set_option maxHeartbeats 4000000 in
set_option maxRecDepth 100000 in
theorem law_c5 {p : Program} {l : Launch} {e : Env} {s : State} {m : MethodId} {below : List Frame} {meth : Method} {c : Code} {dC : Nat → ClassId} {dI : Nat → Nat → Nat} {b L : Nat} {xs : Nat → Int32} (hL : L ≤ 3072) (C0 : lw_At p s m meth c b L xs) (hz : nzA s) {sa sb sa2 sb2 : Nat → Nat} {zf : Value} (hTA : gz_ST RX6 stIA sa sb zf (fun q : Nat => s.heap.size ≤ q) s s.heap) (hTB : gz_ST RX12 stIB sa2 sb2 zf (fun q : Nat => s.heap.size ≤ q) s s.heap) {x0 hm n : Nat} (hn : 6 * n + 6 ≤ L) {H : Heap} {locs : List Loc} {ls : Array Slot} (hI : LInv dC dI s x0 hm H) (hS : va_S (fun q : Nat => s.heap.size ≤ q) s.heap H locs) (hl : lv_has ls 4 [(0, .ref b), (1, .ref x0), (2, .ref hm), (3, .int (nI (6 * n)))]) (next : ∀ (H : Heap) (locs : List Loc) (ls : Array Slot), LInv dC dI s x0 hm H → va_S (fun q : Nat => s.heap.size ≤ q) s.heap H locs → lv_has ls 4 [(0, .ref b), (1, .ref x0), (2, .ref hm), (3, .int (nI (6 * n)))] → W p l e room_1 s m #[Value.ref b] below meth c H locs (400 + (n + 1)) (40000 + 5 * (n + 1)) (lw_Z below #[Value.ref b] s) (F0 m 2056 ls [])) : W p l e room_1 s m #[Value.ref b] below meth c H locs (400 + n) (40000 + 5 * n) (lw_Z below #[Value.ref b] s) (F0 m 409 ls []) := by
  obtain ⟨hx, hb, hr, hml, hown0, hts, hX, hbl, hlocks, hgv⟩ := id C0
  have hown : s.vm.findClass RL = some m.cls := hown0
  have hA : ∀ q : Nat, s.heap.size ≤ q → (fun q : Nat => s.heap.size ≤ q) q := fun _ h => h
  have hbA : ¬ (fun q : Nat => s.heap.size ≤ q) b := Nat.not_le.mpr hbl
  obtain ⟨ax, kx, vx, fx, gx, rx, mi, mr, km, fm, rfl, hK, hXI, hMI, hlen, hP, hD⟩ := hI
  refine lv_aload_n hx hb (dk_at dkL_c5 0 rfl) rfl (lv_at hl 1 rfl) ?_
  refine lw_arg hx hb hX hbl hbA hS hl (dk_at dkL_c5 1 rfl) (dk_at dkL_c5 2 rfl) (dk_at dkL_c5 3 rfl) (dk_at dkL_c5 4 rfl) (dk_at dkL_c5 5 rfl) 1 (by decide) (Nat.le_of_ble_eq_true rfl) hn hL (fun a1 ea1 => ?_)
  refine lw_arg hx hb hX hbl hbA hS hl (dk_at dkL_c5 6 rfl) (dk_at dkL_c5 7 rfl) (dk_at dkL_c5 8 rfl) (dk_at dkL_c5 9 rfl) (dk_at dkL_c5 10 rfl) 2 (by decide) (Nat.le_of_ble_eq_true rfl) hn hL (fun a2 ea2 => ?_)
  refine lw_cx (st := [.int a2, .int a1, .ref (ax 0)]) (rest := []) ⟨hx, hb, hml, hown, hts⟩ (uX11_place l dC dI H.size ax kx vx fx gx rx hXI a1 a2) (cwV 2 hts (gz_lV lm_43 lm_44 lm_45 lm_4 lm_42 lwGA goodGA) rfl rfl rfl hdV_X11_place_X11_2 ⟨Nat.le_of_ble_eq_true rfl, Nat.le_of_ble_eq_true rfl⟩) rfl rfl hl.1 (Nat.le_of_ble_eq_true rfl) (dk_at dkL_c5 11 rfl) (lw_rm (a := 0) (b := 0) hn hL (Nat.le_of_ble_eq_true rfl) (Nat.le_of_ble_eq_true rfl)) hz hK hP hD hS (fun rx9 ax2 kx2 vx2 fx2 gx2 rx2 H locs h0 hXI2 hrelx hK hP hD hS => ?_)
  refine lv_pop hx hb (dk_at dkL_c5 12 rfl) rfl ?_
  refine lv_aload_n hx hb (dk_at dkL_c5 13 rfl) rfl (lv_at hl 2 rfl) ?_
  refine lw_arg hx hb hX hbl hbA hS hl (dk_at dkL_c5 14 rfl) (dk_at dkL_c5 15 rfl) (dk_at dkL_c5 16 rfl) (dk_at dkL_c5 17 rfl) (dk_at dkL_c5 18 rfl) 1 (by decide) (Nat.le_of_ble_eq_true rfl) hn hL (fun a3 ea3 => ?_)
  refine lw_arg hx hb hX hbl hbA hS hl (dk_at dkL_c5 19 rfl) (dk_at dkL_c5 20 rfl) (dk_at dkL_c5 21 rfl) (dk_at dkL_c5 22 rfl) (dk_at dkL_c5 23 rfl) 2 (by decide) (Nat.le_of_ble_eq_true rfl) hn hL (fun a4 ea4 => ?_)
  refine lw_cm (st := [.int a4, .int a3, .ref hm]) (rest := []) ⟨hx, hb, hml, hown, hts⟩ (uX12_place l dC dI H.size hm mi mr km fm hMI a3 a4) (cwV 2 hts (gz_lV lm_47 lm_48 lm_49 lm_9 lm_46 lwGB goodGB) rfl rfl rfl hdV_X12_place_X12_2 ⟨Nat.le_of_ble_eq_true rfl, Nat.le_of_ble_eq_true rfl⟩) rfl rfl hl.1 (Nat.le_of_ble_eq_true rfl) (dk_at dkL_c5 24 rfl) (lw_rm2 (a := 0) (b := 0) (a2 := 0) (b2 := 0) hn hL (Nat.le_of_ble_eq_true rfl) (Nat.le_of_ble_eq_true rfl)) hK hP hD hS (fun rm9 mi2 fm2 H locs hMI2 hrelm hP hD hS => ?_)
  refine lv_pop hx hb (dk_at dkL_c5 25 rfl) rfl ?_
  refine lv_goto (tgt := 2056) hx hb (dk_at dkL_c5 26 rfl) (by decide) ?_
  have e90 : a3 = a1 := ea3.trans ea1.symm
  have e91 : a4 = a2 := ea4.trans ea2.symm
  rw [e90, e91] at hrelm
  have hN9 := pr_place hXI hMI hlen hrelx hrelm
  refine W.widen (k := 400 + (n + 1)) (n := 40000 + 5 * (n + 1)) (by omega) (by omega) ?_
  exact next _ _ _ ⟨ax2, kx2, vx2, fx2, gx2, rx2, mi2, mr, km, fm2, h0, hK, hXI2, hMI2, hN9.1, hP, hD⟩ hS hl
noncomputable def lsL_c6 : List (Nat × Instr × Nat) := [(442, .aload_n 1, 1), (443, .aload_n 0, 1), (444, .iload_n 3, 1), (445, .iconst 1, 1), (446, .iadd, 1), (447, .iaload, 1), (448, .aload_n 0, 1), (449, .iload_n 3, 1), (450, .iconst 2, 1), (451, .iadd, 1), (452, .iaload, 1), (453, .invokevirtual 41, 3), (456, .pop, 1), (457, .aload_n 2, 1), (458, .aload_n 0, 1), (459, .iload_n 3, 1), (460, .iconst 1, 1), (461, .iadd, 1), (462, .iaload, 1), (463, .aload_n 0, 1), (464, .iload_n 3, 1), (465, .iconst 2, 1), (466, .iadd, 1), (467, .iaload, 1), (468, .invokevirtual 44, 3), (471, .pop, 1), (472, .goto 1584, 3)]
theorem dkL_c6 : dkAll cL_law lsL_c6 = true := dk_fast (by decide +kernel)
set_option maxHeartbeats 4000000 in
set_option maxRecDepth 100000 in
theorem law_c6 {p : Program} {l : Launch} {e : Env} {s : State} {m : MethodId} {below : List Frame} {meth : Method} {c : Code} {dC : Nat → ClassId} {dI : Nat → Nat → Nat} {b L : Nat} {xs : Nat → Int32} (hL : L ≤ 3072) (C0 : lw_At p s m meth c b L xs) (hz : nzA s) {sa sb sa2 sb2 : Nat → Nat} {zf : Value} (hTA : gz_ST RX6 stIA sa sb zf (fun q : Nat => s.heap.size ≤ q) s s.heap) (hTB : gz_ST RX12 stIB sa2 sb2 zf (fun q : Nat => s.heap.size ≤ q) s s.heap) {x0 hm n : Nat} (hn : 6 * n + 6 ≤ L) {H : Heap} {locs : List Loc} {ls : Array Slot} (hI : LInv dC dI s x0 hm H) (hS : va_S (fun q : Nat => s.heap.size ≤ q) s.heap H locs) (hl : lv_has ls 4 [(0, .ref b), (1, .ref x0), (2, .ref hm), (3, .int (nI (6 * n)))]) (next : ∀ (H : Heap) (locs : List Loc) (ls : Array Slot), LInv dC dI s x0 hm H → va_S (fun q : Nat => s.heap.size ≤ q) s.heap H locs → lv_has ls 4 [(0, .ref b), (1, .ref x0), (2, .ref hm), (3, .int (nI (6 * n)))] → W p l e room_1 s m #[Value.ref b] below meth c H locs (400 + (n + 1)) (40000 + 5 * (n + 1)) (lw_Z below #[Value.ref b] s) (F0 m 2056 ls [])) : W p l e room_1 s m #[Value.ref b] below meth c H locs (400 + n) (40000 + 5 * n) (lw_Z below #[Value.ref b] s) (F0 m 442 ls []) := by
  obtain ⟨hx, hb, hr, hml, hown0, hts, hX, hbl, hlocks, hgv⟩ := id C0
  have hown : s.vm.findClass RL = some m.cls := hown0
  have hA : ∀ q : Nat, s.heap.size ≤ q → (fun q : Nat => s.heap.size ≤ q) q := fun _ h => h
  have hbA : ¬ (fun q : Nat => s.heap.size ≤ q) b := Nat.not_le.mpr hbl
  obtain ⟨ax, kx, vx, fx, gx, rx, mi, mr, km, fm, rfl, hK, hXI, hMI, hlen, hP, hD⟩ := hI
  refine lv_aload_n hx hb (dk_at dkL_c6 0 rfl) rfl (lv_at hl 1 rfl) ?_
  refine lw_arg hx hb hX hbl hbA hS hl (dk_at dkL_c6 1 rfl) (dk_at dkL_c6 2 rfl) (dk_at dkL_c6 3 rfl) (dk_at dkL_c6 4 rfl) (dk_at dkL_c6 5 rfl) 1 (by decide) (Nat.le_of_ble_eq_true rfl) hn hL (fun a1 ea1 => ?_)
  refine lw_arg hx hb hX hbl hbA hS hl (dk_at dkL_c6 6 rfl) (dk_at dkL_c6 7 rfl) (dk_at dkL_c6 8 rfl) (dk_at dkL_c6 9 rfl) (dk_at dkL_c6 10 rfl) 2 (by decide) (Nat.le_of_ble_eq_true rfl) hn hL (fun a2 ea2 => ?_)
  refine lw_cx (st := [.int a2, .int a1, .ref (ax 0)]) (rest := []) ⟨hx, hb, hml, hown, hts⟩ (uX11_report l dC dI H.size ax kx vx fx gx rx hXI a1 a2) (cwV 2 hts (gz_lV lm_51 lm_52 lm_53 lm_4 lm_50 lwGA goodGA) rfl rfl rfl hdV_X11_report_X11_2 ⟨Nat.le_of_ble_eq_true rfl, Nat.le_of_ble_eq_true rfl⟩) rfl rfl hl.1 (Nat.le_of_ble_eq_true rfl) (dk_at dkL_c6 11 rfl) (lw_rm (a := 0) (b := 0) hn hL (Nat.le_of_ble_eq_true rfl) (Nat.le_of_ble_eq_true rfl)) hz hK hP hD hS (fun rx9 ax2 kx2 vx2 fx2 gx2 rx2 H locs h0 hXI2 hrelx hK hP hD hS => ?_)
  refine lv_pop hx hb (dk_at dkL_c6 12 rfl) rfl ?_
  refine lv_aload_n hx hb (dk_at dkL_c6 13 rfl) rfl (lv_at hl 2 rfl) ?_
  refine lw_arg hx hb hX hbl hbA hS hl (dk_at dkL_c6 14 rfl) (dk_at dkL_c6 15 rfl) (dk_at dkL_c6 16 rfl) (dk_at dkL_c6 17 rfl) (dk_at dkL_c6 18 rfl) 1 (by decide) (Nat.le_of_ble_eq_true rfl) hn hL (fun a3 ea3 => ?_)
  refine lw_arg hx hb hX hbl hbA hS hl (dk_at dkL_c6 19 rfl) (dk_at dkL_c6 20 rfl) (dk_at dkL_c6 21 rfl) (dk_at dkL_c6 22 rfl) (dk_at dkL_c6 23 rfl) 2 (by decide) (Nat.le_of_ble_eq_true rfl) hn hL (fun a4 ea4 => ?_)
  refine lw_cm (st := [.int a4, .int a3, .ref hm]) (rest := []) ⟨hx, hb, hml, hown, hts⟩ (uX12_report l dC dI H.size hm mi mr km fm hMI a3 a4) (cwV 2 hts (gz_lV lm_55 lm_56 lm_57 lm_9 lm_54 lwGB goodGB) rfl rfl rfl hdV_X12_report_X12_2 ⟨Nat.le_of_ble_eq_true rfl, Nat.le_of_ble_eq_true rfl⟩) rfl rfl hl.1 (Nat.le_of_ble_eq_true rfl) (dk_at dkL_c6 24 rfl) (lw_rm2 (a := 0) (b := 0) (a2 := 0) (b2 := 0) hn hL (Nat.le_of_ble_eq_true rfl) (Nat.le_of_ble_eq_true rfl)) hK hP hD hS (fun rm9 mi2 fm2 H locs hMI2 hrelm hP hD hS => ?_)
  refine lv_pop hx hb (dk_at dkL_c6 25 rfl) rfl ?_
  refine lv_goto (tgt := 2056) hx hb (dk_at dkL_c6 26 rfl) (by decide) ?_
  have e90 : a3 = a1 := ea3.trans ea1.symm
  have e91 : a4 = a2 := ea4.trans ea2.symm
  rw [e90, e91] at hrelm
  have hN9 := pr_report hXI hMI hlen hrelx hrelm
  refine W.widen (k := 400 + (n + 1)) (n := 40000 + 5 * (n + 1)) (by omega) (by omega) ?_
  exact next _ _ _ ⟨ax2, kx2, vx2, fx2, gx2, rx2, mi2, mr, km, fm2, h0, hK, hXI2, hMI2, hN9.1, hP, hD⟩ hS hl
noncomputable def lsL_c7 : List (Nat × Instr × Nat) := [(475, .aload_n 1, 1), (476, .aload_n 0, 1), (477, .iload_n 3, 1), (478, .iconst 1, 1), (479, .iadd, 1), (480, .iaload, 1), (481, .aload_n 0, 1), (482, .iload_n 3, 1), (483, .iconst 2, 1), (484, .iadd, 1), (485, .iaload, 1), (486, .invokevirtual 45, 3), (489, .pop, 1), (490, .aload_n 2, 1), (491, .aload_n 0, 1), (492, .iload_n 3, 1), (493, .iconst 1, 1), (494, .iadd, 1), (495, .iaload, 1), (496, .aload_n 0, 1), (497, .iload_n 3, 1), (498, .iconst 2, 1), (499, .iadd, 1), (500, .iaload, 1), (501, .invokevirtual 48, 3), (504, .pop, 1), (505, .goto 1551, 3)]
theorem dkL_c7 : dkAll cL_law lsL_c7 = true := dk_fast (by decide +kernel)
set_option maxHeartbeats 4000000 in
set_option maxRecDepth 100000 in
theorem law_c7 {p : Program} {l : Launch} {e : Env} {s : State} {m : MethodId} {below : List Frame} {meth : Method} {c : Code} {dC : Nat → ClassId} {dI : Nat → Nat → Nat} {b L : Nat} {xs : Nat → Int32} (hL : L ≤ 3072) (C0 : lw_At p s m meth c b L xs) (hz : nzA s) {sa sb sa2 sb2 : Nat → Nat} {zf : Value} (hTA : gz_ST RX6 stIA sa sb zf (fun q : Nat => s.heap.size ≤ q) s s.heap) (hTB : gz_ST RX12 stIB sa2 sb2 zf (fun q : Nat => s.heap.size ≤ q) s s.heap) {x0 hm n : Nat} (hn : 6 * n + 6 ≤ L) {H : Heap} {locs : List Loc} {ls : Array Slot} (hI : LInv dC dI s x0 hm H) (hS : va_S (fun q : Nat => s.heap.size ≤ q) s.heap H locs) (hl : lv_has ls 4 [(0, .ref b), (1, .ref x0), (2, .ref hm), (3, .int (nI (6 * n)))]) (next : ∀ (H : Heap) (locs : List Loc) (ls : Array Slot), LInv dC dI s x0 hm H → va_S (fun q : Nat => s.heap.size ≤ q) s.heap H locs → lv_has ls 4 [(0, .ref b), (1, .ref x0), (2, .ref hm), (3, .int (nI (6 * n)))] → W p l e room_1 s m #[Value.ref b] below meth c H locs (400 + (n + 1)) (40000 + 5 * (n + 1)) (lw_Z below #[Value.ref b] s) (F0 m 2056 ls [])) : W p l e room_1 s m #[Value.ref b] below meth c H locs (400 + n) (40000 + 5 * n) (lw_Z below #[Value.ref b] s) (F0 m 475 ls []) := by
  obtain ⟨hx, hb, hr, hml, hown0, hts, hX, hbl, hlocks, hgv⟩ := id C0
  have hown : s.vm.findClass RL = some m.cls := hown0
  have hA : ∀ q : Nat, s.heap.size ≤ q → (fun q : Nat => s.heap.size ≤ q) q := fun _ h => h
  have hbA : ¬ (fun q : Nat => s.heap.size ≤ q) b := Nat.not_le.mpr hbl
  obtain ⟨ax, kx, vx, fx, gx, rx, mi, mr, km, fm, rfl, hK, hXI, hMI, hlen, hP, hD⟩ := hI
  refine lv_aload_n hx hb (dk_at dkL_c7 0 rfl) rfl (lv_at hl 1 rfl) ?_
  refine lw_arg hx hb hX hbl hbA hS hl (dk_at dkL_c7 1 rfl) (dk_at dkL_c7 2 rfl) (dk_at dkL_c7 3 rfl) (dk_at dkL_c7 4 rfl) (dk_at dkL_c7 5 rfl) 1 (by decide) (Nat.le_of_ble_eq_true rfl) hn hL (fun a1 ea1 => ?_)
  refine lw_arg hx hb hX hbl hbA hS hl (dk_at dkL_c7 6 rfl) (dk_at dkL_c7 7 rfl) (dk_at dkL_c7 8 rfl) (dk_at dkL_c7 9 rfl) (dk_at dkL_c7 10 rfl) 2 (by decide) (Nat.le_of_ble_eq_true rfl) hn hL (fun a2 ea2 => ?_)
  refine lw_cx (st := [.int a2, .int a1, .ref (ax 0)]) (rest := []) ⟨hx, hb, hml, hown, hts⟩ (uX11_deed l dC dI H.size ax kx vx fx gx rx hXI a1 a2) (cwV 2 hts (gz_lV lm_59 lm_60 lm_61 lm_4 lm_58 lwGA goodGA) rfl rfl rfl hdV_X11_deed_X11_2 ⟨Nat.le_of_ble_eq_true rfl, Nat.le_of_ble_eq_true rfl⟩) rfl rfl hl.1 (Nat.le_of_ble_eq_true rfl) (dk_at dkL_c7 11 rfl) (lw_rm (a := 0) (b := 0) hn hL (Nat.le_of_ble_eq_true rfl) (Nat.le_of_ble_eq_true rfl)) hz hK hP hD hS (fun rx9 ax2 kx2 vx2 fx2 gx2 rx2 H locs h0 hXI2 hrelx hK hP hD hS => ?_)
  refine lv_pop hx hb (dk_at dkL_c7 12 rfl) rfl ?_
  refine lv_aload_n hx hb (dk_at dkL_c7 13 rfl) rfl (lv_at hl 2 rfl) ?_
  refine lw_arg hx hb hX hbl hbA hS hl (dk_at dkL_c7 14 rfl) (dk_at dkL_c7 15 rfl) (dk_at dkL_c7 16 rfl) (dk_at dkL_c7 17 rfl) (dk_at dkL_c7 18 rfl) 1 (by decide) (Nat.le_of_ble_eq_true rfl) hn hL (fun a3 ea3 => ?_)
  refine lw_arg hx hb hX hbl hbA hS hl (dk_at dkL_c7 19 rfl) (dk_at dkL_c7 20 rfl) (dk_at dkL_c7 21 rfl) (dk_at dkL_c7 22 rfl) (dk_at dkL_c7 23 rfl) 2 (by decide) (Nat.le_of_ble_eq_true rfl) hn hL (fun a4 ea4 => ?_)
  refine lw_cm (st := [.int a4, .int a3, .ref hm]) (rest := []) ⟨hx, hb, hml, hown, hts⟩ (uX12_deed l dC dI H.size hm mi mr km fm hMI a3 a4) (cwV 2 hts (gz_lV lm_63 lm_64 lm_65 lm_9 lm_62 lwGB goodGB) rfl rfl rfl hdV_X12_deed_X12_2 ⟨Nat.le_of_ble_eq_true rfl, Nat.le_of_ble_eq_true rfl⟩) rfl rfl hl.1 (Nat.le_of_ble_eq_true rfl) (dk_at dkL_c7 24 rfl) (lw_rm2 (a := 0) (b := 0) (a2 := 0) (b2 := 0) hn hL (Nat.le_of_ble_eq_true rfl) (Nat.le_of_ble_eq_true rfl)) hK hP hD hS (fun rm9 mi2 fm2 H locs hMI2 hrelm hP hD hS => ?_)
  refine lv_pop hx hb (dk_at dkL_c7 25 rfl) rfl ?_
  refine lv_goto (tgt := 2056) hx hb (dk_at dkL_c7 26 rfl) (by decide) ?_
  have e90 : a3 = a1 := ea3.trans ea1.symm
  have e91 : a4 = a2 := ea4.trans ea2.symm
  rw [e90, e91] at hrelm
  have hN9 := pr_deed hXI hMI hlen hrelx hrelm
  refine W.widen (k := 400 + (n + 1)) (n := 40000 + 5 * (n + 1)) (by omega) (by omega) ?_
  exact next _ _ _ ⟨ax2, kx2, vx2, fx2, gx2, rx2, mi2, mr, km, fm2, h0, hK, hXI2, hMI2, hN9.1, hP, hD⟩ hS hl
noncomputable def lsL_c8 : List (Nat × Instr × Nat) := [(508, .aload_n 1, 1), (509, .aload_n 0, 1), (510, .iload_n 3, 1), (511, .iconst 1, 1), (512, .iadd, 1), (513, .iaload, 1), (514, .invokevirtual 49, 3), (517, .pop, 1), (518, .aload_n 2, 1), (519, .aload_n 0, 1), (520, .iload_n 3, 1), (521, .iconst 1, 1), (522, .iadd, 1), (523, .iaload, 1), (524, .invokevirtual 52, 3), (527, .pop, 1), (528, .goto 1528, 3)]
theorem dkL_c8 : dkAll cL_law lsL_c8 = true := dk_fast (by decide +kernel)
set_option maxHeartbeats 4000000 in
set_option maxRecDepth 100000 in
theorem law_c8 {p : Program} {l : Launch} {e : Env} {s : State} {m : MethodId} {below : List Frame} {meth : Method} {c : Code} {dC : Nat → ClassId} {dI : Nat → Nat → Nat} {b L : Nat} {xs : Nat → Int32} (hL : L ≤ 3072) (C0 : lw_At p s m meth c b L xs) (hz : nzA s) {sa sb sa2 sb2 : Nat → Nat} {zf : Value} (hTA : gz_ST RX6 stIA sa sb zf (fun q : Nat => s.heap.size ≤ q) s s.heap) (hTB : gz_ST RX12 stIB sa2 sb2 zf (fun q : Nat => s.heap.size ≤ q) s s.heap) {x0 hm n : Nat} (hn : 6 * n + 6 ≤ L) {H : Heap} {locs : List Loc} {ls : Array Slot} (hI : LInv dC dI s x0 hm H) (hS : va_S (fun q : Nat => s.heap.size ≤ q) s.heap H locs) (hl : lv_has ls 4 [(0, .ref b), (1, .ref x0), (2, .ref hm), (3, .int (nI (6 * n)))]) (next : ∀ (H : Heap) (locs : List Loc) (ls : Array Slot), LInv dC dI s x0 hm H → va_S (fun q : Nat => s.heap.size ≤ q) s.heap H locs → lv_has ls 4 [(0, .ref b), (1, .ref x0), (2, .ref hm), (3, .int (nI (6 * n)))] → W p l e room_1 s m #[Value.ref b] below meth c H locs (400 + (n + 1)) (40000 + 5 * (n + 1)) (lw_Z below #[Value.ref b] s) (F0 m 2056 ls [])) : W p l e room_1 s m #[Value.ref b] below meth c H locs (400 + n) (40000 + 5 * n) (lw_Z below #[Value.ref b] s) (F0 m 508 ls []) := by
  obtain ⟨hx, hb, hr, hml, hown0, hts, hX, hbl, hlocks, hgv⟩ := id C0
  have hown : s.vm.findClass RL = some m.cls := hown0
  have hA : ∀ q : Nat, s.heap.size ≤ q → (fun q : Nat => s.heap.size ≤ q) q := fun _ h => h
  have hbA : ¬ (fun q : Nat => s.heap.size ≤ q) b := Nat.not_le.mpr hbl
  obtain ⟨ax, kx, vx, fx, gx, rx, mi, mr, km, fm, rfl, hK, hXI, hMI, hlen, hP, hD⟩ := hI
  refine lv_aload_n hx hb (dk_at dkL_c8 0 rfl) rfl (lv_at hl 1 rfl) ?_
  refine lw_arg hx hb hX hbl hbA hS hl (dk_at dkL_c8 1 rfl) (dk_at dkL_c8 2 rfl) (dk_at dkL_c8 3 rfl) (dk_at dkL_c8 4 rfl) (dk_at dkL_c8 5 rfl) 1 (by decide) (Nat.le_of_ble_eq_true rfl) hn hL (fun a1 ea1 => ?_)
  refine lw_cx (st := [.int a1, .ref (ax 0)]) (rest := []) ⟨hx, hb, hml, hown, hts⟩ (uX11_early l dC dI H.size ax kx vx fx gx rx hXI a1) (cwV 1 hts (gz_lV lm_67 lm_68 lm_69 lm_4 lm_66 lwGA goodGA) rfl rfl rfl hdV_X11_early_X11_1 ⟨Nat.le_of_ble_eq_true rfl, Nat.le_of_ble_eq_true rfl⟩) rfl rfl hl.1 (Nat.le_of_ble_eq_true rfl) (dk_at dkL_c8 6 rfl) (lw_rm (a := 0) (b := 0) hn hL (Nat.le_of_ble_eq_true rfl) (Nat.le_of_ble_eq_true rfl)) hz hK hP hD hS (fun rx9 ax2 kx2 vx2 fx2 gx2 rx2 H locs h0 hXI2 hrelx hK hP hD hS => ?_)
  refine lv_pop hx hb (dk_at dkL_c8 7 rfl) rfl ?_
  refine lv_aload_n hx hb (dk_at dkL_c8 8 rfl) rfl (lv_at hl 2 rfl) ?_
  refine lw_arg hx hb hX hbl hbA hS hl (dk_at dkL_c8 9 rfl) (dk_at dkL_c8 10 rfl) (dk_at dkL_c8 11 rfl) (dk_at dkL_c8 12 rfl) (dk_at dkL_c8 13 rfl) 1 (by decide) (Nat.le_of_ble_eq_true rfl) hn hL (fun a2 ea2 => ?_)
  refine lw_cm (st := [.int a2, .ref hm]) (rest := []) ⟨hx, hb, hml, hown, hts⟩ (uX12_early l dC dI H.size hm mi mr km fm hMI a2) (cwV 1 hts (gz_lV lm_71 lm_72 lm_73 lm_9 lm_70 lwGB goodGB) rfl rfl rfl hdV_X12_early_X12_1 ⟨Nat.le_of_ble_eq_true rfl, Nat.le_of_ble_eq_true rfl⟩) rfl rfl hl.1 (Nat.le_of_ble_eq_true rfl) (dk_at dkL_c8 14 rfl) (lw_rm2 (a := 0) (b := 0) (a2 := 0) (b2 := 0) hn hL (Nat.le_of_ble_eq_true rfl) (Nat.le_of_ble_eq_true rfl)) hK hP hD hS (fun rm9 mi2 fm2 H locs hMI2 hrelm hP hD hS => ?_)
  refine lv_pop hx hb (dk_at dkL_c8 15 rfl) rfl ?_
  refine lv_goto (tgt := 2056) hx hb (dk_at dkL_c8 16 rfl) (by decide) ?_
  have e90 : a2 = a1 := ea2.trans ea1.symm
  rw [e90] at hrelm
  have hN9 := pr_early hXI hMI hlen hrelx hrelm
  refine W.widen (k := 400 + (n + 1)) (n := 40000 + 5 * (n + 1)) (by omega) (by omega) ?_
  exact next _ _ _ ⟨ax2, kx2, vx2, fx2, gx2, rx2, mi2, mr, km, fm2, h0, hK, hXI2, hMI2, hN9.1, hP, hD⟩ hS hl

noncomputable def lsL_c9 : List (Nat × Instr × Nat) := [(531, .aload_n 1, 1), (532, .aload_n 0, 1), (533, .iload_n 3, 1), (534, .iconst 1, 1), (535, .iadd, 1), (536, .iaload, 1), (537, .aload_n 0, 1), (538, .iload_n 3, 1), (539, .iconst 2, 1), (540, .iadd, 1), (541, .iaload, 1), (542, .invokevirtual 53, 3), (545, .pop, 1), (546, .aload_n 2, 1), (547, .aload_n 0, 1), (548, .iload_n 3, 1), (549, .iconst 1, 1), (550, .iadd, 1), (551, .iaload, 1), (552, .aload_n 0, 1), (553, .iload_n 3, 1), (554, .iconst 2, 1), (555, .iadd, 1), (556, .iaload, 1), (557, .invokevirtual 56, 3), (560, .pop, 1), (561, .goto 1495, 3)]
theorem dkL_c9 : dkAll cL_law lsL_c9 = true := dk_fast (by decide +kernel)
set_option maxHeartbeats 4000000 in
set_option maxRecDepth 100000 in
theorem law_c9 {p : Program} {l : Launch} {e : Env} {s : State} {m : MethodId} {below : List Frame} {meth : Method} {c : Code} {dC : Nat → ClassId} {dI : Nat → Nat → Nat} {b L : Nat} {xs : Nat → Int32} (hL : L ≤ 3072) (C0 : lw_At p s m meth c b L xs) (hz : nzA s) {sa sb sa2 sb2 : Nat → Nat} {zf : Value} (hTA : gz_ST RX6 stIA sa sb zf (fun q : Nat => s.heap.size ≤ q) s s.heap) (hTB : gz_ST RX12 stIB sa2 sb2 zf (fun q : Nat => s.heap.size ≤ q) s s.heap) {x0 hm n : Nat} (hn : 6 * n + 6 ≤ L) {H : Heap} {locs : List Loc} {ls : Array Slot} (hI : LInv dC dI s x0 hm H) (hS : va_S (fun q : Nat => s.heap.size ≤ q) s.heap H locs) (hl : lv_has ls 4 [(0, .ref b), (1, .ref x0), (2, .ref hm), (3, .int (nI (6 * n)))]) (next : ∀ (H : Heap) (locs : List Loc) (ls : Array Slot), LInv dC dI s x0 hm H → va_S (fun q : Nat => s.heap.size ≤ q) s.heap H locs → lv_has ls 4 [(0, .ref b), (1, .ref x0), (2, .ref hm), (3, .int (nI (6 * n)))] → W p l e room_1 s m #[Value.ref b] below meth c H locs (400 + (n + 1)) (40000 + 5 * (n + 1)) (lw_Z below #[Value.ref b] s) (F0 m 2056 ls [])) : W p l e room_1 s m #[Value.ref b] below meth c H locs (400 + n) (40000 + 5 * n) (lw_Z below #[Value.ref b] s) (F0 m 531 ls []) := by
  obtain ⟨hx, hb, hr, hml, hown0, hts, hX, hbl, hlocks, hgv⟩ := id C0
  have hown : s.vm.findClass RL = some m.cls := hown0
  have hA : ∀ q : Nat, s.heap.size ≤ q → (fun q : Nat => s.heap.size ≤ q) q := fun _ h => h
  have hbA : ¬ (fun q : Nat => s.heap.size ≤ q) b := Nat.not_le.mpr hbl
  obtain ⟨ax, kx, vx, fx, gx, rx, mi, mr, km, fm, rfl, hK, hXI, hMI, hlen, hP, hD⟩ := hI
  refine lv_aload_n hx hb (dk_at dkL_c9 0 rfl) rfl (lv_at hl 1 rfl) ?_
  refine lw_arg hx hb hX hbl hbA hS hl (dk_at dkL_c9 1 rfl) (dk_at dkL_c9 2 rfl) (dk_at dkL_c9 3 rfl) (dk_at dkL_c9 4 rfl) (dk_at dkL_c9 5 rfl) 1 (by decide) (Nat.le_of_ble_eq_true rfl) hn hL (fun a1 ea1 => ?_)
  refine lw_arg hx hb hX hbl hbA hS hl (dk_at dkL_c9 6 rfl) (dk_at dkL_c9 7 rfl) (dk_at dkL_c9 8 rfl) (dk_at dkL_c9 9 rfl) (dk_at dkL_c9 10 rfl) 2 (by decide) (Nat.le_of_ble_eq_true rfl) hn hL (fun a2 ea2 => ?_)
  refine lw_cx (st := [.int a2, .int a1, .ref (ax 0)]) (rest := []) ⟨hx, hb, hml, hown, hts⟩ (uX11_judged l dC dI H.size ax kx vx fx gx rx hXI a1 a2) (cwV 2 hts (gz_lV lm_75 lm_76 lm_77 lm_4 lm_74 lwGA goodGA) rfl rfl rfl hdV_X11_judged_X11_2 ⟨Nat.le_of_ble_eq_true rfl, Nat.le_of_ble_eq_true rfl⟩) rfl rfl hl.1 (Nat.le_of_ble_eq_true rfl) (dk_at dkL_c9 11 rfl) (lw_rm (a := 0) (b := 0) hn hL (Nat.le_of_ble_eq_true rfl) (Nat.le_of_ble_eq_true rfl)) hz hK hP hD hS (fun rx9 ax2 kx2 vx2 fx2 gx2 rx2 H locs h0 hXI2 hrelx hK hP hD hS => ?_)
  refine lv_pop hx hb (dk_at dkL_c9 12 rfl) rfl ?_
  refine lv_aload_n hx hb (dk_at dkL_c9 13 rfl) rfl (lv_at hl 2 rfl) ?_
  refine lw_arg hx hb hX hbl hbA hS hl (dk_at dkL_c9 14 rfl) (dk_at dkL_c9 15 rfl) (dk_at dkL_c9 16 rfl) (dk_at dkL_c9 17 rfl) (dk_at dkL_c9 18 rfl) 1 (by decide) (Nat.le_of_ble_eq_true rfl) hn hL (fun a3 ea3 => ?_)
  refine lw_arg hx hb hX hbl hbA hS hl (dk_at dkL_c9 19 rfl) (dk_at dkL_c9 20 rfl) (dk_at dkL_c9 21 rfl) (dk_at dkL_c9 22 rfl) (dk_at dkL_c9 23 rfl) 2 (by decide) (Nat.le_of_ble_eq_true rfl) hn hL (fun a4 ea4 => ?_)
  refine lw_cm (st := [.int a4, .int a3, .ref hm]) (rest := []) ⟨hx, hb, hml, hown, hts⟩ (uX12_judged l dC dI H.size hm mi mr km fm hMI a3 a4) (cwV 2 hts (gz_lV lm_79 lm_80 lm_81 lm_9 lm_78 lwGB goodGB) rfl rfl rfl hdV_X12_judged_X12_2 ⟨Nat.le_of_ble_eq_true rfl, Nat.le_of_ble_eq_true rfl⟩) rfl rfl hl.1 (Nat.le_of_ble_eq_true rfl) (dk_at dkL_c9 24 rfl) (lw_rm2 (a := 0) (b := 0) (a2 := 0) (b2 := 0) hn hL (Nat.le_of_ble_eq_true rfl) (Nat.le_of_ble_eq_true rfl)) hK hP hD hS (fun rm9 mi2 fm2 H locs hMI2 hrelm hP hD hS => ?_)
  refine lv_pop hx hb (dk_at dkL_c9 25 rfl) rfl ?_
  refine lv_goto (tgt := 2056) hx hb (dk_at dkL_c9 26 rfl) (by decide) ?_
  have e90 : a3 = a1 := ea3.trans ea1.symm
  have e91 : a4 = a2 := ea4.trans ea2.symm
  rw [e90, e91] at hrelm
  have hN9 := pr_judged hXI hMI hlen hrelx hrelm
  refine W.widen (k := 400 + (n + 1)) (n := 40000 + 5 * (n + 1)) (by omega) (by omega) ?_
  exact next _ _ _ ⟨ax2, kx2, vx2, fx2, gx2, rx2, mi2, mr, km, fm2, h0, hK, hXI2, hMI2, hN9.1, hP, hD⟩ hS hl
noncomputable def lsL_c10 : List (Nat × Instr × Nat) := [(564, .aload_n 1, 1), (565, .aload_n 0, 1), (566, .iload_n 3, 1), (567, .iconst 1, 1), (568, .iadd, 1), (569, .iaload, 1), (570, .invokevirtual 57, 3), (573, .pop, 1), (574, .aload_n 2, 1), (575, .aload_n 0, 1), (576, .iload_n 3, 1), (577, .iconst 1, 1), (578, .iadd, 1), (579, .iaload, 1), (580, .invokevirtual 60, 3), (583, .pop, 1), (584, .goto 1472, 3)]
theorem dkL_c10 : dkAll cL_law lsL_c10 = true := dk_fast (by decide +kernel)
set_option maxHeartbeats 4000000 in
set_option maxRecDepth 100000 in
theorem law_c10 {p : Program} {l : Launch} {e : Env} {s : State} {m : MethodId} {below : List Frame} {meth : Method} {c : Code} {dC : Nat → ClassId} {dI : Nat → Nat → Nat} {b L : Nat} {xs : Nat → Int32} (hL : L ≤ 3072) (C0 : lw_At p s m meth c b L xs) (hz : nzA s) {sa sb sa2 sb2 : Nat → Nat} {zf : Value} (hTA : gz_ST RX6 stIA sa sb zf (fun q : Nat => s.heap.size ≤ q) s s.heap) (hTB : gz_ST RX12 stIB sa2 sb2 zf (fun q : Nat => s.heap.size ≤ q) s s.heap) {x0 hm n : Nat} (hn : 6 * n + 6 ≤ L) {H : Heap} {locs : List Loc} {ls : Array Slot} (hI : LInv dC dI s x0 hm H) (hS : va_S (fun q : Nat => s.heap.size ≤ q) s.heap H locs) (hl : lv_has ls 4 [(0, .ref b), (1, .ref x0), (2, .ref hm), (3, .int (nI (6 * n)))]) (next : ∀ (H : Heap) (locs : List Loc) (ls : Array Slot), LInv dC dI s x0 hm H → va_S (fun q : Nat => s.heap.size ≤ q) s.heap H locs → lv_has ls 4 [(0, .ref b), (1, .ref x0), (2, .ref hm), (3, .int (nI (6 * n)))] → W p l e room_1 s m #[Value.ref b] below meth c H locs (400 + (n + 1)) (40000 + 5 * (n + 1)) (lw_Z below #[Value.ref b] s) (F0 m 2056 ls [])) : W p l e room_1 s m #[Value.ref b] below meth c H locs (400 + n) (40000 + 5 * n) (lw_Z below #[Value.ref b] s) (F0 m 564 ls []) := by
  obtain ⟨hx, hb, hr, hml, hown0, hts, hX, hbl, hlocks, hgv⟩ := id C0
  have hown : s.vm.findClass RL = some m.cls := hown0
  have hA : ∀ q : Nat, s.heap.size ≤ q → (fun q : Nat => s.heap.size ≤ q) q := fun _ h => h
  have hbA : ¬ (fun q : Nat => s.heap.size ≤ q) b := Nat.not_le.mpr hbl
  obtain ⟨ax, kx, vx, fx, gx, rx, mi, mr, km, fm, rfl, hK, hXI, hMI, hlen, hP, hD⟩ := hI
  refine lv_aload_n hx hb (dk_at dkL_c10 0 rfl) rfl (lv_at hl 1 rfl) ?_
  refine lw_arg hx hb hX hbl hbA hS hl (dk_at dkL_c10 1 rfl) (dk_at dkL_c10 2 rfl) (dk_at dkL_c10 3 rfl) (dk_at dkL_c10 4 rfl) (dk_at dkL_c10 5 rfl) 1 (by decide) (Nat.le_of_ble_eq_true rfl) hn hL (fun a1 ea1 => ?_)
  refine lw_cx (st := [.int a1, .ref (ax 0)]) (rest := []) ⟨hx, hb, hml, hown, hts⟩ (uX11_taken l dC dI H.size ax kx vx fx gx rx hXI a1) (cwV 1 hts (gz_lV lm_83 lm_84 lm_85 lm_4 lm_82 lwGA goodGA) rfl rfl rfl hdV_X11_taken_X11_1 ⟨Nat.le_of_ble_eq_true rfl, Nat.le_of_ble_eq_true rfl⟩) rfl rfl hl.1 (Nat.le_of_ble_eq_true rfl) (dk_at dkL_c10 6 rfl) (lw_rm (a := 0) (b := 0) hn hL (Nat.le_of_ble_eq_true rfl) (Nat.le_of_ble_eq_true rfl)) hz hK hP hD hS (fun rx9 ax2 kx2 vx2 fx2 gx2 rx2 H locs h0 hXI2 hrelx hK hP hD hS => ?_)
  refine lv_pop hx hb (dk_at dkL_c10 7 rfl) rfl ?_
  refine lv_aload_n hx hb (dk_at dkL_c10 8 rfl) rfl (lv_at hl 2 rfl) ?_
  refine lw_arg hx hb hX hbl hbA hS hl (dk_at dkL_c10 9 rfl) (dk_at dkL_c10 10 rfl) (dk_at dkL_c10 11 rfl) (dk_at dkL_c10 12 rfl) (dk_at dkL_c10 13 rfl) 1 (by decide) (Nat.le_of_ble_eq_true rfl) hn hL (fun a2 ea2 => ?_)
  refine lw_cm (st := [.int a2, .ref hm]) (rest := []) ⟨hx, hb, hml, hown, hts⟩ (uX12_taken l dC dI H.size hm mi mr km fm hMI a2) (cwV 1 hts (gz_lV lm_87 lm_88 lm_89 lm_9 lm_86 lwGB goodGB) rfl rfl rfl hdV_X12_taken_X12_1 ⟨Nat.le_of_ble_eq_true rfl, Nat.le_of_ble_eq_true rfl⟩) rfl rfl hl.1 (Nat.le_of_ble_eq_true rfl) (dk_at dkL_c10 14 rfl) (lw_rm2 (a := 0) (b := 0) (a2 := 0) (b2 := 0) hn hL (Nat.le_of_ble_eq_true rfl) (Nat.le_of_ble_eq_true rfl)) hK hP hD hS (fun rm9 mi2 fm2 H locs hMI2 hrelm hP hD hS => ?_)
  refine lv_pop hx hb (dk_at dkL_c10 15 rfl) rfl ?_
  refine lv_goto (tgt := 2056) hx hb (dk_at dkL_c10 16 rfl) (by decide) ?_
  have e90 : a2 = a1 := ea2.trans ea1.symm
  rw [e90] at hrelm
  have hN9 := pr_taken hXI hMI hlen hrelx hrelm
  refine W.widen (k := 400 + (n + 1)) (n := 40000 + 5 * (n + 1)) (by omega) (by omega) ?_
  exact next _ _ _ ⟨ax2, kx2, vx2, fx2, gx2, rx2, mi2, mr, km, fm2, h0, hK, hXI2, hMI2, hN9.1, hP, hD⟩ hS hl
noncomputable def lsL_c11 : List (Nat × Instr × Nat) := [(587, .aload_n 1, 1), (588, .aload_n 0, 1), (589, .iload_n 3, 1), (590, .iconst 1, 1), (591, .iadd, 1), (592, .iaload, 1), (593, .aload_n 0, 1), (594, .iload_n 3, 1), (595, .iconst 2, 1), (596, .iadd, 1), (597, .iaload, 1), (598, .invokevirtual 61, 3), (601, .pop, 1), (602, .aload_n 2, 1), (603, .aload_n 0, 1), (604, .iload_n 3, 1), (605, .iconst 1, 1), (606, .iadd, 1), (607, .iaload, 1), (608, .aload_n 0, 1), (609, .iload_n 3, 1), (610, .iconst 2, 1), (611, .iadd, 1), (612, .iaload, 1), (613, .invokevirtual 64, 3), (616, .pop, 1), (617, .goto 1439, 3)]
theorem dkL_c11 : dkAll cL_law lsL_c11 = true := dk_fast (by decide +kernel)
set_option maxHeartbeats 4000000 in
set_option maxRecDepth 100000 in
theorem law_c11 {p : Program} {l : Launch} {e : Env} {s : State} {m : MethodId} {below : List Frame} {meth : Method} {c : Code} {dC : Nat → ClassId} {dI : Nat → Nat → Nat} {b L : Nat} {xs : Nat → Int32} (hL : L ≤ 3072) (C0 : lw_At p s m meth c b L xs) (hz : nzA s) {sa sb sa2 sb2 : Nat → Nat} {zf : Value} (hTA : gz_ST RX6 stIA sa sb zf (fun q : Nat => s.heap.size ≤ q) s s.heap) (hTB : gz_ST RX12 stIB sa2 sb2 zf (fun q : Nat => s.heap.size ≤ q) s s.heap) {x0 hm n : Nat} (hn : 6 * n + 6 ≤ L) {H : Heap} {locs : List Loc} {ls : Array Slot} (hI : LInv dC dI s x0 hm H) (hS : va_S (fun q : Nat => s.heap.size ≤ q) s.heap H locs) (hl : lv_has ls 4 [(0, .ref b), (1, .ref x0), (2, .ref hm), (3, .int (nI (6 * n)))]) (next : ∀ (H : Heap) (locs : List Loc) (ls : Array Slot), LInv dC dI s x0 hm H → va_S (fun q : Nat => s.heap.size ≤ q) s.heap H locs → lv_has ls 4 [(0, .ref b), (1, .ref x0), (2, .ref hm), (3, .int (nI (6 * n)))] → W p l e room_1 s m #[Value.ref b] below meth c H locs (400 + (n + 1)) (40000 + 5 * (n + 1)) (lw_Z below #[Value.ref b] s) (F0 m 2056 ls [])) : W p l e room_1 s m #[Value.ref b] below meth c H locs (400 + n) (40000 + 5 * n) (lw_Z below #[Value.ref b] s) (F0 m 587 ls []) := by
  obtain ⟨hx, hb, hr, hml, hown0, hts, hX, hbl, hlocks, hgv⟩ := id C0
  have hown : s.vm.findClass RL = some m.cls := hown0
  have hA : ∀ q : Nat, s.heap.size ≤ q → (fun q : Nat => s.heap.size ≤ q) q := fun _ h => h
  have hbA : ¬ (fun q : Nat => s.heap.size ≤ q) b := Nat.not_le.mpr hbl
  obtain ⟨ax, kx, vx, fx, gx, rx, mi, mr, km, fm, rfl, hK, hXI, hMI, hlen, hP, hD⟩ := hI
  refine lv_aload_n hx hb (dk_at dkL_c11 0 rfl) rfl (lv_at hl 1 rfl) ?_
  refine lw_arg hx hb hX hbl hbA hS hl (dk_at dkL_c11 1 rfl) (dk_at dkL_c11 2 rfl) (dk_at dkL_c11 3 rfl) (dk_at dkL_c11 4 rfl) (dk_at dkL_c11 5 rfl) 1 (by decide) (Nat.le_of_ble_eq_true rfl) hn hL (fun a1 ea1 => ?_)
  refine lw_arg hx hb hX hbl hbA hS hl (dk_at dkL_c11 6 rfl) (dk_at dkL_c11 7 rfl) (dk_at dkL_c11 8 rfl) (dk_at dkL_c11 9 rfl) (dk_at dkL_c11 10 rfl) 2 (by decide) (Nat.le_of_ble_eq_true rfl) hn hL (fun a2 ea2 => ?_)
  refine lw_cx (st := [.int a2, .int a1, .ref (ax 0)]) (rest := []) ⟨hx, hb, hml, hown, hts⟩ (uX11_order l dC dI H.size ax kx vx fx gx rx hXI a1 a2) (cwV 2 hts (gz_lV lm_91 lm_92 lm_93 lm_4 lm_90 lwGA goodGA) rfl rfl rfl hdV_X11_order_X11_2 ⟨Nat.le_of_ble_eq_true rfl, Nat.le_of_ble_eq_true rfl⟩) rfl rfl hl.1 (Nat.le_of_ble_eq_true rfl) (dk_at dkL_c11 11 rfl) (lw_rm (a := 0) (b := 0) hn hL (Nat.le_of_ble_eq_true rfl) (Nat.le_of_ble_eq_true rfl)) hz hK hP hD hS (fun rx9 ax2 kx2 vx2 fx2 gx2 rx2 H locs h0 hXI2 hrelx hK hP hD hS => ?_)
  refine lv_pop hx hb (dk_at dkL_c11 12 rfl) rfl ?_
  refine lv_aload_n hx hb (dk_at dkL_c11 13 rfl) rfl (lv_at hl 2 rfl) ?_
  refine lw_arg hx hb hX hbl hbA hS hl (dk_at dkL_c11 14 rfl) (dk_at dkL_c11 15 rfl) (dk_at dkL_c11 16 rfl) (dk_at dkL_c11 17 rfl) (dk_at dkL_c11 18 rfl) 1 (by decide) (Nat.le_of_ble_eq_true rfl) hn hL (fun a3 ea3 => ?_)
  refine lw_arg hx hb hX hbl hbA hS hl (dk_at dkL_c11 19 rfl) (dk_at dkL_c11 20 rfl) (dk_at dkL_c11 21 rfl) (dk_at dkL_c11 22 rfl) (dk_at dkL_c11 23 rfl) 2 (by decide) (Nat.le_of_ble_eq_true rfl) hn hL (fun a4 ea4 => ?_)
  refine lw_cm (st := [.int a4, .int a3, .ref hm]) (rest := []) ⟨hx, hb, hml, hown, hts⟩ (uX12_order l dC dI H.size hm mi mr km fm hMI a3 a4) (cwV 2 hts (gz_lV lm_95 lm_96 lm_97 lm_9 lm_94 lwGB goodGB) rfl rfl rfl hdV_X12_order_X12_2 ⟨Nat.le_of_ble_eq_true rfl, Nat.le_of_ble_eq_true rfl⟩) rfl rfl hl.1 (Nat.le_of_ble_eq_true rfl) (dk_at dkL_c11 24 rfl) (lw_rm2 (a := 0) (b := 0) (a2 := 0) (b2 := 0) hn hL (Nat.le_of_ble_eq_true rfl) (Nat.le_of_ble_eq_true rfl)) hK hP hD hS (fun rm9 mi2 fm2 H locs hMI2 hrelm hP hD hS => ?_)
  refine lv_pop hx hb (dk_at dkL_c11 25 rfl) rfl ?_
  refine lv_goto (tgt := 2056) hx hb (dk_at dkL_c11 26 rfl) (by decide) ?_
  have e90 : a3 = a1 := ea3.trans ea1.symm
  have e91 : a4 = a2 := ea4.trans ea2.symm
  rw [e90, e91] at hrelm
  have hN9 := pr_order hXI hMI hlen hrelx hrelm
  refine W.widen (k := 400 + (n + 1)) (n := 40000 + 5 * (n + 1)) (by omega) (by omega) ?_
  exact next _ _ _ ⟨ax2, kx2, vx2, fx2, gx2, rx2, mi2, mr, km, fm2, h0, hK, hXI2, hMI2, hN9.1, hP, hD⟩ hS hl
noncomputable def lsL_c12 : List (Nat × Instr × Nat) := [(620, .aload_n 1, 1), (621, .aload_n 0, 1), (622, .iload_n 3, 1), (623, .iconst 1, 1), (624, .iadd, 1), (625, .iaload, 1), (626, .aload_n 0, 1), (627, .iload_n 3, 1), (628, .iconst 2, 1), (629, .iadd, 1), (630, .iaload, 1), (631, .invokevirtual 65, 3), (634, .pop, 1), (635, .aload_n 2, 1), (636, .aload_n 0, 1), (637, .iload_n 3, 1), (638, .iconst 1, 1), (639, .iadd, 1), (640, .iaload, 1), (641, .aload_n 0, 1), (642, .iload_n 3, 1), (643, .iconst 2, 1), (644, .iadd, 1), (645, .iaload, 1), (646, .invokevirtual 68, 3), (649, .pop, 1), (650, .goto 1406, 3)]
theorem dkL_c12 : dkAll cL_law lsL_c12 = true := dk_fast (by decide +kernel)
set_option maxHeartbeats 4000000 in
set_option maxRecDepth 100000 in
theorem law_c12 {p : Program} {l : Launch} {e : Env} {s : State} {m : MethodId} {below : List Frame} {meth : Method} {c : Code} {dC : Nat → ClassId} {dI : Nat → Nat → Nat} {b L : Nat} {xs : Nat → Int32} (hL : L ≤ 3072) (C0 : lw_At p s m meth c b L xs) (hz : nzA s) {sa sb sa2 sb2 : Nat → Nat} {zf : Value} (hTA : gz_ST RX6 stIA sa sb zf (fun q : Nat => s.heap.size ≤ q) s s.heap) (hTB : gz_ST RX12 stIB sa2 sb2 zf (fun q : Nat => s.heap.size ≤ q) s s.heap) {x0 hm n : Nat} (hn : 6 * n + 6 ≤ L) {H : Heap} {locs : List Loc} {ls : Array Slot} (hI : LInv dC dI s x0 hm H) (hS : va_S (fun q : Nat => s.heap.size ≤ q) s.heap H locs) (hl : lv_has ls 4 [(0, .ref b), (1, .ref x0), (2, .ref hm), (3, .int (nI (6 * n)))]) (next : ∀ (H : Heap) (locs : List Loc) (ls : Array Slot), LInv dC dI s x0 hm H → va_S (fun q : Nat => s.heap.size ≤ q) s.heap H locs → lv_has ls 4 [(0, .ref b), (1, .ref x0), (2, .ref hm), (3, .int (nI (6 * n)))] → W p l e room_1 s m #[Value.ref b] below meth c H locs (400 + (n + 1)) (40000 + 5 * (n + 1)) (lw_Z below #[Value.ref b] s) (F0 m 2056 ls [])) : W p l e room_1 s m #[Value.ref b] below meth c H locs (400 + n) (40000 + 5 * n) (lw_Z below #[Value.ref b] s) (F0 m 620 ls []) := by
  obtain ⟨hx, hb, hr, hml, hown0, hts, hX, hbl, hlocks, hgv⟩ := id C0
  have hown : s.vm.findClass RL = some m.cls := hown0
  have hA : ∀ q : Nat, s.heap.size ≤ q → (fun q : Nat => s.heap.size ≤ q) q := fun _ h => h
  have hbA : ¬ (fun q : Nat => s.heap.size ≤ q) b := Nat.not_le.mpr hbl
  obtain ⟨ax, kx, vx, fx, gx, rx, mi, mr, km, fm, rfl, hK, hXI, hMI, hlen, hP, hD⟩ := hI
  refine lv_aload_n hx hb (dk_at dkL_c12 0 rfl) rfl (lv_at hl 1 rfl) ?_
  refine lw_arg hx hb hX hbl hbA hS hl (dk_at dkL_c12 1 rfl) (dk_at dkL_c12 2 rfl) (dk_at dkL_c12 3 rfl) (dk_at dkL_c12 4 rfl) (dk_at dkL_c12 5 rfl) 1 (by decide) (Nat.le_of_ble_eq_true rfl) hn hL (fun a1 ea1 => ?_)
  refine lw_arg hx hb hX hbl hbA hS hl (dk_at dkL_c12 6 rfl) (dk_at dkL_c12 7 rfl) (dk_at dkL_c12 8 rfl) (dk_at dkL_c12 9 rfl) (dk_at dkL_c12 10 rfl) 2 (by decide) (Nat.le_of_ble_eq_true rfl) hn hL (fun a2 ea2 => ?_)
  refine lw_cx (st := [.int a2, .int a1, .ref (ax 0)]) (rest := []) ⟨hx, hb, hml, hown, hts⟩ (uX11_against l dC dI H.size ax kx vx fx gx rx hXI a1 a2) (cwV 2 hts (gz_lV lm_99 lm_100 lm_101 lm_4 lm_98 lwGA goodGA) rfl rfl rfl hdV_X11_against_X11_2 ⟨Nat.le_of_ble_eq_true rfl, Nat.le_of_ble_eq_true rfl⟩) rfl rfl hl.1 (Nat.le_of_ble_eq_true rfl) (dk_at dkL_c12 11 rfl) (lw_rm (a := 0) (b := 0) hn hL (Nat.le_of_ble_eq_true rfl) (Nat.le_of_ble_eq_true rfl)) hz hK hP hD hS (fun rx9 ax2 kx2 vx2 fx2 gx2 rx2 H locs h0 hXI2 hrelx hK hP hD hS => ?_)
  refine lv_pop hx hb (dk_at dkL_c12 12 rfl) rfl ?_
  refine lv_aload_n hx hb (dk_at dkL_c12 13 rfl) rfl (lv_at hl 2 rfl) ?_
  refine lw_arg hx hb hX hbl hbA hS hl (dk_at dkL_c12 14 rfl) (dk_at dkL_c12 15 rfl) (dk_at dkL_c12 16 rfl) (dk_at dkL_c12 17 rfl) (dk_at dkL_c12 18 rfl) 1 (by decide) (Nat.le_of_ble_eq_true rfl) hn hL (fun a3 ea3 => ?_)
  refine lw_arg hx hb hX hbl hbA hS hl (dk_at dkL_c12 19 rfl) (dk_at dkL_c12 20 rfl) (dk_at dkL_c12 21 rfl) (dk_at dkL_c12 22 rfl) (dk_at dkL_c12 23 rfl) 2 (by decide) (Nat.le_of_ble_eq_true rfl) hn hL (fun a4 ea4 => ?_)
  refine lw_cm (st := [.int a4, .int a3, .ref hm]) (rest := []) ⟨hx, hb, hml, hown, hts⟩ (uX12_against l dC dI H.size hm mi mr km fm hMI a3 a4) (cwV 2 hts (gz_lV lm_103 lm_104 lm_105 lm_9 lm_102 lwGB goodGB) rfl rfl rfl hdV_X12_against_X12_2 ⟨Nat.le_of_ble_eq_true rfl, Nat.le_of_ble_eq_true rfl⟩) rfl rfl hl.1 (Nat.le_of_ble_eq_true rfl) (dk_at dkL_c12 24 rfl) (lw_rm2 (a := 0) (b := 0) (a2 := 0) (b2 := 0) hn hL (Nat.le_of_ble_eq_true rfl) (Nat.le_of_ble_eq_true rfl)) hK hP hD hS (fun rm9 mi2 fm2 H locs hMI2 hrelm hP hD hS => ?_)
  refine lv_pop hx hb (dk_at dkL_c12 25 rfl) rfl ?_
  refine lv_goto (tgt := 2056) hx hb (dk_at dkL_c12 26 rfl) (by decide) ?_
  have e90 : a3 = a1 := ea3.trans ea1.symm
  have e91 : a4 = a2 := ea4.trans ea2.symm
  rw [e90, e91] at hrelm
  have hN9 := pr_against hXI hMI hlen hrelx hrelm
  refine W.widen (k := 400 + (n + 1)) (n := 40000 + 5 * (n + 1)) (by omega) (by omega) ?_
  exact next _ _ _ ⟨ax2, kx2, vx2, fx2, gx2, rx2, mi2, mr, km, fm2, h0, hK, hXI2, hMI2, hN9.1, hP, hD⟩ hS hl
noncomputable def lsL_c13 : List (Nat × Instr × Nat) := [(653, .aload_n 1, 1), (654, .aload_n 0, 1), (655, .iload_n 3, 1), (656, .iconst 1, 1), (657, .iadd, 1), (658, .iaload, 1), (659, .aload_n 0, 1), (660, .iload_n 3, 1), (661, .iconst 2, 1), (662, .iadd, 1), (663, .iaload, 1), (664, .invokevirtual 69, 3), (667, .pop, 1), (668, .aload_n 2, 1), (669, .aload_n 0, 1), (670, .iload_n 3, 1), (671, .iconst 1, 1), (672, .iadd, 1), (673, .iaload, 1), (674, .aload_n 0, 1), (675, .iload_n 3, 1), (676, .iconst 2, 1), (677, .iadd, 1), (678, .iaload, 1), (679, .invokevirtual 72, 3), (682, .pop, 1), (683, .goto 1373, 3)]
theorem dkL_c13 : dkAll cL_law lsL_c13 = true := dk_fast (by decide +kernel)
set_option maxHeartbeats 4000000 in
set_option maxRecDepth 100000 in
theorem law_c13 {p : Program} {l : Launch} {e : Env} {s : State} {m : MethodId} {below : List Frame} {meth : Method} {c : Code} {dC : Nat → ClassId} {dI : Nat → Nat → Nat} {b L : Nat} {xs : Nat → Int32} (hL : L ≤ 3072) (C0 : lw_At p s m meth c b L xs) (hz : nzA s) {sa sb sa2 sb2 : Nat → Nat} {zf : Value} (hTA : gz_ST RX6 stIA sa sb zf (fun q : Nat => s.heap.size ≤ q) s s.heap) (hTB : gz_ST RX12 stIB sa2 sb2 zf (fun q : Nat => s.heap.size ≤ q) s s.heap) {x0 hm n : Nat} (hn : 6 * n + 6 ≤ L) {H : Heap} {locs : List Loc} {ls : Array Slot} (hI : LInv dC dI s x0 hm H) (hS : va_S (fun q : Nat => s.heap.size ≤ q) s.heap H locs) (hl : lv_has ls 4 [(0, .ref b), (1, .ref x0), (2, .ref hm), (3, .int (nI (6 * n)))]) (next : ∀ (H : Heap) (locs : List Loc) (ls : Array Slot), LInv dC dI s x0 hm H → va_S (fun q : Nat => s.heap.size ≤ q) s.heap H locs → lv_has ls 4 [(0, .ref b), (1, .ref x0), (2, .ref hm), (3, .int (nI (6 * n)))] → W p l e room_1 s m #[Value.ref b] below meth c H locs (400 + (n + 1)) (40000 + 5 * (n + 1)) (lw_Z below #[Value.ref b] s) (F0 m 2056 ls [])) : W p l e room_1 s m #[Value.ref b] below meth c H locs (400 + n) (40000 + 5 * n) (lw_Z below #[Value.ref b] s) (F0 m 653 ls []) := by
  obtain ⟨hx, hb, hr, hml, hown0, hts, hX, hbl, hlocks, hgv⟩ := id C0
  have hown : s.vm.findClass RL = some m.cls := hown0
  have hA : ∀ q : Nat, s.heap.size ≤ q → (fun q : Nat => s.heap.size ≤ q) q := fun _ h => h
  have hbA : ¬ (fun q : Nat => s.heap.size ≤ q) b := Nat.not_le.mpr hbl
  obtain ⟨ax, kx, vx, fx, gx, rx, mi, mr, km, fm, rfl, hK, hXI, hMI, hlen, hP, hD⟩ := hI
  refine lv_aload_n hx hb (dk_at dkL_c13 0 rfl) rfl (lv_at hl 1 rfl) ?_
  refine lw_arg hx hb hX hbl hbA hS hl (dk_at dkL_c13 1 rfl) (dk_at dkL_c13 2 rfl) (dk_at dkL_c13 3 rfl) (dk_at dkL_c13 4 rfl) (dk_at dkL_c13 5 rfl) 1 (by decide) (Nat.le_of_ble_eq_true rfl) hn hL (fun a1 ea1 => ?_)
  refine lw_arg hx hb hX hbl hbA hS hl (dk_at dkL_c13 6 rfl) (dk_at dkL_c13 7 rfl) (dk_at dkL_c13 8 rfl) (dk_at dkL_c13 9 rfl) (dk_at dkL_c13 10 rfl) 2 (by decide) (Nat.le_of_ble_eq_true rfl) hn hL (fun a2 ea2 => ?_)
  refine lw_cx (st := [.int a2, .int a1, .ref (ax 0)]) (rest := []) ⟨hx, hb, hml, hown, hts⟩ (uX11_blind l dC dI H.size ax kx vx fx gx rx hXI a1 a2) (cwV 2 hts (gz_lV lm_107 lm_108 lm_109 lm_4 lm_106 lwGA goodGA) rfl rfl rfl hdV_X11_blind_X11_2 ⟨Nat.le_of_ble_eq_true rfl, Nat.le_of_ble_eq_true rfl⟩) rfl rfl hl.1 (Nat.le_of_ble_eq_true rfl) (dk_at dkL_c13 11 rfl) (lw_rm (a := 0) (b := 0) hn hL (Nat.le_of_ble_eq_true rfl) (Nat.le_of_ble_eq_true rfl)) hz hK hP hD hS (fun rx9 ax2 kx2 vx2 fx2 gx2 rx2 H locs h0 hXI2 hrelx hK hP hD hS => ?_)
  refine lv_pop hx hb (dk_at dkL_c13 12 rfl) rfl ?_
  refine lv_aload_n hx hb (dk_at dkL_c13 13 rfl) rfl (lv_at hl 2 rfl) ?_
  refine lw_arg hx hb hX hbl hbA hS hl (dk_at dkL_c13 14 rfl) (dk_at dkL_c13 15 rfl) (dk_at dkL_c13 16 rfl) (dk_at dkL_c13 17 rfl) (dk_at dkL_c13 18 rfl) 1 (by decide) (Nat.le_of_ble_eq_true rfl) hn hL (fun a3 ea3 => ?_)
  refine lw_arg hx hb hX hbl hbA hS hl (dk_at dkL_c13 19 rfl) (dk_at dkL_c13 20 rfl) (dk_at dkL_c13 21 rfl) (dk_at dkL_c13 22 rfl) (dk_at dkL_c13 23 rfl) 2 (by decide) (Nat.le_of_ble_eq_true rfl) hn hL (fun a4 ea4 => ?_)
  refine lw_cm (st := [.int a4, .int a3, .ref hm]) (rest := []) ⟨hx, hb, hml, hown, hts⟩ (uX12_blind l dC dI H.size hm mi mr km fm hMI a3 a4) (cwV 2 hts (gz_lV lm_111 lm_112 lm_113 lm_9 lm_110 lwGB goodGB) rfl rfl rfl hdV_X12_blind_X12_2 ⟨Nat.le_of_ble_eq_true rfl, Nat.le_of_ble_eq_true rfl⟩) rfl rfl hl.1 (Nat.le_of_ble_eq_true rfl) (dk_at dkL_c13 24 rfl) (lw_rm2 (a := 0) (b := 0) (a2 := 0) (b2 := 0) hn hL (Nat.le_of_ble_eq_true rfl) (Nat.le_of_ble_eq_true rfl)) hK hP hD hS (fun rm9 mi2 fm2 H locs hMI2 hrelm hP hD hS => ?_)
  refine lv_pop hx hb (dk_at dkL_c13 25 rfl) rfl ?_
  refine lv_goto (tgt := 2056) hx hb (dk_at dkL_c13 26 rfl) (by decide) ?_
  have e90 : a3 = a1 := ea3.trans ea1.symm
  have e91 : a4 = a2 := ea4.trans ea2.symm
  rw [e90, e91] at hrelm
  have hN9 := pr_blind hXI hMI hlen hrelx hrelm
  refine W.widen (k := 400 + (n + 1)) (n := 40000 + 5 * (n + 1)) (by omega) (by omega) ?_
  exact next _ _ _ ⟨ax2, kx2, vx2, fx2, gx2, rx2, mi2, mr, km, fm2, h0, hK, hXI2, hMI2, hN9.1, hP, hD⟩ hS hl
noncomputable def lsL_c14 : List (Nat × Instr × Nat) := [(686, .aload_n 1, 1), (687, .aload_n 0, 1), (688, .iload_n 3, 1), (689, .iconst 1, 1), (690, .iadd, 1), (691, .iaload, 1), (692, .invokevirtual 73, 3), (695, .aload_n 2, 1), (696, .aload_n 0, 1), (697, .iload_n 3, 1), (698, .iconst 1, 1), (699, .iadd, 1), (700, .iaload, 1), (701, .invokevirtual 76, 3), (704, .if_icmp .eq 1352, 3), (707, .iconst 0, 1), (708, .ireturn, 1)]
theorem dkL_c14 : dkAll cL_law lsL_c14 = true := dk_fast (by decide +kernel)
set_option maxHeartbeats 4000000 in
set_option maxRecDepth 100000 in
theorem law_c14 {p : Program} {l : Launch} {e : Env} {s : State} {m : MethodId} {below : List Frame} {meth : Method} {c : Code} {dC : Nat → ClassId} {dI : Nat → Nat → Nat} {b L : Nat} {xs : Nat → Int32} (hL : L ≤ 3072) (C0 : lw_At p s m meth c b L xs) (hz : nzA s) {sa sb sa2 sb2 : Nat → Nat} {zf : Value} (hTA : gz_ST RX6 stIA sa sb zf (fun q : Nat => s.heap.size ≤ q) s s.heap) (hTB : gz_ST RX12 stIB sa2 sb2 zf (fun q : Nat => s.heap.size ≤ q) s s.heap) {x0 hm n : Nat} (hn : 6 * n + 6 ≤ L) {H : Heap} {locs : List Loc} {ls : Array Slot} (hI : LInv dC dI s x0 hm H) (hS : va_S (fun q : Nat => s.heap.size ≤ q) s.heap H locs) (hl : lv_has ls 4 [(0, .ref b), (1, .ref x0), (2, .ref hm), (3, .int (nI (6 * n)))]) (next : ∀ (H : Heap) (locs : List Loc) (ls : Array Slot), LInv dC dI s x0 hm H → va_S (fun q : Nat => s.heap.size ≤ q) s.heap H locs → lv_has ls 4 [(0, .ref b), (1, .ref x0), (2, .ref hm), (3, .int (nI (6 * n)))] → W p l e room_1 s m #[Value.ref b] below meth c H locs (400 + (n + 1)) (40000 + 5 * (n + 1)) (lw_Z below #[Value.ref b] s) (F0 m 2056 ls [])) : W p l e room_1 s m #[Value.ref b] below meth c H locs (400 + n) (40000 + 5 * n) (lw_Z below #[Value.ref b] s) (F0 m 686 ls []) := by
  obtain ⟨hx, hb, hr, hml, hown0, hts, hX, hbl, hlocks, hgv⟩ := id C0
  have hown : s.vm.findClass RL = some m.cls := hown0
  have hA : ∀ q : Nat, s.heap.size ≤ q → (fun q : Nat => s.heap.size ≤ q) q := fun _ h => h
  have hbA : ¬ (fun q : Nat => s.heap.size ≤ q) b := Nat.not_le.mpr hbl
  obtain ⟨ax, kx, vx, fx, gx, rx, mi, mr, km, fm, rfl, hK, hXI, hMI, hlen, hP, hD⟩ := hI
  refine lv_aload_n hx hb (dk_at dkL_c14 0 rfl) rfl (lv_at hl 1 rfl) ?_
  refine lw_arg hx hb hX hbl hbA hS hl (dk_at dkL_c14 1 rfl) (dk_at dkL_c14 2 rfl) (dk_at dkL_c14 3 rfl) (dk_at dkL_c14 4 rfl) (dk_at dkL_c14 5 rfl) 1 (by decide) (Nat.le_of_ble_eq_true rfl) hn hL (fun a1 ea1 => ?_)
  refine lw_cx (st := [.int a1, .ref (ax 0)]) (rest := []) ⟨hx, hb, hml, hown, hts⟩ (uX11_ways l dC dI H.size ax kx vx fx gx rx hXI a1) (cwV 1 hts (gz_lV lm_115 lm_116 lm_117 lm_4 lm_114 lwGA goodGA) rfl rfl rfl hdV_X11_ways_X11_1 ⟨Nat.le_of_ble_eq_true rfl, Nat.le_of_ble_eq_true rfl⟩) rfl rfl hl.1 (Nat.le_of_ble_eq_true rfl) (dk_at dkL_c14 6 rfl) (lw_rm (a := 0) (b := 0) hn hL (Nat.le_of_ble_eq_true rfl) (Nat.le_of_ble_eq_true rfl)) hz hK hP hD hS (fun rx9 ax2 kx2 vx2 fx2 gx2 rx2 H locs h0 hXI2 hrelx hK hP hD hS => ?_)
  refine lv_aload_n hx hb (dk_at dkL_c14 7 rfl) rfl (lv_at hl 2 rfl) ?_
  refine lw_arg hx hb hX hbl hbA hS hl (dk_at dkL_c14 8 rfl) (dk_at dkL_c14 9 rfl) (dk_at dkL_c14 10 rfl) (dk_at dkL_c14 11 rfl) (dk_at dkL_c14 12 rfl) 1 (by decide) (Nat.le_of_ble_eq_true rfl) hn hL (fun a2 ea2 => ?_)
  refine lw_cm (st := [.int a2, .ref hm, .int rx9]) (rest := [.int rx9]) ⟨hx, hb, hml, hown, hts⟩ (uX12_ways l dC dI H.size hm mi mr km fm hMI a2) (cwV 1 hts (gz_lV lm_119 lm_120 lm_121 lm_9 lm_118 lwGB goodGB) rfl rfl rfl hdV_X12_ways_X12_1 ⟨Nat.le_of_ble_eq_true rfl, Nat.le_of_ble_eq_true rfl⟩) rfl rfl hl.1 (Nat.le_of_ble_eq_true rfl) (dk_at dkL_c14 13 rfl) (lw_rm2 (a := 0) (b := 0) (a2 := 0) (b2 := 0) hn hL (Nat.le_of_ble_eq_true rfl) (Nat.le_of_ble_eq_true rfl)) hK hP hD hS (fun rm9 mi2 fm2 H locs hMI2 hrelm hP hD hS => ?_)
  have e90 : a2 = a1 := ea2.trans ea1.symm
  rw [e90] at hrelm
  have hN9 := pr_ways hXI hMI hlen hrelx hrelm
  refine lv_icmp_eq (tgt := 2056) hx hb (dk_at dkL_c14 14 rfl) (by decide) (fun c9 => ?_) (fun c9 => absurd hN9.2 c9)
  refine W.widen (k := 400 + (n + 1)) (n := 40000 + 5 * (n + 1)) (by omega) (by omega) ?_
  exact next _ _ _ ⟨ax2, kx2, vx2, fx2, gx2, rx2, mi2, mr, km, fm2, h0, hK, hXI2, hMI2, hN9.1, hP, hD⟩ hS hl
noncomputable def lsL_c15 : List (Nat × Instr × Nat) := [(709, .aload_n 1, 1), (710, .aload_n 0, 1), (711, .iload_n 3, 1), (712, .iconst 1, 1), (713, .iadd, 1), (714, .iaload, 1), (715, .aload_n 0, 1), (716, .iload_n 3, 1), (717, .iconst 2, 1), (718, .iadd, 1), (719, .iaload, 1), (720, .invokevirtual 77, 3), (723, .pop, 1), (724, .aload_n 2, 1), (725, .aload_n 0, 1), (726, .iload_n 3, 1), (727, .iconst 1, 1), (728, .iadd, 1), (729, .iaload, 1), (730, .aload_n 0, 1), (731, .iload_n 3, 1), (732, .iconst 2, 1), (733, .iadd, 1), (734, .iaload, 1), (735, .invokevirtual 80, 3), (738, .pop, 1), (739, .goto 1317, 3)]
theorem dkL_c15 : dkAll cL_law lsL_c15 = true := dk_fast (by decide +kernel)
set_option maxHeartbeats 4000000 in
set_option maxRecDepth 100000 in
theorem law_c15 {p : Program} {l : Launch} {e : Env} {s : State} {m : MethodId} {below : List Frame} {meth : Method} {c : Code} {dC : Nat → ClassId} {dI : Nat → Nat → Nat} {b L : Nat} {xs : Nat → Int32} (hL : L ≤ 3072) (C0 : lw_At p s m meth c b L xs) (hz : nzA s) {sa sb sa2 sb2 : Nat → Nat} {zf : Value} (hTA : gz_ST RX6 stIA sa sb zf (fun q : Nat => s.heap.size ≤ q) s s.heap) (hTB : gz_ST RX12 stIB sa2 sb2 zf (fun q : Nat => s.heap.size ≤ q) s s.heap) {x0 hm n : Nat} (hn : 6 * n + 6 ≤ L) {H : Heap} {locs : List Loc} {ls : Array Slot} (hI : LInv dC dI s x0 hm H) (hS : va_S (fun q : Nat => s.heap.size ≤ q) s.heap H locs) (hl : lv_has ls 4 [(0, .ref b), (1, .ref x0), (2, .ref hm), (3, .int (nI (6 * n)))]) (next : ∀ (H : Heap) (locs : List Loc) (ls : Array Slot), LInv dC dI s x0 hm H → va_S (fun q : Nat => s.heap.size ≤ q) s.heap H locs → lv_has ls 4 [(0, .ref b), (1, .ref x0), (2, .ref hm), (3, .int (nI (6 * n)))] → W p l e room_1 s m #[Value.ref b] below meth c H locs (400 + (n + 1)) (40000 + 5 * (n + 1)) (lw_Z below #[Value.ref b] s) (F0 m 2056 ls [])) : W p l e room_1 s m #[Value.ref b] below meth c H locs (400 + n) (40000 + 5 * n) (lw_Z below #[Value.ref b] s) (F0 m 709 ls []) := by
  obtain ⟨hx, hb, hr, hml, hown0, hts, hX, hbl, hlocks, hgv⟩ := id C0
  have hown : s.vm.findClass RL = some m.cls := hown0
  have hA : ∀ q : Nat, s.heap.size ≤ q → (fun q : Nat => s.heap.size ≤ q) q := fun _ h => h
  have hbA : ¬ (fun q : Nat => s.heap.size ≤ q) b := Nat.not_le.mpr hbl
  obtain ⟨ax, kx, vx, fx, gx, rx, mi, mr, km, fm, rfl, hK, hXI, hMI, hlen, hP, hD⟩ := hI
  refine lv_aload_n hx hb (dk_at dkL_c15 0 rfl) rfl (lv_at hl 1 rfl) ?_
  refine lw_arg hx hb hX hbl hbA hS hl (dk_at dkL_c15 1 rfl) (dk_at dkL_c15 2 rfl) (dk_at dkL_c15 3 rfl) (dk_at dkL_c15 4 rfl) (dk_at dkL_c15 5 rfl) 1 (by decide) (Nat.le_of_ble_eq_true rfl) hn hL (fun a1 ea1 => ?_)
  refine lw_arg hx hb hX hbl hbA hS hl (dk_at dkL_c15 6 rfl) (dk_at dkL_c15 7 rfl) (dk_at dkL_c15 8 rfl) (dk_at dkL_c15 9 rfl) (dk_at dkL_c15 10 rfl) 2 (by decide) (Nat.le_of_ble_eq_true rfl) hn hL (fun a2 ea2 => ?_)
  refine lw_cx (st := [.int a2, .int a1, .ref (ax 0)]) (rest := []) ⟨hx, hb, hml, hown, hts⟩ (uX11_begin l dC dI H.size ax kx vx fx gx rx hXI a1 a2) (cwV 2 hts (gz_lV lm_123 lm_124 lm_125 lm_4 lm_122 lwGA goodGA) rfl rfl rfl hdV_X11_begin_X11_2 ⟨Nat.le_of_ble_eq_true rfl, Nat.le_of_ble_eq_true rfl⟩) rfl rfl hl.1 (Nat.le_of_ble_eq_true rfl) (dk_at dkL_c15 11 rfl) (lw_rm (a := 0) (b := 0) hn hL (Nat.le_of_ble_eq_true rfl) (Nat.le_of_ble_eq_true rfl)) hz hK hP hD hS (fun rx9 ax2 kx2 vx2 fx2 gx2 rx2 H locs h0 hXI2 hrelx hK hP hD hS => ?_)
  refine lv_pop hx hb (dk_at dkL_c15 12 rfl) rfl ?_
  refine lv_aload_n hx hb (dk_at dkL_c15 13 rfl) rfl (lv_at hl 2 rfl) ?_
  refine lw_arg hx hb hX hbl hbA hS hl (dk_at dkL_c15 14 rfl) (dk_at dkL_c15 15 rfl) (dk_at dkL_c15 16 rfl) (dk_at dkL_c15 17 rfl) (dk_at dkL_c15 18 rfl) 1 (by decide) (Nat.le_of_ble_eq_true rfl) hn hL (fun a3 ea3 => ?_)
  refine lw_arg hx hb hX hbl hbA hS hl (dk_at dkL_c15 19 rfl) (dk_at dkL_c15 20 rfl) (dk_at dkL_c15 21 rfl) (dk_at dkL_c15 22 rfl) (dk_at dkL_c15 23 rfl) 2 (by decide) (Nat.le_of_ble_eq_true rfl) hn hL (fun a4 ea4 => ?_)
  refine lw_cm (st := [.int a4, .int a3, .ref hm]) (rest := []) ⟨hx, hb, hml, hown, hts⟩ (uX12_begin l dC dI H.size hm mi mr km fm hMI a3 a4) (cwV 2 hts (gz_lV lm_127 lm_128 lm_129 lm_9 lm_126 lwGB goodGB) rfl rfl rfl hdV_X12_begin_X12_2 ⟨Nat.le_of_ble_eq_true rfl, Nat.le_of_ble_eq_true rfl⟩) rfl rfl hl.1 (Nat.le_of_ble_eq_true rfl) (dk_at dkL_c15 24 rfl) (lw_rm2 (a := 0) (b := 0) (a2 := 0) (b2 := 0) hn hL (Nat.le_of_ble_eq_true rfl) (Nat.le_of_ble_eq_true rfl)) hK hP hD hS (fun rm9 mi2 fm2 H locs hMI2 hrelm hP hD hS => ?_)
  refine lv_pop hx hb (dk_at dkL_c15 25 rfl) rfl ?_
  refine lv_goto (tgt := 2056) hx hb (dk_at dkL_c15 26 rfl) (by decide) ?_
  have e90 : a3 = a1 := ea3.trans ea1.symm
  have e91 : a4 = a2 := ea4.trans ea2.symm
  rw [e90, e91] at hrelm
  have hN9 := pr_begin hXI hMI hlen hrelx hrelm
  refine W.widen (k := 400 + (n + 1)) (n := 40000 + 5 * (n + 1)) (by omega) (by omega) ?_
  exact next _ _ _ ⟨ax2, kx2, vx2, fx2, gx2, rx2, mi2, mr, km, fm2, h0, hK, hXI2, hMI2, hN9.1, hP, hD⟩ hS hl
noncomputable def lsL_c16 : List (Nat × Instr × Nat) := [(742, .aload_n 1, 1), (743, .aload_n 0, 1), (744, .iload_n 3, 1), (745, .iconst 1, 1), (746, .iadd, 1), (747, .iaload, 1), (748, .aload_n 0, 1), (749, .iload_n 3, 1), (750, .iconst 2, 1), (751, .iadd, 1), (752, .iaload, 1), (753, .aload_n 0, 1), (754, .iload_n 3, 1), (755, .iconst 3, 1), (756, .iadd, 1), (757, .iaload, 1), (758, .invokevirtual 81, 3), (761, .pop, 1), (762, .aload_n 2, 1), (763, .aload_n 0, 1), (764, .iload_n 3, 1), (765, .iconst 1, 1), (766, .iadd, 1), (767, .iaload, 1), (768, .aload_n 0, 1), (769, .iload_n 3, 1), (770, .iconst 2, 1), (771, .iadd, 1), (772, .iaload, 1), (773, .aload_n 0, 1), (774, .iload_n 3, 1), (775, .iconst 3, 1), (776, .iadd, 1), (777, .iaload, 1), (778, .invokevirtual 85, 3), (781, .pop, 1), (782, .goto 1274, 3)]
theorem dkL_c16 : dkAll cL_law lsL_c16 = true := dk_fast (by decide +kernel)
set_option maxHeartbeats 4000000 in
set_option maxRecDepth 100000 in
theorem law_c16 {p : Program} {l : Launch} {e : Env} {s : State} {m : MethodId} {below : List Frame} {meth : Method} {c : Code} {dC : Nat → ClassId} {dI : Nat → Nat → Nat} {b L : Nat} {xs : Nat → Int32} (hL : L ≤ 3072) (C0 : lw_At p s m meth c b L xs) (hz : nzA s) {sa sb sa2 sb2 : Nat → Nat} {zf : Value} (hTA : gz_ST RX6 stIA sa sb zf (fun q : Nat => s.heap.size ≤ q) s s.heap) (hTB : gz_ST RX12 stIB sa2 sb2 zf (fun q : Nat => s.heap.size ≤ q) s s.heap) {x0 hm n : Nat} (hn : 6 * n + 6 ≤ L) {H : Heap} {locs : List Loc} {ls : Array Slot} (hI : LInv dC dI s x0 hm H) (hS : va_S (fun q : Nat => s.heap.size ≤ q) s.heap H locs) (hl : lv_has ls 4 [(0, .ref b), (1, .ref x0), (2, .ref hm), (3, .int (nI (6 * n)))]) (next : ∀ (H : Heap) (locs : List Loc) (ls : Array Slot), LInv dC dI s x0 hm H → va_S (fun q : Nat => s.heap.size ≤ q) s.heap H locs → lv_has ls 4 [(0, .ref b), (1, .ref x0), (2, .ref hm), (3, .int (nI (6 * n)))] → W p l e room_1 s m #[Value.ref b] below meth c H locs (400 + (n + 1)) (40000 + 5 * (n + 1)) (lw_Z below #[Value.ref b] s) (F0 m 2056 ls [])) : W p l e room_1 s m #[Value.ref b] below meth c H locs (400 + n) (40000 + 5 * n) (lw_Z below #[Value.ref b] s) (F0 m 742 ls []) := by
  obtain ⟨hx, hb, hr, hml, hown0, hts, hX, hbl, hlocks, hgv⟩ := id C0
  have hown : s.vm.findClass RL = some m.cls := hown0
  have hA : ∀ q : Nat, s.heap.size ≤ q → (fun q : Nat => s.heap.size ≤ q) q := fun _ h => h
  have hbA : ¬ (fun q : Nat => s.heap.size ≤ q) b := Nat.not_le.mpr hbl
  obtain ⟨ax, kx, vx, fx, gx, rx, mi, mr, km, fm, rfl, hK, hXI, hMI, hlen, hP, hD⟩ := hI
  refine lv_aload_n hx hb (dk_at dkL_c16 0 rfl) rfl (lv_at hl 1 rfl) ?_
  refine lw_arg hx hb hX hbl hbA hS hl (dk_at dkL_c16 1 rfl) (dk_at dkL_c16 2 rfl) (dk_at dkL_c16 3 rfl) (dk_at dkL_c16 4 rfl) (dk_at dkL_c16 5 rfl) 1 (by decide) (Nat.le_of_ble_eq_true rfl) hn hL (fun a1 ea1 => ?_)
  refine lw_arg hx hb hX hbl hbA hS hl (dk_at dkL_c16 6 rfl) (dk_at dkL_c16 7 rfl) (dk_at dkL_c16 8 rfl) (dk_at dkL_c16 9 rfl) (dk_at dkL_c16 10 rfl) 2 (by decide) (Nat.le_of_ble_eq_true rfl) hn hL (fun a2 ea2 => ?_)
  refine lw_arg hx hb hX hbl hbA hS hl (dk_at dkL_c16 11 rfl) (dk_at dkL_c16 12 rfl) (dk_at dkL_c16 13 rfl) (dk_at dkL_c16 14 rfl) (dk_at dkL_c16 15 rfl) 3 (by decide) (Nat.le_of_ble_eq_true rfl) hn hL (fun a3 ea3 => ?_)
  refine lw_cx (st := [.int a3, .int a2, .int a1, .ref (ax 0)]) (rest := []) ⟨hx, hb, hml, hown, hts⟩ (uX11_span l dC dI H.size ax kx vx fx gx rx hXI a1 a2 a3) (cwV 3 hts (gz_lV lm_131 lm_132 lm_133 lm_4 lm_130 lwGA goodGA) rfl rfl rfl hdV_X11_span_X11_3 ⟨Nat.le_of_ble_eq_true rfl, Nat.le_of_ble_eq_true rfl⟩) rfl rfl hl.1 (Nat.le_of_ble_eq_true rfl) (dk_at dkL_c16 16 rfl) (lw_rm (a := 0) (b := 0) hn hL (Nat.le_of_ble_eq_true rfl) (Nat.le_of_ble_eq_true rfl)) hz hK hP hD hS (fun rx9 ax2 kx2 vx2 fx2 gx2 rx2 H locs h0 hXI2 hrelx hK hP hD hS => ?_)
  refine lv_pop hx hb (dk_at dkL_c16 17 rfl) rfl ?_
  refine lv_aload_n hx hb (dk_at dkL_c16 18 rfl) rfl (lv_at hl 2 rfl) ?_
  refine lw_arg hx hb hX hbl hbA hS hl (dk_at dkL_c16 19 rfl) (dk_at dkL_c16 20 rfl) (dk_at dkL_c16 21 rfl) (dk_at dkL_c16 22 rfl) (dk_at dkL_c16 23 rfl) 1 (by decide) (Nat.le_of_ble_eq_true rfl) hn hL (fun a4 ea4 => ?_)
  refine lw_arg hx hb hX hbl hbA hS hl (dk_at dkL_c16 24 rfl) (dk_at dkL_c16 25 rfl) (dk_at dkL_c16 26 rfl) (dk_at dkL_c16 27 rfl) (dk_at dkL_c16 28 rfl) 2 (by decide) (Nat.le_of_ble_eq_true rfl) hn hL (fun a5 ea5 => ?_)
  refine lw_arg hx hb hX hbl hbA hS hl (dk_at dkL_c16 29 rfl) (dk_at dkL_c16 30 rfl) (dk_at dkL_c16 31 rfl) (dk_at dkL_c16 32 rfl) (dk_at dkL_c16 33 rfl) 3 (by decide) (Nat.le_of_ble_eq_true rfl) hn hL (fun a6 ea6 => ?_)
  refine lw_cm (st := [.int a6, .int a5, .int a4, .ref hm]) (rest := []) ⟨hx, hb, hml, hown, hts⟩ (uX12_span l dC dI H.size hm mi mr km fm hMI a4 a5 a6) (cwV 3 hts (gz_lV lm_135 lm_136 lm_137 lm_9 lm_134 lwGB goodGB) rfl rfl rfl hdV_X12_span_X12_3 ⟨Nat.le_of_ble_eq_true rfl, Nat.le_of_ble_eq_true rfl⟩) rfl rfl hl.1 (Nat.le_of_ble_eq_true rfl) (dk_at dkL_c16 34 rfl) (lw_rm2 (a := 0) (b := 0) (a2 := 0) (b2 := 0) hn hL (Nat.le_of_ble_eq_true rfl) (Nat.le_of_ble_eq_true rfl)) hK hP hD hS (fun rm9 mi2 fm2 H locs hMI2 hrelm hP hD hS => ?_)
  refine lv_pop hx hb (dk_at dkL_c16 35 rfl) rfl ?_
  refine lv_goto (tgt := 2056) hx hb (dk_at dkL_c16 36 rfl) (by decide) ?_
  have e90 : a4 = a1 := ea4.trans ea1.symm
  have e91 : a5 = a2 := ea5.trans ea2.symm
  have e92 : a6 = a3 := ea6.trans ea3.symm
  rw [e90, e91, e92] at hrelm
  have hN9 := pr_span hXI hMI hlen hrelx hrelm
  refine W.widen (k := 400 + (n + 1)) (n := 40000 + 5 * (n + 1)) (by omega) (by omega) ?_
  exact next _ _ _ ⟨ax2, kx2, vx2, fx2, gx2, rx2, mi2, mr, km, fm2, h0, hK, hXI2, hMI2, hN9.1, hP, hD⟩ hS hl
noncomputable def lsL_c17 : List (Nat × Instr × Nat) := [(785, .aload_n 1, 1), (786, .aload_n 0, 1), (787, .iload_n 3, 1), (788, .iconst 1, 1), (789, .iadd, 1), (790, .iaload, 1), (791, .invokevirtual 86, 3), (794, .pop, 1), (795, .aload_n 2, 1), (796, .aload_n 0, 1), (797, .iload_n 3, 1), (798, .iconst 1, 1), (799, .iadd, 1), (800, .iaload, 1), (801, .invokevirtual 89, 3), (804, .pop, 1), (805, .goto 1251, 3)]
theorem dkL_c17 : dkAll cL_law lsL_c17 = true := dk_fast (by decide +kernel)
set_option maxHeartbeats 4000000 in
set_option maxRecDepth 100000 in
theorem law_c17 {p : Program} {l : Launch} {e : Env} {s : State} {m : MethodId} {below : List Frame} {meth : Method} {c : Code} {dC : Nat → ClassId} {dI : Nat → Nat → Nat} {b L : Nat} {xs : Nat → Int32} (hL : L ≤ 3072) (C0 : lw_At p s m meth c b L xs) (hz : nzA s) {sa sb sa2 sb2 : Nat → Nat} {zf : Value} (hTA : gz_ST RX6 stIA sa sb zf (fun q : Nat => s.heap.size ≤ q) s s.heap) (hTB : gz_ST RX12 stIB sa2 sb2 zf (fun q : Nat => s.heap.size ≤ q) s s.heap) {x0 hm n : Nat} (hn : 6 * n + 6 ≤ L) {H : Heap} {locs : List Loc} {ls : Array Slot} (hI : LInv dC dI s x0 hm H) (hS : va_S (fun q : Nat => s.heap.size ≤ q) s.heap H locs) (hl : lv_has ls 4 [(0, .ref b), (1, .ref x0), (2, .ref hm), (3, .int (nI (6 * n)))]) (next : ∀ (H : Heap) (locs : List Loc) (ls : Array Slot), LInv dC dI s x0 hm H → va_S (fun q : Nat => s.heap.size ≤ q) s.heap H locs → lv_has ls 4 [(0, .ref b), (1, .ref x0), (2, .ref hm), (3, .int (nI (6 * n)))] → W p l e room_1 s m #[Value.ref b] below meth c H locs (400 + (n + 1)) (40000 + 5 * (n + 1)) (lw_Z below #[Value.ref b] s) (F0 m 2056 ls [])) : W p l e room_1 s m #[Value.ref b] below meth c H locs (400 + n) (40000 + 5 * n) (lw_Z below #[Value.ref b] s) (F0 m 785 ls []) := by
  obtain ⟨hx, hb, hr, hml, hown0, hts, hX, hbl, hlocks, hgv⟩ := id C0
  have hown : s.vm.findClass RL = some m.cls := hown0
  have hA : ∀ q : Nat, s.heap.size ≤ q → (fun q : Nat => s.heap.size ≤ q) q := fun _ h => h
  have hbA : ¬ (fun q : Nat => s.heap.size ≤ q) b := Nat.not_le.mpr hbl
  obtain ⟨ax, kx, vx, fx, gx, rx, mi, mr, km, fm, rfl, hK, hXI, hMI, hlen, hP, hD⟩ := hI
  refine lv_aload_n hx hb (dk_at dkL_c17 0 rfl) rfl (lv_at hl 1 rfl) ?_
  refine lw_arg hx hb hX hbl hbA hS hl (dk_at dkL_c17 1 rfl) (dk_at dkL_c17 2 rfl) (dk_at dkL_c17 3 rfl) (dk_at dkL_c17 4 rfl) (dk_at dkL_c17 5 rfl) 1 (by decide) (Nat.le_of_ble_eq_true rfl) hn hL (fun a1 ea1 => ?_)
  refine lw_cx (st := [.int a1, .ref (ax 0)]) (rest := []) ⟨hx, hb, hml, hown, hts⟩ (uX11_sure l dC dI H.size ax kx vx fx gx rx hXI a1) (cwV 1 hts (gz_lV lm_139 lm_140 lm_141 lm_4 lm_138 lwGA goodGA) rfl rfl rfl hdV_X11_sure_X11_1 ⟨Nat.le_of_ble_eq_true rfl, Nat.le_of_ble_eq_true rfl⟩) rfl rfl hl.1 (Nat.le_of_ble_eq_true rfl) (dk_at dkL_c17 6 rfl) (lw_rm (a := 0) (b := 0) hn hL (Nat.le_of_ble_eq_true rfl) (Nat.le_of_ble_eq_true rfl)) hz hK hP hD hS (fun rx9 ax2 kx2 vx2 fx2 gx2 rx2 H locs h0 hXI2 hrelx hK hP hD hS => ?_)
  refine lv_pop hx hb (dk_at dkL_c17 7 rfl) rfl ?_
  refine lv_aload_n hx hb (dk_at dkL_c17 8 rfl) rfl (lv_at hl 2 rfl) ?_
  refine lw_arg hx hb hX hbl hbA hS hl (dk_at dkL_c17 9 rfl) (dk_at dkL_c17 10 rfl) (dk_at dkL_c17 11 rfl) (dk_at dkL_c17 12 rfl) (dk_at dkL_c17 13 rfl) 1 (by decide) (Nat.le_of_ble_eq_true rfl) hn hL (fun a2 ea2 => ?_)
  refine lw_cm (st := [.int a2, .ref hm]) (rest := []) ⟨hx, hb, hml, hown, hts⟩ (uX12_sure l dC dI H.size hm mi mr km fm hMI a2) (cwV 1 hts (gz_lV lm_143 lm_144 lm_145 lm_9 lm_142 lwGB goodGB) rfl rfl rfl hdV_X12_sure_X12_1 ⟨Nat.le_of_ble_eq_true rfl, Nat.le_of_ble_eq_true rfl⟩) rfl rfl hl.1 (Nat.le_of_ble_eq_true rfl) (dk_at dkL_c17 14 rfl) (lw_rm2 (a := 0) (b := 0) (a2 := 0) (b2 := 0) hn hL (Nat.le_of_ble_eq_true rfl) (Nat.le_of_ble_eq_true rfl)) hK hP hD hS (fun rm9 mi2 fm2 H locs hMI2 hrelm hP hD hS => ?_)
  refine lv_pop hx hb (dk_at dkL_c17 15 rfl) rfl ?_
  refine lv_goto (tgt := 2056) hx hb (dk_at dkL_c17 16 rfl) (by decide) ?_
  have e90 : a2 = a1 := ea2.trans ea1.symm
  rw [e90] at hrelm
  have hN9 := pr_sure hXI hMI hlen hrelx hrelm
  refine W.widen (k := 400 + (n + 1)) (n := 40000 + 5 * (n + 1)) (by omega) (by omega) ?_
  exact next _ _ _ ⟨ax2, kx2, vx2, fx2, gx2, rx2, mi2, mr, km, fm2, h0, hK, hXI2, hMI2, hN9.1, hP, hD⟩ hS hl
