set_option maxRecDepth 20000 in
theorem wd_737 : Cond.instanceMethod yX0_isNumber ∈ lw_tbl := List.mem_of_getElem? (i := 737) rfl
set_option maxRecDepth 20000 in
theorem wd_738 : Cond.selects RX0 yX0_isNumber yX0_isNumber ∈ lw_tbl := List.mem_of_getElem? (i := 738) rfl
set_option maxRecDepth 20000 in
theorem wd_739 : Cond.code yX0_isNumber cX0_isNumber 2 (some .boolean) ∈ lw_tbl := List.mem_of_getElem? (i := 739) rfl
set_option maxRecDepth 20000 in
theorem wd_740 : Cond.methodLink RX9 216 yX0_draw ∈ lw_tbl := List.mem_of_getElem? (i := 740) rfl
set_option maxRecDepth 20000 in
theorem wd_741 : Cond.methodLink RL 92 yX9_point ∈ lw_tbl := List.mem_of_getElem? (i := 741) rfl
set_option maxRecDepth 20000 in
theorem wd_742 : Cond.instanceMethod yX9_point ∈ lw_tbl := List.mem_of_getElem? (i := 742) rfl
set_option maxRecDepth 20000 in
theorem wd_743 : Cond.selects RX9 yX9_point yX9_point ∈ lw_tbl := List.mem_of_getElem? (i := 743) rfl
set_option maxRecDepth 20000 in
theorem wd_744 : Cond.code yX9_point cX9_point 2 (some .int) ∈ lw_tbl := List.mem_of_getElem? (i := 744) rfl
set_option maxRecDepth 20000 in
theorem wd_745 : Cond.methodLink RX9 222 yX0_hasHand ∈ lw_tbl := List.mem_of_getElem? (i := 745) rfl
set_option maxRecDepth 20000 in
theorem wd_746 : Cond.instanceMethod yX0_hasHand ∈ lw_tbl := List.mem_of_getElem? (i := 746) rfl
set_option maxRecDepth 20000 in
theorem wd_747 : Cond.selects RX0 yX0_hasHand yX0_hasHand ∈ lw_tbl := List.mem_of_getElem? (i := 747) rfl
set_option maxRecDepth 20000 in
theorem wd_748 : Cond.code yX0_hasHand cX0_hasHand 2 (some .boolean) ∈ lw_tbl := List.mem_of_getElem? (i := 748) rfl
set_option maxRecDepth 20000 in
theorem wd_749 : Cond.methodLink RX9 225 yX0_bentPoint ∈ lw_tbl := List.mem_of_getElem? (i := 749) rfl
set_option maxRecDepth 20000 in
theorem wd_750 : Cond.instanceMethod yX0_bentPoint ∈ lw_tbl := List.mem_of_getElem? (i := 750) rfl
set_option maxRecDepth 20000 in
theorem wd_751 : Cond.selects RX0 yX0_bentPoint yX0_bentPoint ∈ lw_tbl := List.mem_of_getElem? (i := 751) rfl
set_option maxRecDepth 20000 in
theorem wd_752 : Cond.code yX0_bentPoint cX0_bentPoint 3 (some .int) ∈ lw_tbl := List.mem_of_getElem? (i := 752) rfl
set_option maxRecDepth 20000 in
theorem wd_755 : Cond.methodLink RL 96 yX9_bend ∈ lw_tbl := List.mem_of_getElem? (i := 755) rfl
set_option maxRecDepth 20000 in
theorem wd_756 : Cond.instanceMethod yX9_bend ∈ lw_tbl := List.mem_of_getElem? (i := 756) rfl
set_option maxRecDepth 20000 in
theorem wd_757 : Cond.selects RX9 yX9_bend yX9_bend ∈ lw_tbl := List.mem_of_getElem? (i := 757) rfl
set_option maxRecDepth 20000 in
theorem wd_758 : Cond.code yX9_bend cX9_bend 3 (some .int) ∈ lw_tbl := List.mem_of_getElem? (i := 758) rfl
set_option maxRecDepth 20000 in
theorem wd_759 : Cond.methodLink RL 100 yX9_open ∈ lw_tbl := List.mem_of_getElem? (i := 759) rfl
set_option maxRecDepth 20000 in
theorem wd_760 : Cond.instanceMethod yX9_open ∈ lw_tbl := List.mem_of_getElem? (i := 760) rfl
set_option maxRecDepth 20000 in
theorem wd_761 : Cond.selects RX9 yX9_open yX9_open ∈ lw_tbl := List.mem_of_getElem? (i := 761) rfl
set_option maxRecDepth 20000 in
theorem wd_762 : Cond.code yX9_open cX9_open 3 (some .int) ∈ lw_tbl := List.mem_of_getElem? (i := 762) rfl
set_option maxRecDepth 20000 in
theorem wd_763 : Cond.methodLink RX9 231 yX0_hasSet ∈ lw_tbl := List.mem_of_getElem? (i := 763) rfl
set_option maxRecDepth 20000 in
theorem wd_764 : Cond.instanceMethod yX0_hasSet ∈ lw_tbl := List.mem_of_getElem? (i := 764) rfl
set_option maxRecDepth 20000 in
theorem wd_765 : Cond.selects RX0 yX0_hasSet yX0_hasSet ∈ lw_tbl := List.mem_of_getElem? (i := 765) rfl
set_option maxRecDepth 20000 in
theorem wd_766 : Cond.code yX0_hasSet cX0_hasSet 2 (some .boolean) ∈ lw_tbl := List.mem_of_getElem? (i := 766) rfl
set_option maxRecDepth 20000 in
theorem wd_767 : Cond.methodLink RX9 234 yX0_takePoints ∈ lw_tbl := List.mem_of_getElem? (i := 767) rfl
set_option maxRecDepth 20000 in
theorem wd_768 : Cond.instanceMethod yX0_takePoints ∈ lw_tbl := List.mem_of_getElem? (i := 768) rfl
set_option maxRecDepth 20000 in
theorem wd_769 : Cond.selects RX0 yX0_takePoints yX0_takePoints ∈ lw_tbl := List.mem_of_getElem? (i := 769) rfl
set_option maxRecDepth 20000 in
theorem wd_770 : Cond.code yX0_takePoints cX0_takePoints 2 none ∈ lw_tbl := List.mem_of_getElem? (i := 770) rfl
set_option maxRecDepth 20000 in
theorem wd_771 : Cond.methodLink RX0 57 yX0_bentPoint ∈ lw_tbl := List.mem_of_getElem? (i := 771) rfl
set_option maxRecDepth 20000 in
theorem wd_773 : Cond.methodLink RX9 237 yX0_opened ∈ lw_tbl := List.mem_of_getElem? (i := 773) rfl
set_option maxRecDepth 20000 in
theorem wd_774 : Cond.instanceMethod yX0_opened ∈ lw_tbl := List.mem_of_getElem? (i := 774) rfl
set_option maxRecDepth 20000 in
theorem wd_775 : Cond.selects RX0 yX0_opened yX0_opened ∈ lw_tbl := List.mem_of_getElem? (i := 775) rfl
set_option maxRecDepth 20000 in
theorem wd_776 : Cond.code yX0_opened cX0_opened 8 (some .int) ∈ lw_tbl := List.mem_of_getElem? (i := 776) rfl
set_option maxRecDepth 20000 in
theorem wd_777 : Cond.methodLink RX0 65 yJ6_bitCount_0f7a4 ∈ lw_tbl := List.mem_of_getElem? (i := 777) rfl
set_option maxRecDepth 20000 in
theorem wd_778 : Cond.methodLink RX0 70 yX0_agreeing ∈ lw_tbl := List.mem_of_getElem? (i := 778) rfl
set_option maxRecDepth 20000 in
theorem wd_780 : Cond.instanceMethod yX0_agreeing ∈ lw_tbl := List.mem_of_getElem? (i := 780) rfl
set_option maxRecDepth 20000 in
theorem wd_781 : Cond.code yX0_agreeing cX0_agreeing 5 (some .int) ∈ lw_tbl := List.mem_of_getElem? (i := 781) rfl
set_option maxRecDepth 20000 in
theorem wd_782 : Cond.methodLink RX0 73 yX0_heightAt ∈ lw_tbl := List.mem_of_getElem? (i := 782) rfl
set_option maxRecDepth 20000 in
theorem wd_784 : Cond.instanceMethod yX0_heightAt ∈ lw_tbl := List.mem_of_getElem? (i := 784) rfl
set_option maxRecDepth 20000 in
theorem wd_785 : Cond.code yX0_heightAt cX0_heightAt 8 (some .int) ∈ lw_tbl := List.mem_of_getElem? (i := 785) rfl
set_option maxRecDepth 20000 in
theorem wd_786 : Cond.methodLink RX0 76 yX0_inverse ∈ lw_tbl := List.mem_of_getElem? (i := 786) rfl
set_option maxRecDepth 20000 in
theorem wd_788 : Cond.instanceMethod yX0_inverse ∈ lw_tbl := List.mem_of_getElem? (i := 788) rfl
set_option maxRecDepth 20000 in
theorem wd_789 : Cond.code yX0_inverse cX0_inverse 3 (some .int) ∈ lw_tbl := List.mem_of_getElem? (i := 789) rfl
set_option maxRecDepth 20000 in
theorem wd_790 : Cond.methodLink RL 104 yX9_product ∈ lw_tbl := List.mem_of_getElem? (i := 790) rfl
set_option maxRecDepth 20000 in
theorem wd_791 : Cond.instanceMethod yX9_product ∈ lw_tbl := List.mem_of_getElem? (i := 791) rfl
set_option maxRecDepth 20000 in
theorem wd_792 : Cond.selects RX9 yX9_product yX9_product ∈ lw_tbl := List.mem_of_getElem? (i := 792) rfl
set_option maxRecDepth 20000 in
theorem wd_793 : Cond.code yX9_product cX9_product 3 (some .int) ∈ lw_tbl := List.mem_of_getElem? (i := 793) rfl
set_option maxRecDepth 20000 in
theorem wd_794 : Cond.methodLink RX9 241 yJ6_bitCount_0f7a4 ∈ lw_tbl := List.mem_of_getElem? (i := 794) rfl
set_option maxRecDepth 20000 in
theorem wd_795 : Cond.methodLink RX9 246 yX0_takeSquares ∈ lw_tbl := List.mem_of_getElem? (i := 795) rfl
set_option maxRecDepth 20000 in
theorem wd_796 : Cond.instanceMethod yX0_takeSquares ∈ lw_tbl := List.mem_of_getElem? (i := 796) rfl
set_option maxRecDepth 20000 in
theorem wd_797 : Cond.selects RX0 yX0_takeSquares yX0_takeSquares ∈ lw_tbl := List.mem_of_getElem? (i := 797) rfl
set_option maxRecDepth 20000 in
theorem wd_798 : Cond.code yX0_takeSquares cX0_takeSquares 2 none ∈ lw_tbl := List.mem_of_getElem? (i := 798) rfl
set_option maxRecDepth 20000 in
theorem wd_799 : Cond.methodLink RL 108 yX9_month ∈ lw_tbl := List.mem_of_getElem? (i := 799) rfl
set_option maxRecDepth 20000 in
theorem wd_800 : Cond.instanceMethod yX9_month ∈ lw_tbl := List.mem_of_getElem? (i := 800) rfl
set_option maxRecDepth 20000 in
theorem wd_801 : Cond.selects RX9 yX9_month yX9_month ∈ lw_tbl := List.mem_of_getElem? (i := 801) rfl
set_option maxRecDepth 20000 in
theorem wd_802 : Cond.code yX9_month cX9_month 2 (some .int) ∈ lw_tbl := List.mem_of_getElem? (i := 802) rfl
set_option maxRecDepth 20000 in
theorem wd_803 : Cond.methodLink RX9 252 yX1_goOn ∈ lw_tbl := List.mem_of_getElem? (i := 803) rfl
set_option maxRecDepth 20000 in
theorem wd_804 : Cond.instanceMethod yX1_goOn ∈ lw_tbl := List.mem_of_getElem? (i := 804) rfl
set_option maxRecDepth 20000 in
theorem wd_805 : Cond.selects RX1 yX1_goOn yX1_goOn ∈ lw_tbl := List.mem_of_getElem? (i := 805) rfl
set_option maxRecDepth 20000 in
theorem wd_806 : Cond.code yX1_goOn cX1_goOn 2 none ∈ lw_tbl := List.mem_of_getElem? (i := 806) rfl
set_option maxRecDepth 20000 in
theorem wd_807 : Cond.methodLink RL 112 yX9_steal ∈ lw_tbl := List.mem_of_getElem? (i := 807) rfl
set_option maxRecDepth 20000 in
theorem wd_808 : Cond.instanceMethod yX9_steal ∈ lw_tbl := List.mem_of_getElem? (i := 808) rfl
set_option maxRecDepth 20000 in
theorem wd_809 : Cond.selects RX9 yX9_steal yX9_steal ∈ lw_tbl := List.mem_of_getElem? (i := 809) rfl
set_option maxRecDepth 20000 in
theorem wd_810 : Cond.code yX9_steal cX9_steal 2 (some .int) ∈ lw_tbl := List.mem_of_getElem? (i := 810) rfl
set_option maxRecDepth 20000 in
theorem wd_811 : Cond.methodLink RX9 259 yX1_losePoint ∈ lw_tbl := List.mem_of_getElem? (i := 811) rfl
set_option maxRecDepth 20000 in
theorem wd_812 : Cond.instanceMethod yX1_losePoint ∈ lw_tbl := List.mem_of_getElem? (i := 812) rfl
set_option maxRecDepth 20000 in
theorem wd_813 : Cond.selects RX1 yX1_losePoint yX1_losePoint ∈ lw_tbl := List.mem_of_getElem? (i := 813) rfl
set_option maxRecDepth 20000 in
theorem wd_814 : Cond.code yX1_losePoint cX1_losePoint 3 none ∈ lw_tbl := List.mem_of_getElem? (i := 814) rfl
set_option maxRecDepth 20000 in
theorem wd_815 : Cond.methodLink RX1 23 yJ6_bitCount_0f7a4 ∈ lw_tbl := List.mem_of_getElem? (i := 815) rfl
set_option maxRecDepth 20000 in
theorem wd_816 : Cond.methodLink RL 116 yX9_known ∈ lw_tbl := List.mem_of_getElem? (i := 816) rfl
set_option maxRecDepth 20000 in
theorem wd_817 : Cond.instanceMethod yX9_known ∈ lw_tbl := List.mem_of_getElem? (i := 817) rfl
set_option maxRecDepth 20000 in
theorem wd_818 : Cond.selects RX9 yX9_known yX9_known ∈ lw_tbl := List.mem_of_getElem? (i := 818) rfl
set_option maxRecDepth 20000 in
theorem wd_819 : Cond.code yX9_known cX9_known 2 (some .int) ∈ lw_tbl := List.mem_of_getElem? (i := 819) rfl
set_option maxRecDepth 20000 in
theorem wd_820 : Cond.methodLink RX9 267 yX1_safeHands ∈ lw_tbl := List.mem_of_getElem? (i := 820) rfl
set_option maxRecDepth 20000 in
theorem wd_821 : Cond.instanceMethod yX1_safeHands ∈ lw_tbl := List.mem_of_getElem? (i := 821) rfl
set_option maxRecDepth 20000 in
theorem wd_822 : Cond.selects RX1 yX1_safeHands yX1_safeHands ∈ lw_tbl := List.mem_of_getElem? (i := 822) rfl
set_option maxRecDepth 20000 in
theorem wd_823 : Cond.code yX1_safeHands cX1_safeHands 2 (some .int) ∈ lw_tbl := List.mem_of_getElem? (i := 823) rfl
set_option maxRecDepth 20000 in
theorem wd_824 : Cond.methodLink RL 120 yX9_weight ∈ lw_tbl := List.mem_of_getElem? (i := 824) rfl
set_option maxRecDepth 20000 in
theorem wd_825 : Cond.instanceMethod yX9_weight ∈ lw_tbl := List.mem_of_getElem? (i := 825) rfl
set_option maxRecDepth 20000 in
theorem wd_826 : Cond.selects RX9 yX9_weight yX9_weight ∈ lw_tbl := List.mem_of_getElem? (i := 826) rfl
set_option maxRecDepth 20000 in
theorem wd_827 : Cond.code yX9_weight cX9_weight 3 (some .int) ∈ lw_tbl := List.mem_of_getElem? (i := 827) rfl
set_option maxRecDepth 20000 in
theorem wd_828 : Cond.methodLink RX9 270 yX9_shareWeight ∈ lw_tbl := List.mem_of_getElem? (i := 828) rfl
set_option maxRecDepth 20000 in
theorem wd_830 : Cond.instanceMethod yX9_shareWeight ∈ lw_tbl := List.mem_of_getElem? (i := 830) rfl
set_option maxRecDepth 20000 in
theorem wd_831 : Cond.code yX9_shareWeight cX9_shareWeight 1 (some .int) ∈ lw_tbl := List.mem_of_getElem? (i := 831) rfl
set_option maxRecDepth 20000 in
theorem wd_832 : Cond.methodLink RX9 273 yX9_sumWeight ∈ lw_tbl := List.mem_of_getElem? (i := 832) rfl
set_option maxRecDepth 20000 in
theorem wd_834 : Cond.instanceMethod yX9_sumWeight ∈ lw_tbl := List.mem_of_getElem? (i := 834) rfl
set_option maxRecDepth 20000 in
theorem wd_835 : Cond.code yX9_sumWeight cX9_sumWeight 2 (some .int) ∈ lw_tbl := List.mem_of_getElem? (i := 835) rfl
set_option maxRecDepth 20000 in
theorem wd_836 : Cond.constantLong RX9 292 (10) ∈ lw_tbl := List.mem_of_getElem? (i := 836) rfl
set_option maxRecDepth 20000 in
theorem wd_837 : Cond.methodLink RX9 294 yX2_lotsOf ∈ lw_tbl := List.mem_of_getElem? (i := 837) rfl
set_option maxRecDepth 20000 in
theorem wd_838 : Cond.instanceMethod yX2_lotsOf ∈ lw_tbl := List.mem_of_getElem? (i := 838) rfl
set_option maxRecDepth 20000 in
theorem wd_839 : Cond.selects RX2 yX2_lotsOf yX2_lotsOf ∈ lw_tbl := List.mem_of_getElem? (i := 839) rfl
set_option maxRecDepth 20000 in
theorem wd_840 : Cond.code yX2_lotsOf cX2_lotsOf 3 (some .int) ∈ lw_tbl := List.mem_of_getElem? (i := 840) rfl
set_option maxRecDepth 20000 in
theorem wd_841 : Cond.methodLink RX9 276 yX9_curveWeight ∈ lw_tbl := List.mem_of_getElem? (i := 841) rfl
set_option maxRecDepth 20000 in
theorem wd_843 : Cond.instanceMethod yX9_curveWeight ∈ lw_tbl := List.mem_of_getElem? (i := 843) rfl
set_option maxRecDepth 20000 in
theorem wd_844 : Cond.code yX9_curveWeight cX9_curveWeight 1 (some .int) ∈ lw_tbl := List.mem_of_getElem? (i := 844) rfl
set_option maxRecDepth 20000 in
theorem wd_845 : Cond.constantLong RX9 297 (100) ∈ lw_tbl := List.mem_of_getElem? (i := 845) rfl
set_option maxRecDepth 20000 in
theorem wd_846 : Cond.methodLink RX9 279 yX9_bitWeight ∈ lw_tbl := List.mem_of_getElem? (i := 846) rfl
set_option maxRecDepth 20000 in
theorem wd_848 : Cond.instanceMethod yX9_bitWeight ∈ lw_tbl := List.mem_of_getElem? (i := 848) rfl
set_option maxRecDepth 20000 in
theorem wd_849 : Cond.code yX9_bitWeight cX9_bitWeight 2 (some .int) ∈ lw_tbl := List.mem_of_getElem? (i := 849) rfl
set_option maxRecDepth 20000 in
theorem wd_850 : Cond.constantLong RX9 299 (1000) ∈ lw_tbl := List.mem_of_getElem? (i := 850) rfl
set_option maxRecDepth 20000 in
theorem wd_851 : Cond.methodLink RX9 282 yX9_sealedWeight ∈ lw_tbl := List.mem_of_getElem? (i := 851) rfl
set_option maxRecDepth 20000 in
theorem wd_853 : Cond.instanceMethod yX9_sealedWeight ∈ lw_tbl := List.mem_of_getElem? (i := 853) rfl
set_option maxRecDepth 20000 in
theorem wd_854 : Cond.code yX9_sealedWeight cX9_sealedWeight 1 (some .int) ∈ lw_tbl := List.mem_of_getElem? (i := 854) rfl
set_option maxRecDepth 20000 in
theorem wd_855 : Cond.constantLong RX9 301 (10000) ∈ lw_tbl := List.mem_of_getElem? (i := 855) rfl
set_option maxRecDepth 20000 in
theorem wd_856 : Cond.methodLink RX9 285 yX9_openedWeight ∈ lw_tbl := List.mem_of_getElem? (i := 856) rfl
set_option maxRecDepth 20000 in
theorem wd_858 : Cond.instanceMethod yX9_openedWeight ∈ lw_tbl := List.mem_of_getElem? (i := 858) rfl
set_option maxRecDepth 20000 in
theorem wd_859 : Cond.code yX9_openedWeight cX9_openedWeight 2 (some .int) ∈ lw_tbl := List.mem_of_getElem? (i := 859) rfl
set_option maxRecDepth 20000 in
theorem wd_860 : Cond.constantLong RX9 303 (100000) ∈ lw_tbl := List.mem_of_getElem? (i := 860) rfl
set_option maxRecDepth 20000 in
theorem wd_861 : Cond.methodLink RX9 305 yX2_seenOf ∈ lw_tbl := List.mem_of_getElem? (i := 861) rfl
set_option maxRecDepth 20000 in
theorem wd_862 : Cond.instanceMethod yX2_seenOf ∈ lw_tbl := List.mem_of_getElem? (i := 862) rfl
set_option maxRecDepth 20000 in
theorem wd_863 : Cond.selects RX2 yX2_seenOf yX2_seenOf ∈ lw_tbl := List.mem_of_getElem? (i := 863) rfl
set_option maxRecDepth 20000 in
theorem wd_864 : Cond.code yX2_seenOf cX2_seenOf 3 (some .int) ∈ lw_tbl := List.mem_of_getElem? (i := 864) rfl
set_option maxRecDepth 20000 in
theorem wd_865 : Cond.methodLink RL 124 yX9_count ∈ lw_tbl := List.mem_of_getElem? (i := 865) rfl
set_option maxRecDepth 20000 in
theorem wd_866 : Cond.instanceMethod yX9_count ∈ lw_tbl := List.mem_of_getElem? (i := 866) rfl
set_option maxRecDepth 20000 in
theorem wd_867 : Cond.selects RX9 yX9_count yX9_count ∈ lw_tbl := List.mem_of_getElem? (i := 867) rfl
set_option maxRecDepth 20000 in
theorem wd_868 : Cond.code yX9_count cX9_count 2 (some .int) ∈ lw_tbl := List.mem_of_getElem? (i := 868) rfl
set_option maxRecDepth 20000 in
theorem wd_869 : Cond.methodLink RL 128 yX9_trace ∈ lw_tbl := List.mem_of_getElem? (i := 869) rfl
set_option maxRecDepth 20000 in
theorem wd_870 : Cond.instanceMethod yX9_trace ∈ lw_tbl := List.mem_of_getElem? (i := 870) rfl
set_option maxRecDepth 20000 in
theorem wd_871 : Cond.selects RX9 yX9_trace yX9_trace ∈ lw_tbl := List.mem_of_getElem? (i := 871) rfl
set_option maxRecDepth 20000 in
theorem wd_872 : Cond.code yX9_trace cX9_trace 1 (some .long) ∈ lw_tbl := List.mem_of_getElem? (i := 872) rfl
set_option maxRecDepth 20000 in
theorem wd_873 : Cond.classLink RL 10 RX10 ∈ lw_tbl := List.mem_of_getElem? (i := 873) rfl
set_option maxRecDepth 20000 in
theorem wd_874 : Cond.instantiable RX10 47 ∈ lw_tbl := List.mem_of_getElem? (i := 874) rfl
set_option maxRecDepth 20000 in
theorem wd_875 : Cond.methodLink RL 12 yX10_init ∈ lw_tbl := List.mem_of_getElem? (i := 875) rfl
set_option maxRecDepth 20000 in
theorem wd_876 : Cond.instanceMethod yX10_init ∈ lw_tbl := List.mem_of_getElem? (i := 876) rfl
set_option maxRecDepth 20000 in
theorem wd_877 : Cond.code yX10_init cX10_init 1 none ∈ lw_tbl := List.mem_of_getElem? (i := 877) rfl
set_option maxRecDepth 20000 in
theorem wd_878 : Cond.methodLink RX10 1 objectInit ∈ lw_tbl := List.mem_of_getElem? (i := 878) rfl
set_option maxRecDepth 20000 in
theorem wd_879 : Cond.fieldLink RX10 282 "DustSumsModel" "trace" "J" ∈ lw_tbl := List.mem_of_getElem? (i := 879) rfl
set_option maxRecDepth 20000 in
theorem wd_880 : Cond.fieldLink RX10 7 "DustSumsModel" "text" "[B" ∈ lw_tbl := List.mem_of_getElem? (i := 880) rfl
set_option maxRecDepth 20000 in
theorem wd_881 : Cond.fieldLink RX10 121 "DustSumsModel" "typed" "I" ∈ lw_tbl := List.mem_of_getElem? (i := 881) rfl
set_option maxRecDepth 20000 in
theorem wd_882 : Cond.fieldLink RX10 112 "DustSumsModel" "items" "I" ∈ lw_tbl := List.mem_of_getElem? (i := 882) rfl
set_option maxRecDepth 20000 in
theorem wd_883 : Cond.fieldLink RX10 13 "DustSumsModel" "what" "[I" ∈ lw_tbl := List.mem_of_getElem? (i := 883) rfl
set_option maxRecDepth 20000 in
theorem wd_884 : Cond.fieldLink RX10 17 "DustSumsModel" "to" "[I" ∈ lw_tbl := List.mem_of_getElem? (i := 884) rfl
set_option maxRecDepth 20000 in
theorem wd_885 : Cond.fieldLink RX10 20 "DustSumsModel" "one" "[I" ∈ lw_tbl := List.mem_of_getElem? (i := 885) rfl
set_option maxRecDepth 20000 in
theorem wd_886 : Cond.fieldLink RX10 23 "DustSumsModel" "two" "[I" ∈ lw_tbl := List.mem_of_getElem? (i := 886) rfl
set_option maxRecDepth 20000 in
theorem wd_887 : Cond.fieldLink RX10 26 "DustSumsModel" "told" "[I" ∈ lw_tbl := List.mem_of_getElem? (i := 887) rfl
set_option maxRecDepth 20000 in
theorem wd_888 : Cond.fieldLink RX10 126 "DustSumsModel" "at" "I" ∈ lw_tbl := List.mem_of_getElem? (i := 888) rfl
set_option maxRecDepth 20000 in
theorem wd_889 : Cond.fieldLink RX10 129 "DustSumsModel" "start" "I" ∈ lw_tbl := List.mem_of_getElem? (i := 889) rfl
set_option maxRecDepth 20000 in
theorem wd_890 : Cond.fieldLink RX10 143 "DustSumsModel" "sort" "I" ∈ lw_tbl := List.mem_of_getElem? (i := 890) rfl
set_option maxRecDepth 20000 in
theorem wd_891 : Cond.fieldLink RX10 140 "DustSumsModel" "value" "I" ∈ lw_tbl := List.mem_of_getElem? (i := 891) rfl
set_option maxRecDepth 20000 in
theorem wd_892 : Cond.fieldLink RX10 161 "DustSumsModel" "fault" "I" ∈ lw_tbl := List.mem_of_getElem? (i := 892) rfl
set_option maxRecDepth 20000 in
theorem wd_893 : Cond.fieldLink RX10 167 "DustSumsModel" "became" "I" ∈ lw_tbl := List.mem_of_getElem? (i := 893) rfl
set_option maxRecDepth 20000 in
theorem wd_894 : Cond.fieldLink RX10 29 "DustSumsModel" "letterDeep" "[I" ∈ lw_tbl := List.mem_of_getElem? (i := 894) rfl
set_option maxRecDepth 20000 in
theorem wd_895 : Cond.fieldLink RX10 32 "DustSumsModel" "deep" "[I" ∈ lw_tbl := List.mem_of_getElem? (i := 895) rfl
set_option maxRecDepth 20000 in
theorem wd_896 : Cond.fieldLink RX10 35 "DustSumsModel" "modulus" "I" ∈ lw_tbl := List.mem_of_getElem? (i := 896) rfl
set_option maxRecDepth 20000 in
theorem wd_897 : Cond.fieldLink RX10 39 "DustSumsModel" "input" "[I" ∈ lw_tbl := List.mem_of_getElem? (i := 897) rfl
set_option maxRecDepth 20000 in
theorem wd_898 : Cond.fieldLink RX10 42 "DustSumsModel" "lot" "[I" ∈ lw_tbl := List.mem_of_getElem? (i := 898) rfl
set_option maxRecDepth 20000 in
theorem wd_899 : Cond.fieldLink RX10 177 "DustSumsModel" "lies" "I" ∈ lw_tbl := List.mem_of_getElem? (i := 899) rfl
set_option maxRecDepth 20000 in
theorem wd_900 : Cond.fieldLink RX10 45 "DustSumsModel" "lieItem" "[I" ∈ lw_tbl := List.mem_of_getElem? (i := 900) rfl
set_option maxRecDepth 20000 in
theorem wd_901 : Cond.fieldLink RX10 48 "DustSumsModel" "lieHand" "[I" ∈ lw_tbl := List.mem_of_getElem? (i := 901) rfl
set_option maxRecDepth 20000 in
theorem wd_902 : Cond.fieldLink RX10 51 "DustSumsModel" "lieBy" "[I" ∈ lw_tbl := List.mem_of_getElem? (i := 902) rfl
set_option maxRecDepth 20000 in
theorem wd_903 : Cond.fieldLink RX10 54 "DustSumsModel" "part" "[I" ∈ lw_tbl := List.mem_of_getElem? (i := 903) rfl
set_option maxRecDepth 20000 in
theorem wd_904 : Cond.fieldLink RX10 57 "DustSumsModel" "itemPart" "[I" ∈ lw_tbl := List.mem_of_getElem? (i := 904) rfl
set_option maxRecDepth 20000 in
theorem wd_905 : Cond.fieldLink RX10 60 "DustSumsModel" "drawn" "[I" ∈ lw_tbl := List.mem_of_getElem? (i := 905) rfl
set_option maxRecDepth 20000 in
theorem wd_906 : Cond.fieldLink RX10 216 "DustSumsModel" "ended" "I" ∈ lw_tbl := List.mem_of_getElem? (i := 906) rfl
set_option maxRecDepth 20000 in
theorem wd_907 : Cond.fieldLink RX10 63 "DustSumsModel" "seen" "[I" ∈ lw_tbl := List.mem_of_getElem? (i := 907) rfl
set_option maxRecDepth 20000 in
theorem wd_908 : Cond.fieldLink RX10 203 "DustSumsModel" "sees" "I" ∈ lw_tbl := List.mem_of_getElem? (i := 908) rfl
set_option maxRecDepth 20000 in
theorem wd_909 : Cond.fieldLink RX10 66 "DustSumsModel" "shown" "[I" ∈ lw_tbl := List.mem_of_getElem? (i := 909) rfl
set_option maxRecDepth 20000 in
theorem wd_910 : Cond.fieldLink RX10 69 "DustSumsModel" "triple" "[I" ∈ lw_tbl := List.mem_of_getElem? (i := 910) rfl
set_option maxRecDepth 20000 in
theorem wd_911 : Cond.fieldLink RX10 72 "DustSumsModel" "rows" "[J" ∈ lw_tbl := List.mem_of_getElem? (i := 911) rfl
set_option maxRecDepth 20000 in
theorem wd_912 : Cond.fieldLink RX10 76 "DustSumsModel" "plain" "[I" ∈ lw_tbl := List.mem_of_getElem? (i := 912) rfl
set_option maxRecDepth 20000 in
theorem wd_913 : Cond.fieldLink RX10 79 "DustSumsModel" "given" "[I" ∈ lw_tbl := List.mem_of_getElem? (i := 913) rfl
set_option maxRecDepth 20000 in
theorem wd_914 : Cond.fieldLink RX10 82 "DustSumsModel" "price" "[I" ∈ lw_tbl := List.mem_of_getElem? (i := 914) rfl
set_option maxRecDepth 20000 in
theorem wd_915 : Cond.fieldLink RX10 85 "DustSumsModel" "prime" "I" ∈ lw_tbl := List.mem_of_getElem? (i := 915) rfl
set_option maxRecDepth 20000 in
theorem wd_916 : Cond.fieldLink RX10 88 "DustSumsModel" "degree" "I" ∈ lw_tbl := List.mem_of_getElem? (i := 916) rfl
set_option maxRecDepth 20000 in
theorem wd_917 : Cond.fieldLink RX10 91 "DustSumsModel" "points" "I" ∈ lw_tbl := List.mem_of_getElem? (i := 917) rfl
set_option maxRecDepth 20000 in
theorem wd_918 : Cond.fieldLink RX10 94 "DustSumsModel" "number" "[I" ∈ lw_tbl := List.mem_of_getElem? (i := 918) rfl
set_option maxRecDepth 20000 in
theorem wd_919 : Cond.fieldLink RX10 97 "DustSumsModel" "bent" "[I" ∈ lw_tbl := List.mem_of_getElem? (i := 919) rfl
set_option maxRecDepth 20000 in
theorem wd_920 : Cond.fieldLink RX10 261 "DustSumsModel" "month" "I" ∈ lw_tbl := List.mem_of_getElem? (i := 920) rfl
set_option maxRecDepth 20000 in
theorem wd_921 : Cond.fieldLink RX10 100 "DustSumsModel" "isFresh" "[I" ∈ lw_tbl := List.mem_of_getElem? (i := 921) rfl
set_option maxRecDepth 20000 in
theorem wd_922 : Cond.fieldLink RX10 264 "DustSumsModel" "taken" "I" ∈ lw_tbl := List.mem_of_getElem? (i := 922) rfl
set_option maxRecDepth 20000 in
theorem wd_923 : Cond.fieldLink RX10 103 "DustSumsModel" "takenHand" "[I" ∈ lw_tbl := List.mem_of_getElem? (i := 923) rfl
set_option maxRecDepth 20000 in
theorem wd_924 : Cond.fieldLink RX10 106 "DustSumsModel" "takenMonth" "[I" ∈ lw_tbl := List.mem_of_getElem? (i := 924) rfl
set_option maxRecDepth 20000 in
theorem wd_925 : Cond.fieldLink RX10 109 "DustSumsModel" "shownPoint" "[I" ∈ lw_tbl := List.mem_of_getElem? (i := 925) rfl
set_option maxRecDepth 20000 in
theorem wd_1021 : Cond.methodLink RL 19 yX10_type ∈ lw_tbl := List.mem_of_getElem? (i := 1021) rfl
set_option maxRecDepth 20000 in
theorem wd_1022 : Cond.instanceMethod yX10_type ∈ lw_tbl := List.mem_of_getElem? (i := 1022) rfl
set_option maxRecDepth 20000 in
theorem wd_1023 : Cond.selects RX10 yX10_type yX10_type ∈ lw_tbl := List.mem_of_getElem? (i := 1023) rfl
set_option maxRecDepth 20000 in
theorem wd_1024 : Cond.code yX10_type cX10_type 5 (some .int) ∈ lw_tbl := List.mem_of_getElem? (i := 1024) rfl
set_option maxRecDepth 20000 in
theorem wd_1025 : Cond.constantLong RX10 115 (8) ∈ lw_tbl := List.mem_of_getElem? (i := 1025) rfl
set_option maxRecDepth 20000 in
theorem wd_1026 : Cond.methodLink RX10 117 yX10_in ∈ lw_tbl := List.mem_of_getElem? (i := 1026) rfl
set_option maxRecDepth 20000 in
theorem wd_1027 : Cond.static yX10_in ∈ lw_tbl := List.mem_of_getElem? (i := 1027) rfl
set_option maxRecDepth 20000 in
theorem wd_1028 : Cond.code yX10_in cX10_in 6 (some .boolean) ∈ lw_tbl := List.mem_of_getElem? (i := 1028) rfl
set_option maxRecDepth 20000 in
theorem wd_1029 : Cond.constantLong RX10 124 (255) ∈ lw_tbl := List.mem_of_getElem? (i := 1029) rfl
set_option maxRecDepth 20000 in
theorem wd_1030 : Cond.methodLink RL 24 yX10_clear ∈ lw_tbl := List.mem_of_getElem? (i := 1030) rfl
set_option maxRecDepth 20000 in
theorem wd_1031 : Cond.instanceMethod yX10_clear ∈ lw_tbl := List.mem_of_getElem? (i := 1031) rfl
set_option maxRecDepth 20000 in
theorem wd_1032 : Cond.selects RX10 yX10_clear yX10_clear ∈ lw_tbl := List.mem_of_getElem? (i := 1032) rfl
set_option maxRecDepth 20000 in
theorem wd_1033 : Cond.code yX10_clear cX10_clear 2 (some .int) ∈ lw_tbl := List.mem_of_getElem? (i := 1033) rfl
set_option maxRecDepth 20000 in
theorem wd_1034 : Cond.methodLink RL 28 yX10_program ∈ lw_tbl := List.mem_of_getElem? (i := 1034) rfl
set_option maxRecDepth 20000 in
theorem wd_1035 : Cond.instanceMethod yX10_program ∈ lw_tbl := List.mem_of_getElem? (i := 1035) rfl
set_option maxRecDepth 20000 in
theorem wd_1036 : Cond.selects RX10 yX10_program yX10_program ∈ lw_tbl := List.mem_of_getElem? (i := 1036) rfl
set_option maxRecDepth 20000 in
theorem wd_1037 : Cond.code yX10_program cX10_program 9 (some .int) ∈ lw_tbl := List.mem_of_getElem? (i := 1037) rfl
set_option maxRecDepth 20000 in
theorem wd_1038 : Cond.methodLink RX10 164 yX10_next ∈ lw_tbl := List.mem_of_getElem? (i := 1038) rfl
set_option maxRecDepth 20000 in
theorem wd_1040 : Cond.instanceMethod yX10_next ∈ lw_tbl := List.mem_of_getElem? (i := 1040) rfl
set_option maxRecDepth 20000 in
theorem wd_1041 : Cond.code yX10_next cX10_next 2 none ∈ lw_tbl := List.mem_of_getElem? (i := 1041) rfl
set_option maxRecDepth 20000 in
theorem wd_1042 : Cond.methodLink RX10 136 yX10_here ∈ lw_tbl := List.mem_of_getElem? (i := 1042) rfl
set_option maxRecDepth 20000 in
theorem wd_1044 : Cond.instanceMethod yX10_here ∈ lw_tbl := List.mem_of_getElem? (i := 1044) rfl
set_option maxRecDepth 20000 in
theorem wd_1045 : Cond.code yX10_here cX10_here 1 (some .int) ∈ lw_tbl := List.mem_of_getElem? (i := 1045) rfl
set_option maxRecDepth 20000 in
theorem wd_1046 : Cond.constantLong RX10 146 (97) ∈ lw_tbl := List.mem_of_getElem? (i := 1046) rfl
set_option maxRecDepth 20000 in
theorem wd_1047 : Cond.constantLong RX10 148 (122) ∈ lw_tbl := List.mem_of_getElem? (i := 1047) rfl
set_option maxRecDepth 20000 in
theorem wd_1048 : Cond.methodLink RX10 150 yX10_word ∈ lw_tbl := List.mem_of_getElem? (i := 1048) rfl
set_option maxRecDepth 20000 in
theorem wd_1050 : Cond.instanceMethod yX10_word ∈ lw_tbl := List.mem_of_getElem? (i := 1050) rfl
set_option maxRecDepth 20000 in
theorem wd_1051 : Cond.code yX10_word cX10_word 2 (some .int) ∈ lw_tbl := List.mem_of_getElem? (i := 1051) rfl
set_option maxRecDepth 20000 in
theorem wd_1052 : Cond.methodLink RX10 132 yX10_isSpelled ∈ lw_tbl := List.mem_of_getElem? (i := 1052) rfl
set_option maxRecDepth 20000 in
theorem wd_1054 : Cond.instanceMethod yX10_isSpelled ∈ lw_tbl := List.mem_of_getElem? (i := 1054) rfl
set_option maxRecDepth 20000 in
theorem wd_1055 : Cond.code yX10_isSpelled cX10_isSpelled 5 (some .boolean) ∈ lw_tbl := List.mem_of_getElem? (i := 1055) rfl
set_option maxRecDepth 20000 in
theorem wd_1056 : Cond.constantLong RX10 153 (48) ∈ lw_tbl := List.mem_of_getElem? (i := 1056) rfl
set_option maxRecDepth 20000 in
theorem wd_1057 : Cond.constantLong RX10 155 (57) ∈ lw_tbl := List.mem_of_getElem? (i := 1057) rfl
set_option maxRecDepth 20000 in
theorem wd_1058 : Cond.constantLong RX10 157 (65) ∈ lw_tbl := List.mem_of_getElem? (i := 1058) rfl
set_option maxRecDepth 20000 in
theorem wd_1059 : Cond.constantLong RX10 159 (80) ∈ lw_tbl := List.mem_of_getElem? (i := 1059) rfl
set_option maxRecDepth 20000 in
theorem wd_1060 : Cond.methodLink RX10 170 yX10_due ∈ lw_tbl := List.mem_of_getElem? (i := 1060) rfl
set_option maxRecDepth 20000 in
theorem wd_1062 : Cond.instanceMethod yX10_due ∈ lw_tbl := List.mem_of_getElem? (i := 1062) rfl
set_option maxRecDepth 20000 in
theorem wd_1063 : Cond.code yX10_due cX10_due 3 (some .int) ∈ lw_tbl := List.mem_of_getElem? (i := 1063) rfl
set_option maxRecDepth 20000 in
theorem wd_1064 : Cond.methodLink RX10 174 yX10_letter ∈ lw_tbl := List.mem_of_getElem? (i := 1064) rfl
set_option maxRecDepth 20000 in
theorem wd_1066 : Cond.instanceMethod yX10_letter ∈ lw_tbl := List.mem_of_getElem? (i := 1066) rfl
set_option maxRecDepth 20000 in
theorem wd_1067 : Cond.code yX10_letter cX10_letter 2 (some .int) ∈ lw_tbl := List.mem_of_getElem? (i := 1067) rfl
set_option maxRecDepth 20000 in
theorem wd_1068 : Cond.methodLink RL 33 yX10_item ∈ lw_tbl := List.mem_of_getElem? (i := 1068) rfl
set_option maxRecDepth 20000 in
theorem wd_1069 : Cond.instanceMethod yX10_item ∈ lw_tbl := List.mem_of_getElem? (i := 1069) rfl
set_option maxRecDepth 20000 in
theorem wd_1070 : Cond.selects RX10 yX10_item yX10_item ∈ lw_tbl := List.mem_of_getElem? (i := 1070) rfl
set_option maxRecDepth 20000 in
theorem wd_1071 : Cond.code yX10_item cX10_item 3 (some .int) ∈ lw_tbl := List.mem_of_getElem? (i := 1071) rfl
set_option maxRecDepth 20000 in
theorem wd_1072 : Cond.methodLink RX10 180 yX10_isItem ∈ lw_tbl := List.mem_of_getElem? (i := 1072) rfl
set_option maxRecDepth 20000 in
theorem wd_1074 : Cond.instanceMethod yX10_isItem ∈ lw_tbl := List.mem_of_getElem? (i := 1074) rfl
set_option maxRecDepth 20000 in
theorem wd_1075 : Cond.code yX10_isItem cX10_isItem 2 (some .boolean) ∈ lw_tbl := List.mem_of_getElem? (i := 1075) rfl
set_option maxRecDepth 20000 in
theorem wd_1076 : Cond.methodLink RX10 184 yX10_findDeep ∈ lw_tbl := List.mem_of_getElem? (i := 1076) rfl
set_option maxRecDepth 20000 in
theorem wd_1078 : Cond.instanceMethod yX10_findDeep ∈ lw_tbl := List.mem_of_getElem? (i := 1078) rfl
set_option maxRecDepth 20000 in
theorem wd_1079 : Cond.code yX10_findDeep cX10_findDeep 7 none ∈ lw_tbl := List.mem_of_getElem? (i := 1079) rfl
set_option maxRecDepth 20000 in
theorem wd_1080 : Cond.methodLink RL 38 yX10_modulus ∈ lw_tbl := List.mem_of_getElem? (i := 1080) rfl
set_option maxRecDepth 20000 in
theorem wd_1081 : Cond.instanceMethod yX10_modulus ∈ lw_tbl := List.mem_of_getElem? (i := 1081) rfl
set_option maxRecDepth 20000 in
theorem wd_1082 : Cond.selects RX10 yX10_modulus yX10_modulus ∈ lw_tbl := List.mem_of_getElem? (i := 1082) rfl
set_option maxRecDepth 20000 in
theorem wd_1083 : Cond.code yX10_modulus cX10_modulus 3 (some .int) ∈ lw_tbl := List.mem_of_getElem? (i := 1083) rfl
set_option maxRecDepth 20000 in
theorem wd_1084 : Cond.constantLong RX10 188 (2) ∈ lw_tbl := List.mem_of_getElem? (i := 1084) rfl
set_option maxRecDepth 20000 in
theorem wd_1085 : Cond.constantLong RX10 190 (16) ∈ lw_tbl := List.mem_of_getElem? (i := 1085) rfl
set_option maxRecDepth 20000 in
theorem wd_1086 : Cond.methodLink RL 43 yX10_input ∈ lw_tbl := List.mem_of_getElem? (i := 1086) rfl
set_option maxRecDepth 20000 in
theorem wd_1087 : Cond.instanceMethod yX10_input ∈ lw_tbl := List.mem_of_getElem? (i := 1087) rfl
set_option maxRecDepth 20000 in
theorem wd_1088 : Cond.selects RX10 yX10_input yX10_input ∈ lw_tbl := List.mem_of_getElem? (i := 1088) rfl
set_option maxRecDepth 20000 in
theorem wd_1089 : Cond.code yX10_input cX10_input 5 (some .int) ∈ lw_tbl := List.mem_of_getElem? (i := 1089) rfl
set_option maxRecDepth 20000 in
theorem wd_1090 : Cond.methodLink RX10 192 yX10_countOf ∈ lw_tbl := List.mem_of_getElem? (i := 1090) rfl
set_option maxRecDepth 20000 in
theorem wd_1092 : Cond.instanceMethod yX10_countOf ∈ lw_tbl := List.mem_of_getElem? (i := 1092) rfl
set_option maxRecDepth 20000 in
theorem wd_1093 : Cond.code yX10_countOf cX10_countOf 4 (some .int) ∈ lw_tbl := List.mem_of_getElem? (i := 1093) rfl
set_option maxRecDepth 20000 in
theorem wd_1094 : Cond.constantLong RX10 196 (15) ∈ lw_tbl := List.mem_of_getElem? (i := 1094) rfl
set_option maxRecDepth 20000 in
theorem wd_1095 : Cond.methodLink RL 47 yX10_lot ∈ lw_tbl := List.mem_of_getElem? (i := 1095) rfl
set_option maxRecDepth 20000 in
theorem wd_1096 : Cond.instanceMethod yX10_lot ∈ lw_tbl := List.mem_of_getElem? (i := 1096) rfl
set_option maxRecDepth 20000 in
theorem wd_1097 : Cond.selects RX10 yX10_lot yX10_lot ∈ lw_tbl := List.mem_of_getElem? (i := 1097) rfl
set_option maxRecDepth 20000 in
theorem wd_1098 : Cond.code yX10_lot cX10_lot 4 (some .int) ∈ lw_tbl := List.mem_of_getElem? (i := 1098) rfl
set_option maxRecDepth 20000 in
theorem wd_1099 : Cond.constantLong RX10 198 (39) ∈ lw_tbl := List.mem_of_getElem? (i := 1099) rfl
set_option maxRecDepth 20000 in
theorem wd_1100 : Cond.methodLink RL 51 yX10_lie ∈ lw_tbl := List.mem_of_getElem? (i := 1100) rfl
set_option maxRecDepth 20000 in
theorem wd_1101 : Cond.instanceMethod yX10_lie ∈ lw_tbl := List.mem_of_getElem? (i := 1101) rfl
set_option maxRecDepth 20000 in
theorem wd_1102 : Cond.selects RX10 yX10_lie yX10_lie ∈ lw_tbl := List.mem_of_getElem? (i := 1102) rfl
set_option maxRecDepth 20000 in
theorem wd_1103 : Cond.code yX10_lie cX10_lie 4 (some .int) ∈ lw_tbl := List.mem_of_getElem? (i := 1103) rfl
set_option maxRecDepth 20000 in
theorem wd_1104 : Cond.methodLink RX10 200 yX10_isHand ∈ lw_tbl := List.mem_of_getElem? (i := 1104) rfl
set_option maxRecDepth 20000 in
theorem wd_1105 : Cond.static yX10_isHand ∈ lw_tbl := List.mem_of_getElem? (i := 1105) rfl
set_option maxRecDepth 20000 in
theorem wd_1106 : Cond.code yX10_isHand cX10_isHand 1 (some .boolean) ∈ lw_tbl := List.mem_of_getElem? (i := 1106) rfl
set_option maxRecDepth 20000 in
theorem wd_1107 : Cond.methodLink RL 55 yX10_honest ∈ lw_tbl := List.mem_of_getElem? (i := 1107) rfl
set_option maxRecDepth 20000 in
theorem wd_1108 : Cond.instanceMethod yX10_honest ∈ lw_tbl := List.mem_of_getElem? (i := 1108) rfl
set_option maxRecDepth 20000 in
theorem wd_1109 : Cond.selects RX10 yX10_honest yX10_honest ∈ lw_tbl := List.mem_of_getElem? (i := 1109) rfl
set_option maxRecDepth 20000 in
theorem wd_1110 : Cond.code yX10_honest cX10_honest 2 (some .int) ∈ lw_tbl := List.mem_of_getElem? (i := 1110) rfl
set_option maxRecDepth 20000 in
theorem wd_1111 : Cond.methodLink RL 59 yX10_end ∈ lw_tbl := List.mem_of_getElem? (i := 1111) rfl
set_option maxRecDepth 20000 in
theorem wd_1112 : Cond.instanceMethod yX10_end ∈ lw_tbl := List.mem_of_getElem? (i := 1112) rfl
