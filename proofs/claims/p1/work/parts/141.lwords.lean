theorem tw_122 : Cond.classLink "WristTreatyLaw" 7 RX11 ∈ TB := tb_mem (i := 122) (by decide +kernel) (by decide +kernel)
theorem tw_123 : Cond.instantiable RX11 11 ∈ TB := tb_mem (i := 123) (by decide +kernel) (by decide +kernel)
theorem tw_124 : Cond.methodLink "WristTreatyLaw" 9 yX11_init ∈ TB := tb_mem (i := 124) (by decide +kernel) (by decide +kernel)
theorem tw_125 : Cond.instanceMethod yX11_init ∈ TB := tb_mem (i := 125) (by decide +kernel) (by decide +kernel)
theorem tw_126 : Cond.code yX11_init cX11_init 2 none ∈ TB := tb_mem (i := 126) (by decide +kernel) (by decide +kernel)
theorem tw_499 : Cond.methodLink "WristTreatyLaw" 13 yX11_feed ∈ TB := tb_mem (i := 499) (by decide +kernel) (by decide +kernel)
theorem tw_500 : Cond.instanceMethod yX11_feed ∈ TB := tb_mem (i := 500) (by decide +kernel) (by decide +kernel)
theorem tw_501 : Cond.selects RX11 yX11_feed yX11_feed ∈ TB := tb_mem (i := 501) (by decide +kernel) (by decide +kernel)
theorem tw_502 : Cond.code yX11_feed cX11_feed 6 (some .int) ∈ TB := tb_mem (i := 502) (by decide +kernel) (by decide +kernel)
theorem tw_511 : Cond.methodLink "WristTreatyLaw" 18 yX11_end ∈ TB := tb_mem (i := 511) (by decide +kernel) (by decide +kernel)
theorem tw_512 : Cond.instanceMethod yX11_end ∈ TB := tb_mem (i := 512) (by decide +kernel) (by decide +kernel)
theorem tw_513 : Cond.selects RX11 yX11_end yX11_end ∈ TB := tb_mem (i := 513) (by decide +kernel) (by decide +kernel)
theorem tw_514 : Cond.code yX11_end cX11_end 2 (some .int) ∈ TB := tb_mem (i := 514) (by decide +kernel) (by decide +kernel)
theorem tw_518 : Cond.methodLink "WristTreatyLaw" 23 yX11_gorge ∈ TB := tb_mem (i := 518) (by decide +kernel) (by decide +kernel)
theorem tw_519 : Cond.instanceMethod yX11_gorge ∈ TB := tb_mem (i := 519) (by decide +kernel) (by decide +kernel)
theorem tw_520 : Cond.selects RX11 yX11_gorge yX11_gorge ∈ TB := tb_mem (i := 520) (by decide +kernel) (by decide +kernel)
theorem tw_521 : Cond.code yX11_gorge cX11_gorge 1 (some .int) ∈ TB := tb_mem (i := 521) (by decide +kernel) (by decide +kernel)
theorem tw_690 : Cond.methodLink "WristTreatyLaw" 28 yX11_fault ∈ TB := tb_mem (i := 690) (by decide +kernel) (by decide +kernel)
theorem tw_691 : Cond.instanceMethod yX11_fault ∈ TB := tb_mem (i := 691) (by decide +kernel) (by decide +kernel)
theorem tw_692 : Cond.selects RX11 yX11_fault yX11_fault ∈ TB := tb_mem (i := 692) (by decide +kernel) (by decide +kernel)
theorem tw_693 : Cond.code yX11_fault cX11_fault 2 (some .int) ∈ TB := tb_mem (i := 693) (by decide +kernel) (by decide +kernel)
theorem tw_694 : Cond.methodLink "WristTreatyLaw" 32 yX11_man ∈ TB := tb_mem (i := 694) (by decide +kernel) (by decide +kernel)
theorem tw_695 : Cond.instanceMethod yX11_man ∈ TB := tb_mem (i := 695) (by decide +kernel) (by decide +kernel)
theorem tw_696 : Cond.selects RX11 yX11_man yX11_man ∈ TB := tb_mem (i := 696) (by decide +kernel) (by decide +kernel)
theorem tw_697 : Cond.code yX11_man cX11_man 3 (some .int) ∈ TB := tb_mem (i := 697) (by decide +kernel) (by decide +kernel)
theorem tw_715 : Cond.methodLink "WristTreatyLaw" 37 yX11_clause ∈ TB := tb_mem (i := 715) (by decide +kernel) (by decide +kernel)
theorem tw_716 : Cond.instanceMethod yX11_clause ∈ TB := tb_mem (i := 716) (by decide +kernel) (by decide +kernel)
theorem tw_717 : Cond.selects RX11 yX11_clause yX11_clause ∈ TB := tb_mem (i := 717) (by decide +kernel) (by decide +kernel)
theorem tw_718 : Cond.code yX11_clause cX11_clause 3 (some .int) ∈ TB := tb_mem (i := 718) (by decide +kernel) (by decide +kernel)
theorem tw_732 : Cond.methodLink "WristTreatyLaw" 41 yX11_start ∈ TB := tb_mem (i := 732) (by decide +kernel) (by decide +kernel)
theorem tw_733 : Cond.instanceMethod yX11_start ∈ TB := tb_mem (i := 733) (by decide +kernel) (by decide +kernel)
theorem tw_734 : Cond.selects RX11 yX11_start yX11_start ∈ TB := tb_mem (i := 734) (by decide +kernel) (by decide +kernel)
theorem tw_735 : Cond.code yX11_start cX11_start 2 (some .int) ∈ TB := tb_mem (i := 735) (by decide +kernel) (by decide +kernel)
theorem tw_749 : Cond.methodLink "WristTreatyLaw" 45 yX11_out ∈ TB := tb_mem (i := 749) (by decide +kernel) (by decide +kernel)
theorem tw_750 : Cond.instanceMethod yX11_out ∈ TB := tb_mem (i := 750) (by decide +kernel) (by decide +kernel)
theorem tw_751 : Cond.selects RX11 yX11_out yX11_out ∈ TB := tb_mem (i := 751) (by decide +kernel) (by decide +kernel)
theorem tw_752 : Cond.code yX11_out cX11_out 3 (some .int) ∈ TB := tb_mem (i := 752) (by decide +kernel) (by decide +kernel)
theorem tw_764 : Cond.methodLink "WristTreatyLaw" 49 yX11_next ∈ TB := tb_mem (i := 764) (by decide +kernel) (by decide +kernel)
theorem tw_765 : Cond.instanceMethod yX11_next ∈ TB := tb_mem (i := 765) (by decide +kernel) (by decide +kernel)
theorem tw_766 : Cond.selects RX11 yX11_next yX11_next ∈ TB := tb_mem (i := 766) (by decide +kernel) (by decide +kernel)
theorem tw_767 : Cond.code yX11_next cX11_next 2 (some .int) ∈ TB := tb_mem (i := 767) (by decide +kernel) (by decide +kernel)
theorem tw_790 : Cond.methodLink "WristTreatyLaw" 53 yX11_meetings ∈ TB := tb_mem (i := 790) (by decide +kernel) (by decide +kernel)
theorem tw_791 : Cond.instanceMethod yX11_meetings ∈ TB := tb_mem (i := 791) (by decide +kernel) (by decide +kernel)
theorem tw_792 : Cond.selects RX11 yX11_meetings yX11_meetings ∈ TB := tb_mem (i := 792) (by decide +kernel) (by decide +kernel)
theorem tw_793 : Cond.code yX11_meetings cX11_meetings 2 (some .int) ∈ TB := tb_mem (i := 793) (by decide +kernel) (by decide +kernel)
theorem tw_798 : Cond.methodLink "WristTreatyLaw" 57 yX11_longest ∈ TB := tb_mem (i := 798) (by decide +kernel) (by decide +kernel)
theorem tw_799 : Cond.instanceMethod yX11_longest ∈ TB := tb_mem (i := 799) (by decide +kernel) (by decide +kernel)
theorem tw_800 : Cond.selects RX11 yX11_longest yX11_longest ∈ TB := tb_mem (i := 800) (by decide +kernel) (by decide +kernel)
theorem tw_801 : Cond.code yX11_longest cX11_longest 1 (some .int) ∈ TB := tb_mem (i := 801) (by decide +kernel) (by decide +kernel)
theorem tw_806 : Cond.methodLink "WristTreatyLaw" 61 yX11_able ∈ TB := tb_mem (i := 806) (by decide +kernel) (by decide +kernel)
theorem tw_807 : Cond.instanceMethod yX11_able ∈ TB := tb_mem (i := 807) (by decide +kernel) (by decide +kernel)
theorem tw_808 : Cond.selects RX11 yX11_able yX11_able ∈ TB := tb_mem (i := 808) (by decide +kernel) (by decide +kernel)
theorem tw_809 : Cond.code yX11_able cX11_able 3 (some .int) ∈ TB := tb_mem (i := 809) (by decide +kernel) (by decide +kernel)
theorem tw_810 : Cond.methodLink "WristTreatyLaw" 65 yX11_soonest ∈ TB := tb_mem (i := 810) (by decide +kernel) (by decide +kernel)
theorem tw_811 : Cond.instanceMethod yX11_soonest ∈ TB := tb_mem (i := 811) (by decide +kernel) (by decide +kernel)
theorem tw_812 : Cond.selects RX11 yX11_soonest yX11_soonest ∈ TB := tb_mem (i := 812) (by decide +kernel) (by decide +kernel)
theorem tw_813 : Cond.code yX11_soonest cX11_soonest 5 (some .int) ∈ TB := tb_mem (i := 813) (by decide +kernel) (by decide +kernel)
theorem tw_814 : Cond.methodLink "WristTreatyLaw" 69 yX11_often ∈ TB := tb_mem (i := 814) (by decide +kernel) (by decide +kernel)
theorem tw_815 : Cond.instanceMethod yX11_often ∈ TB := tb_mem (i := 815) (by decide +kernel) (by decide +kernel)
theorem tw_816 : Cond.selects RX11 yX11_often yX11_often ∈ TB := tb_mem (i := 816) (by decide +kernel) (by decide +kernel)
theorem tw_817 : Cond.code yX11_often cX11_often 6 (some .int) ∈ TB := tb_mem (i := 817) (by decide +kernel) (by decide +kernel)
theorem tw_818 : Cond.methodLink "WristTreatyLaw" 73 yX11_kept ∈ TB := tb_mem (i := 818) (by decide +kernel) (by decide +kernel)
theorem tw_819 : Cond.instanceMethod yX11_kept ∈ TB := tb_mem (i := 819) (by decide +kernel) (by decide +kernel)
theorem tw_820 : Cond.selects RX11 yX11_kept yX11_kept ∈ TB := tb_mem (i := 820) (by decide +kernel) (by decide +kernel)
theorem tw_821 : Cond.code yX11_kept cX11_kept 1 (some .int) ∈ TB := tb_mem (i := 821) (by decide +kernel) (by decide +kernel)
theorem tw_826 : Cond.methodLink "WristTreatyLaw" 77 yX11_meet ∈ TB := tb_mem (i := 826) (by decide +kernel) (by decide +kernel)
theorem tw_827 : Cond.instanceMethod yX11_meet ∈ TB := tb_mem (i := 827) (by decide +kernel) (by decide +kernel)
theorem tw_828 : Cond.selects RX11 yX11_meet yX11_meet ∈ TB := tb_mem (i := 828) (by decide +kernel) (by decide +kernel)
theorem tw_829 : Cond.code yX11_meet cX11_meet 2 (some .int) ∈ TB := tb_mem (i := 829) (by decide +kernel) (by decide +kernel)
theorem tw_834 : Cond.methodLink "WristTreatyLaw" 81 yX11_pushes ∈ TB := tb_mem (i := 834) (by decide +kernel) (by decide +kernel)
theorem tw_835 : Cond.instanceMethod yX11_pushes ∈ TB := tb_mem (i := 835) (by decide +kernel) (by decide +kernel)
theorem tw_836 : Cond.selects RX11 yX11_pushes yX11_pushes ∈ TB := tb_mem (i := 836) (by decide +kernel) (by decide +kernel)
theorem tw_837 : Cond.code yX11_pushes cX11_pushes 3 (some .int) ∈ TB := tb_mem (i := 837) (by decide +kernel) (by decide +kernel)
theorem tw_839 : Cond.methodLink "WristTreatyLaw" 85 yX11_hold ∈ TB := tb_mem (i := 839) (by decide +kernel) (by decide +kernel)
theorem tw_840 : Cond.instanceMethod yX11_hold ∈ TB := tb_mem (i := 840) (by decide +kernel) (by decide +kernel)
theorem tw_841 : Cond.selects RX11 yX11_hold yX11_hold ∈ TB := tb_mem (i := 841) (by decide +kernel) (by decide +kernel)
theorem tw_842 : Cond.code yX11_hold cX11_hold 3 (some .int) ∈ TB := tb_mem (i := 842) (by decide +kernel) (by decide +kernel)
theorem tw_852 : Cond.methodLink "WristTreatyLaw" 89 yX11_pair ∈ TB := tb_mem (i := 852) (by decide +kernel) (by decide +kernel)
theorem tw_853 : Cond.instanceMethod yX11_pair ∈ TB := tb_mem (i := 853) (by decide +kernel) (by decide +kernel)
theorem tw_854 : Cond.selects RX11 yX11_pair yX11_pair ∈ TB := tb_mem (i := 854) (by decide +kernel) (by decide +kernel)
theorem tw_855 : Cond.code yX11_pair cX11_pair 5 (some .int) ∈ TB := tb_mem (i := 855) (by decide +kernel) (by decide +kernel)
theorem tw_861 : Cond.methodLink "WristTreatyLaw" 93 yX11_partner ∈ TB := tb_mem (i := 861) (by decide +kernel) (by decide +kernel)
theorem tw_862 : Cond.instanceMethod yX11_partner ∈ TB := tb_mem (i := 862) (by decide +kernel) (by decide +kernel)
theorem tw_863 : Cond.selects RX11 yX11_partner yX11_partner ∈ TB := tb_mem (i := 863) (by decide +kernel) (by decide +kernel)
theorem tw_864 : Cond.code yX11_partner cX11_partner 2 (some .int) ∈ TB := tb_mem (i := 864) (by decide +kernel) (by decide +kernel)
theorem tw_865 : Cond.methodLink "WristTreatyLaw" 97 yX11_strong ∈ TB := tb_mem (i := 865) (by decide +kernel) (by decide +kernel)
theorem tw_866 : Cond.instanceMethod yX11_strong ∈ TB := tb_mem (i := 866) (by decide +kernel) (by decide +kernel)
theorem tw_867 : Cond.selects RX11 yX11_strong yX11_strong ∈ TB := tb_mem (i := 867) (by decide +kernel) (by decide +kernel)
theorem tw_868 : Cond.code yX11_strong cX11_strong 5 (some .int) ∈ TB := tb_mem (i := 868) (by decide +kernel) (by decide +kernel)
theorem tw_869 : Cond.methodLink "WristTreatyLaw" 101 yX11_weak ∈ TB := tb_mem (i := 869) (by decide +kernel) (by decide +kernel)
theorem tw_870 : Cond.instanceMethod yX11_weak ∈ TB := tb_mem (i := 870) (by decide +kernel) (by decide +kernel)
theorem tw_871 : Cond.selects RX11 yX11_weak yX11_weak ∈ TB := tb_mem (i := 871) (by decide +kernel) (by decide +kernel)
theorem tw_872 : Cond.code yX11_weak cX11_weak 5 (some .int) ∈ TB := tb_mem (i := 872) (by decide +kernel) (by decide +kernel)
theorem tw_873 : Cond.methodLink "WristTreatyLaw" 105 yX11_match ∈ TB := tb_mem (i := 873) (by decide +kernel) (by decide +kernel)
theorem tw_874 : Cond.instanceMethod yX11_match ∈ TB := tb_mem (i := 874) (by decide +kernel) (by decide +kernel)
theorem tw_875 : Cond.selects RX11 yX11_match yX11_match ∈ TB := tb_mem (i := 875) (by decide +kernel) (by decide +kernel)
theorem tw_876 : Cond.code yX11_match cX11_match 1 (some .int) ∈ TB := tb_mem (i := 876) (by decide +kernel) (by decide +kernel)
theorem tw_896 : Cond.methodLink "WristTreatyLaw" 109 yX11_matched ∈ TB := tb_mem (i := 896) (by decide +kernel) (by decide +kernel)
theorem tw_897 : Cond.instanceMethod yX11_matched ∈ TB := tb_mem (i := 897) (by decide +kernel) (by decide +kernel)
theorem tw_898 : Cond.selects RX11 yX11_matched yX11_matched ∈ TB := tb_mem (i := 898) (by decide +kernel) (by decide +kernel)
theorem tw_899 : Cond.code yX11_matched cX11_matched 2 (some .int) ∈ TB := tb_mem (i := 899) (by decide +kernel) (by decide +kernel)
theorem tw_905 : Cond.methodLink "WristTreatyLaw" 113 yX11_loners ∈ TB := tb_mem (i := 905) (by decide +kernel) (by decide +kernel)
theorem tw_906 : Cond.instanceMethod yX11_loners ∈ TB := tb_mem (i := 906) (by decide +kernel) (by decide +kernel)
theorem tw_907 : Cond.selects RX11 yX11_loners yX11_loners ∈ TB := tb_mem (i := 907) (by decide +kernel) (by decide +kernel)
theorem tw_908 : Cond.code yX11_loners cX11_loners 3 (some .int) ∈ TB := tb_mem (i := 908) (by decide +kernel) (by decide +kernel)
theorem tw_909 : Cond.methodLink "WristTreatyLaw" 117 yX11_fair ∈ TB := tb_mem (i := 909) (by decide +kernel) (by decide +kernel)
theorem tw_910 : Cond.instanceMethod yX11_fair ∈ TB := tb_mem (i := 910) (by decide +kernel) (by decide +kernel)
theorem tw_911 : Cond.selects RX11 yX11_fair yX11_fair ∈ TB := tb_mem (i := 911) (by decide +kernel) (by decide +kernel)
theorem tw_912 : Cond.code yX11_fair cX11_fair 1 (some .int) ∈ TB := tb_mem (i := 912) (by decide +kernel) (by decide +kernel)
theorem tw_913 : Cond.methodLink "WristTreatyLaw" 121 yX11_resin ∈ TB := tb_mem (i := 913) (by decide +kernel) (by decide +kernel)
theorem tw_914 : Cond.instanceMethod yX11_resin ∈ TB := tb_mem (i := 914) (by decide +kernel) (by decide +kernel)
theorem tw_915 : Cond.selects RX11 yX11_resin yX11_resin ∈ TB := tb_mem (i := 915) (by decide +kernel) (by decide +kernel)
theorem tw_916 : Cond.code yX11_resin cX11_resin 5 (some .int) ∈ TB := tb_mem (i := 916) (by decide +kernel) (by decide +kernel)
theorem tw_922 : Cond.methodLink "WristTreatyLaw" 126 yX11_spare ∈ TB := tb_mem (i := 922) (by decide +kernel) (by decide +kernel)
theorem tw_923 : Cond.instanceMethod yX11_spare ∈ TB := tb_mem (i := 923) (by decide +kernel) (by decide +kernel)
theorem tw_924 : Cond.selects RX11 yX11_spare yX11_spare ∈ TB := tb_mem (i := 924) (by decide +kernel) (by decide +kernel)
theorem tw_925 : Cond.code yX11_spare cX11_spare 6 (some .int) ∈ TB := tb_mem (i := 925) (by decide +kernel) (by decide +kernel)
theorem tw_926 : Cond.methodLink "WristTreatyLaw" 130 yX11_cut ∈ TB := tb_mem (i := 926) (by decide +kernel) (by decide +kernel)
theorem tw_927 : Cond.instanceMethod yX11_cut ∈ TB := tb_mem (i := 927) (by decide +kernel) (by decide +kernel)
theorem tw_928 : Cond.selects RX11 yX11_cut yX11_cut ∈ TB := tb_mem (i := 928) (by decide +kernel) (by decide +kernel)
theorem tw_929 : Cond.code yX11_cut cX11_cut 4 (some .int) ∈ TB := tb_mem (i := 929) (by decide +kernel) (by decide +kernel)
theorem tw_979 : Cond.methodLink "WristTreatyLaw" 134 yX11_waits ∈ TB := tb_mem (i := 979) (by decide +kernel) (by decide +kernel)
theorem tw_980 : Cond.instanceMethod yX11_waits ∈ TB := tb_mem (i := 980) (by decide +kernel) (by decide +kernel)
theorem tw_981 : Cond.selects RX11 yX11_waits yX11_waits ∈ TB := tb_mem (i := 981) (by decide +kernel) (by decide +kernel)
theorem tw_982 : Cond.code yX11_waits cX11_waits 4 (some .int) ∈ TB := tb_mem (i := 982) (by decide +kernel) (by decide +kernel)
theorem tw_987 : Cond.methodLink "WristTreatyLaw" 138 yX11_least ∈ TB := tb_mem (i := 987) (by decide +kernel) (by decide +kernel)
theorem tw_988 : Cond.instanceMethod yX11_least ∈ TB := tb_mem (i := 988) (by decide +kernel) (by decide +kernel)
theorem tw_989 : Cond.selects RX11 yX11_least yX11_least ∈ TB := tb_mem (i := 989) (by decide +kernel) (by decide +kernel)
theorem tw_990 : Cond.code yX11_least cX11_least 2 (some .int) ∈ TB := tb_mem (i := 990) (by decide +kernel) (by decide +kernel)
theorem tw_1013 : Cond.methodLink "WristTreatyLaw" 142 yX11_order ∈ TB := tb_mem (i := 1013) (by decide +kernel) (by decide +kernel)
theorem tw_1014 : Cond.instanceMethod yX11_order ∈ TB := tb_mem (i := 1014) (by decide +kernel) (by decide +kernel)
theorem tw_1015 : Cond.selects RX11 yX11_order yX11_order ∈ TB := tb_mem (i := 1015) (by decide +kernel) (by decide +kernel)
theorem tw_1016 : Cond.code yX11_order cX11_order 3 (some .int) ∈ TB := tb_mem (i := 1016) (by decide +kernel) (by decide +kernel)
theorem tw_1027 : Cond.methodLink "WristTreatyLaw" 146 yX11_needs ∈ TB := tb_mem (i := 1027) (by decide +kernel) (by decide +kernel)
theorem tw_1028 : Cond.instanceMethod yX11_needs ∈ TB := tb_mem (i := 1028) (by decide +kernel) (by decide +kernel)
theorem tw_1029 : Cond.selects RX11 yX11_needs yX11_needs ∈ TB := tb_mem (i := 1029) (by decide +kernel) (by decide +kernel)
theorem tw_1030 : Cond.code yX11_needs cX11_needs 2 (some .int) ∈ TB := tb_mem (i := 1030) (by decide +kernel) (by decide +kernel)
theorem tw_1035 : Cond.methodLink "WristTreatyLaw" 150 yX11_ends ∈ TB := tb_mem (i := 1035) (by decide +kernel) (by decide +kernel)
theorem tw_1036 : Cond.instanceMethod yX11_ends ∈ TB := tb_mem (i := 1036) (by decide +kernel) (by decide +kernel)
theorem tw_1037 : Cond.selects RX11 yX11_ends yX11_ends ∈ TB := tb_mem (i := 1037) (by decide +kernel) (by decide +kernel)
theorem tw_1038 : Cond.code yX11_ends cX11_ends 3 (some .int) ∈ TB := tb_mem (i := 1038) (by decide +kernel) (by decide +kernel)
theorem tw_1039 : Cond.methodLink "WristTreatyLaw" 154 yX11_full ∈ TB := tb_mem (i := 1039) (by decide +kernel) (by decide +kernel)
theorem tw_1040 : Cond.instanceMethod yX11_full ∈ TB := tb_mem (i := 1040) (by decide +kernel) (by decide +kernel)
theorem tw_1041 : Cond.selects RX11 yX11_full yX11_full ∈ TB := tb_mem (i := 1041) (by decide +kernel) (by decide +kernel)
theorem tw_1042 : Cond.code yX11_full cX11_full 2 (some .int) ∈ TB := tb_mem (i := 1042) (by decide +kernel) (by decide +kernel)
theorem tw_1062 : Cond.methodLink "WristTreatyLaw" 158 yX11_fulls ∈ TB := tb_mem (i := 1062) (by decide +kernel) (by decide +kernel)
theorem tw_1063 : Cond.instanceMethod yX11_fulls ∈ TB := tb_mem (i := 1063) (by decide +kernel) (by decide +kernel)
theorem tw_1064 : Cond.selects RX11 yX11_fulls yX11_fulls ∈ TB := tb_mem (i := 1064) (by decide +kernel) (by decide +kernel)
theorem tw_1065 : Cond.code yX11_fulls cX11_fulls 2 (some .int) ∈ TB := tb_mem (i := 1065) (by decide +kernel) (by decide +kernel)
theorem tw_1066 : Cond.methodLink "WristTreatyLaw" 162 yX11_once ∈ TB := tb_mem (i := 1066) (by decide +kernel) (by decide +kernel)
theorem tw_1067 : Cond.instanceMethod yX11_once ∈ TB := tb_mem (i := 1067) (by decide +kernel) (by decide +kernel)
theorem tw_1068 : Cond.selects RX11 yX11_once yX11_once ∈ TB := tb_mem (i := 1068) (by decide +kernel) (by decide +kernel)
theorem tw_1069 : Cond.code yX11_once cX11_once 2 (some .int) ∈ TB := tb_mem (i := 1069) (by decide +kernel) (by decide +kernel)
theorem tw_1084 : Cond.methodLink "WristTreatyLaw" 166 yX11_onces ∈ TB := tb_mem (i := 1084) (by decide +kernel) (by decide +kernel)
theorem tw_1085 : Cond.instanceMethod yX11_onces ∈ TB := tb_mem (i := 1085) (by decide +kernel) (by decide +kernel)
theorem tw_1086 : Cond.selects RX11 yX11_onces yX11_onces ∈ TB := tb_mem (i := 1086) (by decide +kernel) (by decide +kernel)
theorem tw_1087 : Cond.code yX11_onces cX11_onces 2 (some .int) ∈ TB := tb_mem (i := 1087) (by decide +kernel) (by decide +kernel)
theorem tw_1088 : Cond.methodLink "WristTreatyLaw" 170 yX11_worth ∈ TB := tb_mem (i := 1088) (by decide +kernel) (by decide +kernel)
theorem tw_1089 : Cond.instanceMethod yX11_worth ∈ TB := tb_mem (i := 1089) (by decide +kernel) (by decide +kernel)
theorem tw_1090 : Cond.selects RX11 yX11_worth yX11_worth ∈ TB := tb_mem (i := 1090) (by decide +kernel) (by decide +kernel)
theorem tw_1091 : Cond.code yX11_worth cX11_worth 3 (some .int) ∈ TB := tb_mem (i := 1091) (by decide +kernel) (by decide +kernel)
theorem tw_1094 : Cond.methodLink "WristTreatyLaw" 174 yX11_signs ∈ TB := tb_mem (i := 1094) (by decide +kernel) (by decide +kernel)
theorem tw_1095 : Cond.instanceMethod yX11_signs ∈ TB := tb_mem (i := 1095) (by decide +kernel) (by decide +kernel)
theorem tw_1096 : Cond.selects RX11 yX11_signs yX11_signs ∈ TB := tb_mem (i := 1096) (by decide +kernel) (by decide +kernel)
theorem tw_1097 : Cond.code yX11_signs cX11_signs 1 (some .int) ∈ TB := tb_mem (i := 1097) (by decide +kernel) (by decide +kernel)
theorem tw_1106 : Cond.methodLink "WristTreatyLaw" 178 yX11_deal ∈ TB := tb_mem (i := 1106) (by decide +kernel) (by decide +kernel)
theorem tw_1107 : Cond.instanceMethod yX11_deal ∈ TB := tb_mem (i := 1107) (by decide +kernel) (by decide +kernel)
theorem tw_1108 : Cond.selects RX11 yX11_deal yX11_deal ∈ TB := tb_mem (i := 1108) (by decide +kernel) (by decide +kernel)
theorem tw_1109 : Cond.code yX11_deal cX11_deal 1 (some .int) ∈ TB := tb_mem (i := 1109) (by decide +kernel) (by decide +kernel)
theorem tw_1114 : Cond.methodLink "WristTreatyLaw" 182 yX11_even ∈ TB := tb_mem (i := 1114) (by decide +kernel) (by decide +kernel)
theorem tw_1115 : Cond.instanceMethod yX11_even ∈ TB := tb_mem (i := 1115) (by decide +kernel) (by decide +kernel)
theorem tw_1116 : Cond.selects RX11 yX11_even yX11_even ∈ TB := tb_mem (i := 1116) (by decide +kernel) (by decide +kernel)
theorem tw_1117 : Cond.code yX11_even cX11_even 1 (some .int) ∈ TB := tb_mem (i := 1117) (by decide +kernel) (by decide +kernel)
theorem tw_1123 : Cond.methodLink "WristTreatyLaw" 186 yX11_veto ∈ TB := tb_mem (i := 1123) (by decide +kernel) (by decide +kernel)
theorem tw_1124 : Cond.instanceMethod yX11_veto ∈ TB := tb_mem (i := 1124) (by decide +kernel) (by decide +kernel)
theorem tw_1125 : Cond.selects RX11 yX11_veto yX11_veto ∈ TB := tb_mem (i := 1125) (by decide +kernel) (by decide +kernel)
theorem tw_1126 : Cond.code yX11_veto cX11_veto 4 (some .int) ∈ TB := tb_mem (i := 1126) (by decide +kernel) (by decide +kernel)
theorem tw_1127 : Cond.methodLink "WristTreatyLaw" 190 yX11_must ∈ TB := tb_mem (i := 1127) (by decide +kernel) (by decide +kernel)
theorem tw_1128 : Cond.instanceMethod yX11_must ∈ TB := tb_mem (i := 1128) (by decide +kernel) (by decide +kernel)
theorem tw_1129 : Cond.selects RX11 yX11_must yX11_must ∈ TB := tb_mem (i := 1129) (by decide +kernel) (by decide +kernel)
theorem tw_1130 : Cond.code yX11_must cX11_must 2 (some .int) ∈ TB := tb_mem (i := 1130) (by decide +kernel) (by decide +kernel)
theorem tw_1135 : Cond.methodLink "WristTreatyLaw" 194 yX11_musts ∈ TB := tb_mem (i := 1135) (by decide +kernel) (by decide +kernel)
theorem tw_1136 : Cond.instanceMethod yX11_musts ∈ TB := tb_mem (i := 1136) (by decide +kernel) (by decide +kernel)
theorem tw_1137 : Cond.selects RX11 yX11_musts yX11_musts ∈ TB := tb_mem (i := 1137) (by decide +kernel) (by decide +kernel)
theorem tw_1138 : Cond.code yX11_musts cX11_musts 2 (some .int) ∈ TB := tb_mem (i := 1138) (by decide +kernel) (by decide +kernel)
theorem tw_1139 : Cond.methodLink "WristTreatyLaw" 198 yX11_bundles ∈ TB := tb_mem (i := 1139) (by decide +kernel) (by decide +kernel)
theorem tw_1140 : Cond.instanceMethod yX11_bundles ∈ TB := tb_mem (i := 1140) (by decide +kernel) (by decide +kernel)
theorem tw_1141 : Cond.selects RX11 yX11_bundles yX11_bundles ∈ TB := tb_mem (i := 1141) (by decide +kernel) (by decide +kernel)
theorem tw_1142 : Cond.code yX11_bundles cX11_bundles 1 (some .int) ∈ TB := tb_mem (i := 1142) (by decide +kernel) (by decide +kernel)
theorem tw_1147 : Cond.methodLink "WristTreatyLaw" 202 yX11_bundle ∈ TB := tb_mem (i := 1147) (by decide +kernel) (by decide +kernel)
theorem tw_1148 : Cond.instanceMethod yX11_bundle ∈ TB := tb_mem (i := 1148) (by decide +kernel) (by decide +kernel)
theorem tw_1149 : Cond.selects RX11 yX11_bundle yX11_bundle ∈ TB := tb_mem (i := 1149) (by decide +kernel) (by decide +kernel)
theorem tw_1150 : Cond.code yX11_bundle cX11_bundle 1 (some .int) ∈ TB := tb_mem (i := 1150) (by decide +kernel) (by decide +kernel)
theorem tw_1151 : Cond.methodLink "WristTreatyLaw" 206 yX11_firm ∈ TB := tb_mem (i := 1151) (by decide +kernel) (by decide +kernel)
theorem tw_1152 : Cond.instanceMethod yX11_firm ∈ TB := tb_mem (i := 1152) (by decide +kernel) (by decide +kernel)
theorem tw_1153 : Cond.selects RX11 yX11_firm yX11_firm ∈ TB := tb_mem (i := 1153) (by decide +kernel) (by decide +kernel)
theorem tw_1154 : Cond.code yX11_firm cX11_firm 1 (some .int) ∈ TB := tb_mem (i := 1154) (by decide +kernel) (by decide +kernel)
theorem tw_1163 : Cond.methodLink "WristTreatyLaw" 210 yX11_rests ∈ TB := tb_mem (i := 1163) (by decide +kernel) (by decide +kernel)
theorem tw_1164 : Cond.instanceMethod yX11_rests ∈ TB := tb_mem (i := 1164) (by decide +kernel) (by decide +kernel)
theorem tw_1165 : Cond.selects RX11 yX11_rests yX11_rests ∈ TB := tb_mem (i := 1165) (by decide +kernel) (by decide +kernel)
theorem tw_1166 : Cond.code yX11_rests cX11_rests 4 (some .int) ∈ TB := tb_mem (i := 1166) (by decide +kernel) (by decide +kernel)
theorem tw_1171 : Cond.methodLink "WristTreatyLaw" 214 yX11_stands ∈ TB := tb_mem (i := 1171) (by decide +kernel) (by decide +kernel)
theorem tw_1172 : Cond.instanceMethod yX11_stands ∈ TB := tb_mem (i := 1172) (by decide +kernel) (by decide +kernel)
theorem tw_1173 : Cond.selects RX11 yX11_stands yX11_stands ∈ TB := tb_mem (i := 1173) (by decide +kernel) (by decide +kernel)
theorem tw_1174 : Cond.code yX11_stands cX11_stands 3 (some .int) ∈ TB := tb_mem (i := 1174) (by decide +kernel) (by decide +kernel)
theorem tw_1175 : Cond.methodLink "WristTreatyLaw" 218 yX11_fits ∈ TB := tb_mem (i := 1175) (by decide +kernel) (by decide +kernel)
theorem tw_1176 : Cond.instanceMethod yX11_fits ∈ TB := tb_mem (i := 1176) (by decide +kernel) (by decide +kernel)
theorem tw_1177 : Cond.selects RX11 yX11_fits yX11_fits ∈ TB := tb_mem (i := 1177) (by decide +kernel) (by decide +kernel)
theorem tw_1178 : Cond.code yX11_fits cX11_fits 3 (some .int) ∈ TB := tb_mem (i := 1178) (by decide +kernel) (by decide +kernel)
theorem tw_1211 : Cond.methodLink "WristTreatyLaw" 222 yX11_tired ∈ TB := tb_mem (i := 1211) (by decide +kernel) (by decide +kernel)
theorem tw_1212 : Cond.instanceMethod yX11_tired ∈ TB := tb_mem (i := 1212) (by decide +kernel) (by decide +kernel)
theorem tw_1213 : Cond.selects RX11 yX11_tired yX11_tired ∈ TB := tb_mem (i := 1213) (by decide +kernel) (by decide +kernel)
theorem tw_1214 : Cond.code yX11_tired cX11_tired 5 (some .int) ∈ TB := tb_mem (i := 1214) (by decide +kernel) (by decide +kernel)
theorem tw_1220 : Cond.methodLink "WristTreatyLaw" 226 yX11_by ∈ TB := tb_mem (i := 1220) (by decide +kernel) (by decide +kernel)
theorem tw_1221 : Cond.instanceMethod yX11_by ∈ TB := tb_mem (i := 1221) (by decide +kernel) (by decide +kernel)
theorem tw_1222 : Cond.selects RX11 yX11_by yX11_by ∈ TB := tb_mem (i := 1222) (by decide +kernel) (by decide +kernel)
theorem tw_1223 : Cond.code yX11_by cX11_by 4 (some .int) ∈ TB := tb_mem (i := 1223) (by decide +kernel) (by decide +kernel)
theorem tw_1224 : Cond.methodLink "WristTreatyLaw" 230 yX11_ask ∈ TB := tb_mem (i := 1224) (by decide +kernel) (by decide +kernel)
theorem tw_1225 : Cond.instanceMethod yX11_ask ∈ TB := tb_mem (i := 1225) (by decide +kernel) (by decide +kernel)
theorem tw_1226 : Cond.selects RX11 yX11_ask yX11_ask ∈ TB := tb_mem (i := 1226) (by decide +kernel) (by decide +kernel)
theorem tw_1227 : Cond.code yX11_ask cX11_ask 3 (some .int) ∈ TB := tb_mem (i := 1227) (by decide +kernel) (by decide +kernel)
theorem tw_1238 : Cond.methodLink "WristTreatyLaw" 234 yX11_chance ∈ TB := tb_mem (i := 1238) (by decide +kernel) (by decide +kernel)
theorem tw_1239 : Cond.instanceMethod yX11_chance ∈ TB := tb_mem (i := 1239) (by decide +kernel) (by decide +kernel)
theorem tw_1240 : Cond.selects RX11 yX11_chance yX11_chance ∈ TB := tb_mem (i := 1240) (by decide +kernel) (by decide +kernel)
theorem tw_1241 : Cond.code yX11_chance cX11_chance 8 (some .long) ∈ TB := tb_mem (i := 1241) (by decide +kernel) (by decide +kernel)
theorem tw_1253 : Cond.methodLink "WristTreatyLaw" 239 yX11_sure ∈ TB := tb_mem (i := 1253) (by decide +kernel) (by decide +kernel)
theorem tw_1254 : Cond.instanceMethod yX11_sure ∈ TB := tb_mem (i := 1254) (by decide +kernel) (by decide +kernel)
theorem tw_1255 : Cond.selects RX11 yX11_sure yX11_sure ∈ TB := tb_mem (i := 1255) (by decide +kernel) (by decide +kernel)
theorem tw_1256 : Cond.code yX11_sure cX11_sure 7 (some .int) ∈ TB := tb_mem (i := 1256) (by decide +kernel) (by decide +kernel)
theorem tw_1262 : Cond.methodLink "WristTreatyLaw" 243 yX11_mean ∈ TB := tb_mem (i := 1262) (by decide +kernel) (by decide +kernel)
theorem tw_1263 : Cond.instanceMethod yX11_mean ∈ TB := tb_mem (i := 1263) (by decide +kernel) (by decide +kernel)
theorem tw_1264 : Cond.selects RX11 yX11_mean yX11_mean ∈ TB := tb_mem (i := 1264) (by decide +kernel) (by decide +kernel)
theorem tw_1265 : Cond.code yX11_mean cX11_mean 9 (some .long) ∈ TB := tb_mem (i := 1265) (by decide +kernel) (by decide +kernel)
theorem tw_1266 : Cond.methodLink "WristTreatyLaw" 248 yX11_push ∈ TB := tb_mem (i := 1266) (by decide +kernel) (by decide +kernel)
theorem tw_1267 : Cond.instanceMethod yX11_push ∈ TB := tb_mem (i := 1267) (by decide +kernel) (by decide +kernel)
theorem tw_1268 : Cond.selects RX11 yX11_push yX11_push ∈ TB := tb_mem (i := 1268) (by decide +kernel) (by decide +kernel)
theorem tw_1269 : Cond.code yX11_push cX11_push 3 (some .int) ∈ TB := tb_mem (i := 1269) (by decide +kernel) (by decide +kernel)
theorem tw_1291 : Cond.methodLink "WristTreatyLaw" 252 yX11_swing ∈ TB := tb_mem (i := 1291) (by decide +kernel) (by decide +kernel)
theorem tw_1292 : Cond.instanceMethod yX11_swing ∈ TB := tb_mem (i := 1292) (by decide +kernel) (by decide +kernel)
theorem tw_1293 : Cond.selects RX11 yX11_swing yX11_swing ∈ TB := tb_mem (i := 1293) (by decide +kernel) (by decide +kernel)
theorem tw_1294 : Cond.code yX11_swing cX11_swing 5 (some .int) ∈ TB := tb_mem (i := 1294) (by decide +kernel) (by decide +kernel)
theorem tw_1299 : Cond.methodLink "WristTreatyLaw" 256 yX11_sign ∈ TB := tb_mem (i := 1299) (by decide +kernel) (by decide +kernel)
theorem tw_1300 : Cond.instanceMethod yX11_sign ∈ TB := tb_mem (i := 1300) (by decide +kernel) (by decide +kernel)
theorem tw_1301 : Cond.selects RX11 yX11_sign yX11_sign ∈ TB := tb_mem (i := 1301) (by decide +kernel) (by decide +kernel)
theorem tw_1302 : Cond.code yX11_sign cX11_sign 2 (some .int) ∈ TB := tb_mem (i := 1302) (by decide +kernel) (by decide +kernel)
theorem tw_1311 : Cond.methodLink "WristTreatyLaw" 260 yX11_drop ∈ TB := tb_mem (i := 1311) (by decide +kernel) (by decide +kernel)
theorem tw_1312 : Cond.instanceMethod yX11_drop ∈ TB := tb_mem (i := 1312) (by decide +kernel) (by decide +kernel)
theorem tw_1313 : Cond.selects RX11 yX11_drop yX11_drop ∈ TB := tb_mem (i := 1313) (by decide +kernel) (by decide +kernel)
theorem tw_1314 : Cond.code yX11_drop cX11_drop 1 (some .int) ∈ TB := tb_mem (i := 1314) (by decide +kernel) (by decide +kernel)
theorem tw_1319 : Cond.methodLink "WristTreatyLaw" 264 yX11_now ∈ TB := tb_mem (i := 1319) (by decide +kernel) (by decide +kernel)
theorem tw_1320 : Cond.instanceMethod yX11_now ∈ TB := tb_mem (i := 1320) (by decide +kernel) (by decide +kernel)
theorem tw_1321 : Cond.selects RX11 yX11_now yX11_now ∈ TB := tb_mem (i := 1321) (by decide +kernel) (by decide +kernel)
theorem tw_1322 : Cond.code yX11_now cX11_now 2 (some .int) ∈ TB := tb_mem (i := 1322) (by decide +kernel) (by decide +kernel)
theorem tw_1323 : Cond.methodLink "WristTreatyLaw" 268 yX11_undo ∈ TB := tb_mem (i := 1323) (by decide +kernel) (by decide +kernel)
theorem tw_1324 : Cond.instanceMethod yX11_undo ∈ TB := tb_mem (i := 1324) (by decide +kernel) (by decide +kernel)
theorem tw_1325 : Cond.selects RX11 yX11_undo yX11_undo ∈ TB := tb_mem (i := 1325) (by decide +kernel) (by decide +kernel)
theorem tw_1326 : Cond.code yX11_undo cX11_undo 1 (some .int) ∈ TB := tb_mem (i := 1326) (by decide +kernel) (by decide +kernel)
theorem tw_1332 : Cond.methodLink "WristTreatyLaw" 272 yX11_anew ∈ TB := tb_mem (i := 1332) (by decide +kernel) (by decide +kernel)
theorem tw_1333 : Cond.instanceMethod yX11_anew ∈ TB := tb_mem (i := 1333) (by decide +kernel) (by decide +kernel)
theorem tw_1334 : Cond.selects RX11 yX11_anew yX11_anew ∈ TB := tb_mem (i := 1334) (by decide +kernel) (by decide +kernel)
theorem tw_1335 : Cond.code yX11_anew cX11_anew 2 (some .int) ∈ TB := tb_mem (i := 1335) (by decide +kernel) (by decide +kernel)
theorem tw_1336 : Cond.methodLink "WristTreatyLaw" 276 yX11_drawn ∈ TB := tb_mem (i := 1336) (by decide +kernel) (by decide +kernel)
theorem tw_1337 : Cond.instanceMethod yX11_drawn ∈ TB := tb_mem (i := 1337) (by decide +kernel) (by decide +kernel)
theorem tw_1338 : Cond.selects RX11 yX11_drawn yX11_drawn ∈ TB := tb_mem (i := 1338) (by decide +kernel) (by decide +kernel)
theorem tw_1339 : Cond.code yX11_drawn cX11_drawn 5 (some .int) ∈ TB := tb_mem (i := 1339) (by decide +kernel) (by decide +kernel)
theorem tw_1347 : Cond.methodLink "WristTreatyLaw" 280 yX11_luck ∈ TB := tb_mem (i := 1347) (by decide +kernel) (by decide +kernel)
theorem tw_1348 : Cond.instanceMethod yX11_luck ∈ TB := tb_mem (i := 1348) (by decide +kernel) (by decide +kernel)
theorem tw_1349 : Cond.selects RX11 yX11_luck yX11_luck ∈ TB := tb_mem (i := 1349) (by decide +kernel) (by decide +kernel)
theorem tw_1350 : Cond.code yX11_luck cX11_luck 9 (some .int) ∈ TB := tb_mem (i := 1350) (by decide +kernel) (by decide +kernel)
theorem tw_1351 : Cond.methodLink "WristTreatyLaw" 284 yX11_grip ∈ TB := tb_mem (i := 1351) (by decide +kernel) (by decide +kernel)
theorem tw_1352 : Cond.instanceMethod yX11_grip ∈ TB := tb_mem (i := 1352) (by decide +kernel) (by decide +kernel)
theorem tw_1353 : Cond.selects RX11 yX11_grip yX11_grip ∈ TB := tb_mem (i := 1353) (by decide +kernel) (by decide +kernel)
theorem tw_1354 : Cond.code yX11_grip cX11_grip 4 (some .int) ∈ TB := tb_mem (i := 1354) (by decide +kernel) (by decide +kernel)
theorem tw_1359 : Cond.methodLink "WristTreatyLaw" 288 yX11_count ∈ TB := tb_mem (i := 1359) (by decide +kernel) (by decide +kernel)
theorem tw_1360 : Cond.instanceMethod yX11_count ∈ TB := tb_mem (i := 1360) (by decide +kernel) (by decide +kernel)
theorem tw_1361 : Cond.selects RX11 yX11_count yX11_count ∈ TB := tb_mem (i := 1361) (by decide +kernel) (by decide +kernel)
theorem tw_1362 : Cond.code yX11_count cX11_count 2 (some .int) ∈ TB := tb_mem (i := 1362) (by decide +kernel) (by decide +kernel)
theorem tw_1368 : Cond.methodLink "WristTreatyLaw" 292 yX11_image ∈ TB := tb_mem (i := 1368) (by decide +kernel) (by decide +kernel)
theorem tw_1369 : Cond.instanceMethod yX11_image ∈ TB := tb_mem (i := 1369) (by decide +kernel) (by decide +kernel)
theorem tw_1370 : Cond.selects RX11 yX11_image yX11_image ∈ TB := tb_mem (i := 1370) (by decide +kernel) (by decide +kernel)
theorem tw_1371 : Cond.code yX11_image cX11_image 2 (some .int) ∈ TB := tb_mem (i := 1371) (by decide +kernel) (by decide +kernel)
theorem tw_1377 : Cond.methodLink "WristTreatyLaw" 296 yX11_back ∈ TB := tb_mem (i := 1377) (by decide +kernel) (by decide +kernel)
theorem tw_1378 : Cond.instanceMethod yX11_back ∈ TB := tb_mem (i := 1378) (by decide +kernel) (by decide +kernel)
theorem tw_1379 : Cond.selects RX11 yX11_back yX11_back ∈ TB := tb_mem (i := 1379) (by decide +kernel) (by decide +kernel)
theorem tw_1380 : Cond.code yX11_back cX11_back 2 (some .int) ∈ TB := tb_mem (i := 1380) (by decide +kernel) (by decide +kernel)
theorem tw_1381 : Cond.methodLink "WristTreatyLaw" 300 yX11_row ∈ TB := tb_mem (i := 1381) (by decide +kernel) (by decide +kernel)
theorem tw_1382 : Cond.instanceMethod yX11_row ∈ TB := tb_mem (i := 1382) (by decide +kernel) (by decide +kernel)
theorem tw_1383 : Cond.selects RX11 yX11_row yX11_row ∈ TB := tb_mem (i := 1383) (by decide +kernel) (by decide +kernel)
theorem tw_1384 : Cond.code yX11_row cX11_row 4 (some .int) ∈ TB := tb_mem (i := 1384) (by decide +kernel) (by decide +kernel)
theorem tw_1389 : Cond.methodLink "WristTreatyLaw" 306 yX11_write ∈ TB := tb_mem (i := 1389) (by decide +kernel) (by decide +kernel)
theorem tw_1390 : Cond.instanceMethod yX11_write ∈ TB := tb_mem (i := 1390) (by decide +kernel) (by decide +kernel)
theorem tw_1391 : Cond.selects RX11 yX11_write yX11_write ∈ TB := tb_mem (i := 1391) (by decide +kernel) (by decide +kernel)
theorem tw_1392 : Cond.code yX11_write cX11_write 5 (some .int) ∈ TB := tb_mem (i := 1392) (by decide +kernel) (by decide +kernel)
theorem tw_1401 : Cond.methodLink "WristTreatyLaw" 311 yX11_paste ∈ TB := tb_mem (i := 1401) (by decide +kernel) (by decide +kernel)
theorem tw_1402 : Cond.instanceMethod yX11_paste ∈ TB := tb_mem (i := 1402) (by decide +kernel) (by decide +kernel)
theorem tw_1403 : Cond.selects RX11 yX11_paste yX11_paste ∈ TB := tb_mem (i := 1403) (by decide +kernel) (by decide +kernel)
theorem tw_1404 : Cond.code yX11_paste cX11_paste 6 (some .int) ∈ TB := tb_mem (i := 1404) (by decide +kernel) (by decide +kernel)
theorem tw_1414 : Cond.classLink "WristTreatyLaw" 10 RX12 ∈ TB := tb_mem (i := 1414) (by decide +kernel) (by decide +kernel)
theorem tw_1415 : Cond.instantiable RX12 35 ∈ TB := tb_mem (i := 1415) (by decide +kernel) (by decide +kernel)
theorem tw_1416 : Cond.methodLink "WristTreatyLaw" 12 yX12_init ∈ TB := tb_mem (i := 1416) (by decide +kernel) (by decide +kernel)
theorem tw_1417 : Cond.instanceMethod yX12_init ∈ TB := tb_mem (i := 1417) (by decide +kernel) (by decide +kernel)
theorem tw_1418 : Cond.code yX12_init cX12_init 1 none ∈ TB := tb_mem (i := 1418) (by decide +kernel) (by decide +kernel)
theorem tw_1525 : Cond.methodLink "WristTreatyLaw" 295 yX12_image ∈ TB := tb_mem (i := 1525) (by decide +kernel) (by decide +kernel)
theorem tw_1526 : Cond.instanceMethod yX12_image ∈ TB := tb_mem (i := 1526) (by decide +kernel) (by decide +kernel)
theorem tw_1527 : Cond.selects RX12 yX12_image yX12_image ∈ TB := tb_mem (i := 1527) (by decide +kernel) (by decide +kernel)
theorem tw_1528 : Cond.code yX12_image cX12_image 3 (some .int) ∈ TB := tb_mem (i := 1528) (by decide +kernel) (by decide +kernel)
theorem tw_1533 : Cond.methodLink "WristTreatyLaw" 299 yX12_back ∈ TB := tb_mem (i := 1533) (by decide +kernel) (by decide +kernel)
theorem tw_1534 : Cond.instanceMethod yX12_back ∈ TB := tb_mem (i := 1534) (by decide +kernel) (by decide +kernel)
theorem tw_1535 : Cond.selects RX12 yX12_back yX12_back ∈ TB := tb_mem (i := 1535) (by decide +kernel) (by decide +kernel)
theorem tw_1536 : Cond.code yX12_back cX12_back 3 (some .int) ∈ TB := tb_mem (i := 1536) (by decide +kernel) (by decide +kernel)
theorem tw_1537 : Cond.methodLink "WristTreatyLaw" 17 yX12_feed ∈ TB := tb_mem (i := 1537) (by decide +kernel) (by decide +kernel)
theorem tw_1538 : Cond.instanceMethod yX12_feed ∈ TB := tb_mem (i := 1538) (by decide +kernel) (by decide +kernel)
theorem tw_1539 : Cond.selects RX12 yX12_feed yX12_feed ∈ TB := tb_mem (i := 1539) (by decide +kernel) (by decide +kernel)
theorem tw_1540 : Cond.code yX12_feed cX12_feed 7 (some .int) ∈ TB := tb_mem (i := 1540) (by decide +kernel) (by decide +kernel)
theorem tw_1541 : Cond.methodLink "WristTreatyLaw" 22 yX12_end ∈ TB := tb_mem (i := 1541) (by decide +kernel) (by decide +kernel)
theorem tw_1542 : Cond.instanceMethod yX12_end ∈ TB := tb_mem (i := 1542) (by decide +kernel) (by decide +kernel)
theorem tw_1543 : Cond.selects RX12 yX12_end yX12_end ∈ TB := tb_mem (i := 1543) (by decide +kernel) (by decide +kernel)
theorem tw_1544 : Cond.code yX12_end cX12_end 2 (some .int) ∈ TB := tb_mem (i := 1544) (by decide +kernel) (by decide +kernel)
theorem tw_1545 : Cond.methodLink "WristTreatyLaw" 31 yX12_fault ∈ TB := tb_mem (i := 1545) (by decide +kernel) (by decide +kernel)
theorem tw_1546 : Cond.instanceMethod yX12_fault ∈ TB := tb_mem (i := 1546) (by decide +kernel) (by decide +kernel)
theorem tw_1547 : Cond.selects RX12 yX12_fault yX12_fault ∈ TB := tb_mem (i := 1547) (by decide +kernel) (by decide +kernel)
theorem tw_1548 : Cond.code yX12_fault cX12_fault 2 (some .int) ∈ TB := tb_mem (i := 1548) (by decide +kernel) (by decide +kernel)
theorem tw_1549 : Cond.methodLink "WristTreatyLaw" 27 yX12_gorge ∈ TB := tb_mem (i := 1549) (by decide +kernel) (by decide +kernel)
theorem tw_1550 : Cond.instanceMethod yX12_gorge ∈ TB := tb_mem (i := 1550) (by decide +kernel) (by decide +kernel)
theorem tw_1551 : Cond.selects RX12 yX12_gorge yX12_gorge ∈ TB := tb_mem (i := 1551) (by decide +kernel) (by decide +kernel)
theorem tw_1552 : Cond.code yX12_gorge cX12_gorge 2 (some .int) ∈ TB := tb_mem (i := 1552) (by decide +kernel) (by decide +kernel)
theorem tw_1632 : Cond.methodLink "WristTreatyLaw" 36 yX12_man ∈ TB := tb_mem (i := 1632) (by decide +kernel) (by decide +kernel)
theorem tw_1633 : Cond.instanceMethod yX12_man ∈ TB := tb_mem (i := 1633) (by decide +kernel) (by decide +kernel)
theorem tw_1634 : Cond.selects RX12 yX12_man yX12_man ∈ TB := tb_mem (i := 1634) (by decide +kernel) (by decide +kernel)
theorem tw_1635 : Cond.code yX12_man cX12_man 3 (some .int) ∈ TB := tb_mem (i := 1635) (by decide +kernel) (by decide +kernel)
theorem tw_1644 : Cond.methodLink "WristTreatyLaw" 40 yX12_clause ∈ TB := tb_mem (i := 1644) (by decide +kernel) (by decide +kernel)
theorem tw_1645 : Cond.instanceMethod yX12_clause ∈ TB := tb_mem (i := 1645) (by decide +kernel) (by decide +kernel)
theorem tw_1646 : Cond.selects RX12 yX12_clause yX12_clause ∈ TB := tb_mem (i := 1646) (by decide +kernel) (by decide +kernel)
theorem tw_1647 : Cond.code yX12_clause cX12_clause 3 (some .int) ∈ TB := tb_mem (i := 1647) (by decide +kernel) (by decide +kernel)
theorem tw_1656 : Cond.methodLink "WristTreatyLaw" 44 yX12_start ∈ TB := tb_mem (i := 1656) (by decide +kernel) (by decide +kernel)
theorem tw_1657 : Cond.instanceMethod yX12_start ∈ TB := tb_mem (i := 1657) (by decide +kernel) (by decide +kernel)
theorem tw_1658 : Cond.selects RX12 yX12_start yX12_start ∈ TB := tb_mem (i := 1658) (by decide +kernel) (by decide +kernel)
theorem tw_1659 : Cond.code yX12_start cX12_start 2 (some .int) ∈ TB := tb_mem (i := 1659) (by decide +kernel) (by decide +kernel)
theorem tw_1712 : Cond.methodLink "WristTreatyLaw" 48 yX12_out ∈ TB := tb_mem (i := 1712) (by decide +kernel) (by decide +kernel)
theorem tw_1713 : Cond.instanceMethod yX12_out ∈ TB := tb_mem (i := 1713) (by decide +kernel) (by decide +kernel)
theorem tw_1714 : Cond.selects RX12 yX12_out yX12_out ∈ TB := tb_mem (i := 1714) (by decide +kernel) (by decide +kernel)
theorem tw_1715 : Cond.code yX12_out cX12_out 3 (some .int) ∈ TB := tb_mem (i := 1715) (by decide +kernel) (by decide +kernel)
theorem tw_1717 : Cond.methodLink "WristTreatyLaw" 52 yX12_next ∈ TB := tb_mem (i := 1717) (by decide +kernel) (by decide +kernel)
theorem tw_1718 : Cond.instanceMethod yX12_next ∈ TB := tb_mem (i := 1718) (by decide +kernel) (by decide +kernel)
theorem tw_1719 : Cond.selects RX12 yX12_next yX12_next ∈ TB := tb_mem (i := 1719) (by decide +kernel) (by decide +kernel)
theorem tw_1720 : Cond.code yX12_next cX12_next 2 (some .int) ∈ TB := tb_mem (i := 1720) (by decide +kernel) (by decide +kernel)
theorem tw_1722 : Cond.methodLink "WristTreatyLaw" 56 yX12_meetings ∈ TB := tb_mem (i := 1722) (by decide +kernel) (by decide +kernel)
theorem tw_1723 : Cond.instanceMethod yX12_meetings ∈ TB := tb_mem (i := 1723) (by decide +kernel) (by decide +kernel)
theorem tw_1724 : Cond.selects RX12 yX12_meetings yX12_meetings ∈ TB := tb_mem (i := 1724) (by decide +kernel) (by decide +kernel)
theorem tw_1725 : Cond.code yX12_meetings cX12_meetings 2 (some .int) ∈ TB := tb_mem (i := 1725) (by decide +kernel) (by decide +kernel)
theorem tw_1731 : Cond.methodLink "WristTreatyLaw" 60 yX12_longest ∈ TB := tb_mem (i := 1731) (by decide +kernel) (by decide +kernel)
theorem tw_1732 : Cond.instanceMethod yX12_longest ∈ TB := tb_mem (i := 1732) (by decide +kernel) (by decide +kernel)
theorem tw_1733 : Cond.selects RX12 yX12_longest yX12_longest ∈ TB := tb_mem (i := 1733) (by decide +kernel) (by decide +kernel)
theorem tw_1734 : Cond.code yX12_longest cX12_longest 4 (some .int) ∈ TB := tb_mem (i := 1734) (by decide +kernel) (by decide +kernel)
theorem tw_1736 : Cond.methodLink "WristTreatyLaw" 64 yX12_able ∈ TB := tb_mem (i := 1736) (by decide +kernel) (by decide +kernel)
theorem tw_1737 : Cond.instanceMethod yX12_able ∈ TB := tb_mem (i := 1737) (by decide +kernel) (by decide +kernel)
theorem tw_1738 : Cond.selects RX12 yX12_able yX12_able ∈ TB := tb_mem (i := 1738) (by decide +kernel) (by decide +kernel)
theorem tw_1739 : Cond.code yX12_able cX12_able 4 (some .int) ∈ TB := tb_mem (i := 1739) (by decide +kernel) (by decide +kernel)
theorem tw_1740 : Cond.methodLink "WristTreatyLaw" 68 yX12_soonest ∈ TB := tb_mem (i := 1740) (by decide +kernel) (by decide +kernel)
theorem tw_1741 : Cond.instanceMethod yX12_soonest ∈ TB := tb_mem (i := 1741) (by decide +kernel) (by decide +kernel)
theorem tw_1742 : Cond.selects RX12 yX12_soonest yX12_soonest ∈ TB := tb_mem (i := 1742) (by decide +kernel) (by decide +kernel)
theorem tw_1743 : Cond.code yX12_soonest cX12_soonest 4 (some .int) ∈ TB := tb_mem (i := 1743) (by decide +kernel) (by decide +kernel)
theorem tw_1745 : Cond.methodLink "WristTreatyLaw" 72 yX12_often ∈ TB := tb_mem (i := 1745) (by decide +kernel) (by decide +kernel)
theorem tw_1746 : Cond.instanceMethod yX12_often ∈ TB := tb_mem (i := 1746) (by decide +kernel) (by decide +kernel)
theorem tw_1747 : Cond.selects RX12 yX12_often yX12_often ∈ TB := tb_mem (i := 1747) (by decide +kernel) (by decide +kernel)
theorem tw_1748 : Cond.code yX12_often cX12_often 5 (some .int) ∈ TB := tb_mem (i := 1748) (by decide +kernel) (by decide +kernel)
theorem tw_1750 : Cond.methodLink "WristTreatyLaw" 76 yX12_kept ∈ TB := tb_mem (i := 1750) (by decide +kernel) (by decide +kernel)
theorem tw_1751 : Cond.instanceMethod yX12_kept ∈ TB := tb_mem (i := 1751) (by decide +kernel) (by decide +kernel)
theorem tw_1752 : Cond.selects RX12 yX12_kept yX12_kept ∈ TB := tb_mem (i := 1752) (by decide +kernel) (by decide +kernel)
theorem tw_1753 : Cond.code yX12_kept cX12_kept 3 (some .int) ∈ TB := tb_mem (i := 1753) (by decide +kernel) (by decide +kernel)
theorem tw_1754 : Cond.methodLink "WristTreatyLaw" 80 yX12_meet ∈ TB := tb_mem (i := 1754) (by decide +kernel) (by decide +kernel)
theorem tw_1755 : Cond.instanceMethod yX12_meet ∈ TB := tb_mem (i := 1755) (by decide +kernel) (by decide +kernel)
theorem tw_1756 : Cond.selects RX12 yX12_meet yX12_meet ∈ TB := tb_mem (i := 1756) (by decide +kernel) (by decide +kernel)
theorem tw_1757 : Cond.code yX12_meet cX12_meet 2 (some .int) ∈ TB := tb_mem (i := 1757) (by decide +kernel) (by decide +kernel)
theorem tw_1763 : Cond.methodLink "WristTreatyLaw" 84 yX12_pushes ∈ TB := tb_mem (i := 1763) (by decide +kernel) (by decide +kernel)
theorem tw_1764 : Cond.instanceMethod yX12_pushes ∈ TB := tb_mem (i := 1764) (by decide +kernel) (by decide +kernel)
theorem tw_1765 : Cond.selects RX12 yX12_pushes yX12_pushes ∈ TB := tb_mem (i := 1765) (by decide +kernel) (by decide +kernel)
theorem tw_1766 : Cond.code yX12_pushes cX12_pushes 3 (some .int) ∈ TB := tb_mem (i := 1766) (by decide +kernel) (by decide +kernel)
theorem tw_1767 : Cond.methodLink "WristTreatyLaw" 88 yX12_hold ∈ TB := tb_mem (i := 1767) (by decide +kernel) (by decide +kernel)
theorem tw_1768 : Cond.instanceMethod yX12_hold ∈ TB := tb_mem (i := 1768) (by decide +kernel) (by decide +kernel)
theorem tw_1769 : Cond.selects RX12 yX12_hold yX12_hold ∈ TB := tb_mem (i := 1769) (by decide +kernel) (by decide +kernel)
theorem tw_1770 : Cond.code yX12_hold cX12_hold 3 (some .int) ∈ TB := tb_mem (i := 1770) (by decide +kernel) (by decide +kernel)
theorem tw_1779 : Cond.methodLink "WristTreatyLaw" 92 yX12_pair ∈ TB := tb_mem (i := 1779) (by decide +kernel) (by decide +kernel)
theorem tw_1780 : Cond.instanceMethod yX12_pair ∈ TB := tb_mem (i := 1780) (by decide +kernel) (by decide +kernel)
theorem tw_1781 : Cond.selects RX12 yX12_pair yX12_pair ∈ TB := tb_mem (i := 1781) (by decide +kernel) (by decide +kernel)
theorem tw_1782 : Cond.code yX12_pair cX12_pair 5 (some .int) ∈ TB := tb_mem (i := 1782) (by decide +kernel) (by decide +kernel)
theorem tw_1783 : Cond.methodLink "WristTreatyLaw" 96 yX12_partner ∈ TB := tb_mem (i := 1783) (by decide +kernel) (by decide +kernel)
theorem tw_1784 : Cond.instanceMethod yX12_partner ∈ TB := tb_mem (i := 1784) (by decide +kernel) (by decide +kernel)
theorem tw_1785 : Cond.selects RX12 yX12_partner yX12_partner ∈ TB := tb_mem (i := 1785) (by decide +kernel) (by decide +kernel)
theorem tw_1786 : Cond.code yX12_partner cX12_partner 4 (some .int) ∈ TB := tb_mem (i := 1786) (by decide +kernel) (by decide +kernel)
theorem tw_1787 : Cond.methodLink "WristTreatyLaw" 104 yX12_weak ∈ TB := tb_mem (i := 1787) (by decide +kernel) (by decide +kernel)
theorem tw_1788 : Cond.instanceMethod yX12_weak ∈ TB := tb_mem (i := 1788) (by decide +kernel) (by decide +kernel)
theorem tw_1789 : Cond.selects RX12 yX12_weak yX12_weak ∈ TB := tb_mem (i := 1789) (by decide +kernel) (by decide +kernel)
theorem tw_1790 : Cond.code yX12_weak cX12_weak 4 (some .int) ∈ TB := tb_mem (i := 1790) (by decide +kernel) (by decide +kernel)
theorem tw_1791 : Cond.methodLink "WristTreatyLaw" 100 yX12_strong ∈ TB := tb_mem (i := 1791) (by decide +kernel) (by decide +kernel)
theorem tw_1792 : Cond.instanceMethod yX12_strong ∈ TB := tb_mem (i := 1792) (by decide +kernel) (by decide +kernel)
theorem tw_1793 : Cond.selects RX12 yX12_strong yX12_strong ∈ TB := tb_mem (i := 1793) (by decide +kernel) (by decide +kernel)
theorem tw_1794 : Cond.code yX12_strong cX12_strong 4 (some .int) ∈ TB := tb_mem (i := 1794) (by decide +kernel) (by decide +kernel)
theorem tw_1795 : Cond.methodLink "WristTreatyLaw" 108 yX12_match ∈ TB := tb_mem (i := 1795) (by decide +kernel) (by decide +kernel)
theorem tw_1796 : Cond.instanceMethod yX12_match ∈ TB := tb_mem (i := 1796) (by decide +kernel) (by decide +kernel)
theorem tw_1797 : Cond.selects RX12 yX12_match yX12_match ∈ TB := tb_mem (i := 1797) (by decide +kernel) (by decide +kernel)
theorem tw_1798 : Cond.code yX12_match cX12_match 1 (some .int) ∈ TB := tb_mem (i := 1798) (by decide +kernel) (by decide +kernel)
theorem tw_1810 : Cond.methodLink "WristTreatyLaw" 112 yX12_matched ∈ TB := tb_mem (i := 1810) (by decide +kernel) (by decide +kernel)
theorem tw_1811 : Cond.instanceMethod yX12_matched ∈ TB := tb_mem (i := 1811) (by decide +kernel) (by decide +kernel)
theorem tw_1812 : Cond.selects RX12 yX12_matched yX12_matched ∈ TB := tb_mem (i := 1812) (by decide +kernel) (by decide +kernel)
theorem tw_1813 : Cond.code yX12_matched cX12_matched 2 (some .int) ∈ TB := tb_mem (i := 1813) (by decide +kernel) (by decide +kernel)
theorem tw_1818 : Cond.methodLink "WristTreatyLaw" 116 yX12_loners ∈ TB := tb_mem (i := 1818) (by decide +kernel) (by decide +kernel)
theorem tw_1819 : Cond.instanceMethod yX12_loners ∈ TB := tb_mem (i := 1819) (by decide +kernel) (by decide +kernel)
theorem tw_1820 : Cond.selects RX12 yX12_loners yX12_loners ∈ TB := tb_mem (i := 1820) (by decide +kernel) (by decide +kernel)
theorem tw_1821 : Cond.code yX12_loners cX12_loners 3 (some .int) ∈ TB := tb_mem (i := 1821) (by decide +kernel) (by decide +kernel)
theorem tw_1822 : Cond.methodLink "WristTreatyLaw" 120 yX12_fair ∈ TB := tb_mem (i := 1822) (by decide +kernel) (by decide +kernel)
theorem tw_1823 : Cond.instanceMethod yX12_fair ∈ TB := tb_mem (i := 1823) (by decide +kernel) (by decide +kernel)
theorem tw_1824 : Cond.selects RX12 yX12_fair yX12_fair ∈ TB := tb_mem (i := 1824) (by decide +kernel) (by decide +kernel)
theorem tw_1825 : Cond.code yX12_fair cX12_fair 3 (some .int) ∈ TB := tb_mem (i := 1825) (by decide +kernel) (by decide +kernel)
theorem tw_1826 : Cond.methodLink "WristTreatyLaw" 125 yX12_resin ∈ TB := tb_mem (i := 1826) (by decide +kernel) (by decide +kernel)
theorem tw_1827 : Cond.instanceMethod yX12_resin ∈ TB := tb_mem (i := 1827) (by decide +kernel) (by decide +kernel)
theorem tw_1828 : Cond.selects RX12 yX12_resin yX12_resin ∈ TB := tb_mem (i := 1828) (by decide +kernel) (by decide +kernel)
theorem tw_1829 : Cond.code yX12_resin cX12_resin 4 (some .int) ∈ TB := tb_mem (i := 1829) (by decide +kernel) (by decide +kernel)
theorem tw_1834 : Cond.methodLink "WristTreatyLaw" 129 yX12_spare ∈ TB := tb_mem (i := 1834) (by decide +kernel) (by decide +kernel)
theorem tw_1835 : Cond.instanceMethod yX12_spare ∈ TB := tb_mem (i := 1835) (by decide +kernel) (by decide +kernel)
theorem tw_1836 : Cond.selects RX12 yX12_spare yX12_spare ∈ TB := tb_mem (i := 1836) (by decide +kernel) (by decide +kernel)
theorem tw_1837 : Cond.code yX12_spare cX12_spare 4 (some .int) ∈ TB := tb_mem (i := 1837) (by decide +kernel) (by decide +kernel)
theorem tw_1838 : Cond.methodLink "WristTreatyLaw" 133 yX12_cut ∈ TB := tb_mem (i := 1838) (by decide +kernel) (by decide +kernel)
theorem tw_1839 : Cond.instanceMethod yX12_cut ∈ TB := tb_mem (i := 1839) (by decide +kernel) (by decide +kernel)
theorem tw_1840 : Cond.selects RX12 yX12_cut yX12_cut ∈ TB := tb_mem (i := 1840) (by decide +kernel) (by decide +kernel)
theorem tw_1841 : Cond.code yX12_cut cX12_cut 4 (some .int) ∈ TB := tb_mem (i := 1841) (by decide +kernel) (by decide +kernel)
theorem tw_1863 : Cond.methodLink "WristTreatyLaw" 137 yX12_waits ∈ TB := tb_mem (i := 1863) (by decide +kernel) (by decide +kernel)
theorem tw_1864 : Cond.instanceMethod yX12_waits ∈ TB := tb_mem (i := 1864) (by decide +kernel) (by decide +kernel)
theorem tw_1865 : Cond.selects RX12 yX12_waits yX12_waits ∈ TB := tb_mem (i := 1865) (by decide +kernel) (by decide +kernel)
theorem tw_1866 : Cond.code yX12_waits cX12_waits 4 (some .int) ∈ TB := tb_mem (i := 1866) (by decide +kernel) (by decide +kernel)
theorem tw_1867 : Cond.methodLink "WristTreatyLaw" 141 yX12_least ∈ TB := tb_mem (i := 1867) (by decide +kernel) (by decide +kernel)
theorem tw_1868 : Cond.instanceMethod yX12_least ∈ TB := tb_mem (i := 1868) (by decide +kernel) (by decide +kernel)
theorem tw_1869 : Cond.selects RX12 yX12_least yX12_least ∈ TB := tb_mem (i := 1869) (by decide +kernel) (by decide +kernel)
theorem tw_1870 : Cond.code yX12_least cX12_least 2 (some .int) ∈ TB := tb_mem (i := 1870) (by decide +kernel) (by decide +kernel)
theorem tw_1887 : Cond.methodLink "WristTreatyLaw" 145 yX12_order ∈ TB := tb_mem (i := 1887) (by decide +kernel) (by decide +kernel)
theorem tw_1888 : Cond.instanceMethod yX12_order ∈ TB := tb_mem (i := 1888) (by decide +kernel) (by decide +kernel)
theorem tw_1889 : Cond.selects RX12 yX12_order yX12_order ∈ TB := tb_mem (i := 1889) (by decide +kernel) (by decide +kernel)
theorem tw_1890 : Cond.code yX12_order cX12_order 3 (some .int) ∈ TB := tb_mem (i := 1890) (by decide +kernel) (by decide +kernel)
theorem tw_1891 : Cond.methodLink "WristTreatyLaw" 149 yX12_needs_ ∈ TB := tb_mem (i := 1891) (by decide +kernel) (by decide +kernel)
theorem tw_1892 : Cond.instanceMethod yX12_needs_ ∈ TB := tb_mem (i := 1892) (by decide +kernel) (by decide +kernel)
theorem tw_1893 : Cond.selects RX12 yX12_needs_ yX12_needs_ ∈ TB := tb_mem (i := 1893) (by decide +kernel) (by decide +kernel)
theorem tw_1894 : Cond.code yX12_needs_ cX12_needs_ 6 (some .int) ∈ TB := tb_mem (i := 1894) (by decide +kernel) (by decide +kernel)
theorem tw_1896 : Cond.methodLink "WristTreatyLaw" 153 yX12_ends ∈ TB := tb_mem (i := 1896) (by decide +kernel) (by decide +kernel)
theorem tw_1897 : Cond.instanceMethod yX12_ends ∈ TB := tb_mem (i := 1897) (by decide +kernel) (by decide +kernel)
theorem tw_1898 : Cond.selects RX12 yX12_ends yX12_ends ∈ TB := tb_mem (i := 1898) (by decide +kernel) (by decide +kernel)
theorem tw_1899 : Cond.code yX12_ends cX12_ends 3 (some .int) ∈ TB := tb_mem (i := 1899) (by decide +kernel) (by decide +kernel)
theorem tw_1900 : Cond.methodLink "WristTreatyLaw" 157 yX12_full ∈ TB := tb_mem (i := 1900) (by decide +kernel) (by decide +kernel)
theorem tw_1901 : Cond.instanceMethod yX12_full ∈ TB := tb_mem (i := 1901) (by decide +kernel) (by decide +kernel)
theorem tw_1902 : Cond.selects RX12 yX12_full yX12_full ∈ TB := tb_mem (i := 1902) (by decide +kernel) (by decide +kernel)
theorem tw_1903 : Cond.code yX12_full cX12_full 2 (some .int) ∈ TB := tb_mem (i := 1903) (by decide +kernel) (by decide +kernel)
theorem tw_1919 : Cond.methodLink "WristTreatyLaw" 161 yX12_fulls ∈ TB := tb_mem (i := 1919) (by decide +kernel) (by decide +kernel)
theorem tw_1920 : Cond.instanceMethod yX12_fulls ∈ TB := tb_mem (i := 1920) (by decide +kernel) (by decide +kernel)
theorem tw_1921 : Cond.selects RX12 yX12_fulls yX12_fulls ∈ TB := tb_mem (i := 1921) (by decide +kernel) (by decide +kernel)
theorem tw_1922 : Cond.code yX12_fulls cX12_fulls 2 (some .int) ∈ TB := tb_mem (i := 1922) (by decide +kernel) (by decide +kernel)
theorem tw_1923 : Cond.methodLink "WristTreatyLaw" 165 yX12_once ∈ TB := tb_mem (i := 1923) (by decide +kernel) (by decide +kernel)
theorem tw_1924 : Cond.instanceMethod yX12_once ∈ TB := tb_mem (i := 1924) (by decide +kernel) (by decide +kernel)
theorem tw_1925 : Cond.selects RX12 yX12_once yX12_once ∈ TB := tb_mem (i := 1925) (by decide +kernel) (by decide +kernel)
theorem tw_1926 : Cond.code yX12_once cX12_once 2 (some .int) ∈ TB := tb_mem (i := 1926) (by decide +kernel) (by decide +kernel)
theorem tw_1939 : Cond.methodLink "WristTreatyLaw" 169 yX12_onces ∈ TB := tb_mem (i := 1939) (by decide +kernel) (by decide +kernel)
theorem tw_1940 : Cond.instanceMethod yX12_onces ∈ TB := tb_mem (i := 1940) (by decide +kernel) (by decide +kernel)
theorem tw_1941 : Cond.selects RX12 yX12_onces yX12_onces ∈ TB := tb_mem (i := 1941) (by decide +kernel) (by decide +kernel)
theorem tw_1942 : Cond.code yX12_onces cX12_onces 2 (some .int) ∈ TB := tb_mem (i := 1942) (by decide +kernel) (by decide +kernel)
theorem tw_1943 : Cond.methodLink "WristTreatyLaw" 173 yX12_worth ∈ TB := tb_mem (i := 1943) (by decide +kernel) (by decide +kernel)
theorem tw_1944 : Cond.instanceMethod yX12_worth ∈ TB := tb_mem (i := 1944) (by decide +kernel) (by decide +kernel)
theorem tw_1945 : Cond.selects RX12 yX12_worth yX12_worth ∈ TB := tb_mem (i := 1945) (by decide +kernel) (by decide +kernel)
theorem tw_1946 : Cond.code yX12_worth cX12_worth 3 (some .int) ∈ TB := tb_mem (i := 1946) (by decide +kernel) (by decide +kernel)
theorem tw_1947 : Cond.methodLink "WristTreatyLaw" 177 yX12_signs ∈ TB := tb_mem (i := 1947) (by decide +kernel) (by decide +kernel)
theorem tw_1948 : Cond.instanceMethod yX12_signs ∈ TB := tb_mem (i := 1948) (by decide +kernel) (by decide +kernel)
theorem tw_1949 : Cond.selects RX12 yX12_signs yX12_signs ∈ TB := tb_mem (i := 1949) (by decide +kernel) (by decide +kernel)
theorem tw_1950 : Cond.code yX12_signs cX12_signs 3 (some .int) ∈ TB := tb_mem (i := 1950) (by decide +kernel) (by decide +kernel)
theorem tw_1955 : Cond.methodLink "WristTreatyLaw" 181 yX12_deal ∈ TB := tb_mem (i := 1955) (by decide +kernel) (by decide +kernel)
theorem tw_1956 : Cond.instanceMethod yX12_deal ∈ TB := tb_mem (i := 1956) (by decide +kernel) (by decide +kernel)
theorem tw_1957 : Cond.selects RX12 yX12_deal yX12_deal ∈ TB := tb_mem (i := 1957) (by decide +kernel) (by decide +kernel)
theorem tw_1958 : Cond.code yX12_deal cX12_deal 3 (some .int) ∈ TB := tb_mem (i := 1958) (by decide +kernel) (by decide +kernel)
theorem tw_1959 : Cond.methodLink "WristTreatyLaw" 185 yX12_even ∈ TB := tb_mem (i := 1959) (by decide +kernel) (by decide +kernel)
theorem tw_1960 : Cond.instanceMethod yX12_even ∈ TB := tb_mem (i := 1960) (by decide +kernel) (by decide +kernel)
theorem tw_1961 : Cond.selects RX12 yX12_even yX12_even ∈ TB := tb_mem (i := 1961) (by decide +kernel) (by decide +kernel)
theorem tw_1962 : Cond.code yX12_even cX12_even 3 (some .int) ∈ TB := tb_mem (i := 1962) (by decide +kernel) (by decide +kernel)
theorem tw_1963 : Cond.methodLink "WristTreatyLaw" 189 yX12_veto ∈ TB := tb_mem (i := 1963) (by decide +kernel) (by decide +kernel)
theorem tw_1964 : Cond.instanceMethod yX12_veto ∈ TB := tb_mem (i := 1964) (by decide +kernel) (by decide +kernel)
theorem tw_1965 : Cond.selects RX12 yX12_veto yX12_veto ∈ TB := tb_mem (i := 1965) (by decide +kernel) (by decide +kernel)
theorem tw_1966 : Cond.code yX12_veto cX12_veto 4 (some .int) ∈ TB := tb_mem (i := 1966) (by decide +kernel) (by decide +kernel)
theorem tw_1967 : Cond.methodLink "WristTreatyLaw" 193 yX12_must ∈ TB := tb_mem (i := 1967) (by decide +kernel) (by decide +kernel)
theorem tw_1968 : Cond.instanceMethod yX12_must ∈ TB := tb_mem (i := 1968) (by decide +kernel) (by decide +kernel)
theorem tw_1969 : Cond.selects RX12 yX12_must yX12_must ∈ TB := tb_mem (i := 1969) (by decide +kernel) (by decide +kernel)
theorem tw_1970 : Cond.code yX12_must cX12_must 2 (some .int) ∈ TB := tb_mem (i := 1970) (by decide +kernel) (by decide +kernel)
theorem tw_1975 : Cond.methodLink "WristTreatyLaw" 197 yX12_musts ∈ TB := tb_mem (i := 1975) (by decide +kernel) (by decide +kernel)
theorem tw_1976 : Cond.instanceMethod yX12_musts ∈ TB := tb_mem (i := 1976) (by decide +kernel) (by decide +kernel)
theorem tw_1977 : Cond.selects RX12 yX12_musts yX12_musts ∈ TB := tb_mem (i := 1977) (by decide +kernel) (by decide +kernel)
theorem tw_1978 : Cond.code yX12_musts cX12_musts 2 (some .int) ∈ TB := tb_mem (i := 1978) (by decide +kernel) (by decide +kernel)
theorem tw_1979 : Cond.methodLink "WristTreatyLaw" 201 yX12_bundles ∈ TB := tb_mem (i := 1979) (by decide +kernel) (by decide +kernel)
theorem tw_1980 : Cond.instanceMethod yX12_bundles ∈ TB := tb_mem (i := 1980) (by decide +kernel) (by decide +kernel)
theorem tw_1981 : Cond.selects RX12 yX12_bundles yX12_bundles ∈ TB := tb_mem (i := 1981) (by decide +kernel) (by decide +kernel)
theorem tw_1982 : Cond.code yX12_bundles cX12_bundles 1 (some .int) ∈ TB := tb_mem (i := 1982) (by decide +kernel) (by decide +kernel)
theorem tw_1987 : Cond.methodLink "WristTreatyLaw" 205 yX12_bundle ∈ TB := tb_mem (i := 1987) (by decide +kernel) (by decide +kernel)
theorem tw_1988 : Cond.instanceMethod yX12_bundle ∈ TB := tb_mem (i := 1988) (by decide +kernel) (by decide +kernel)
theorem tw_1989 : Cond.selects RX12 yX12_bundle yX12_bundle ∈ TB := tb_mem (i := 1989) (by decide +kernel) (by decide +kernel)
theorem tw_1990 : Cond.code yX12_bundle cX12_bundle 1 (some .int) ∈ TB := tb_mem (i := 1990) (by decide +kernel) (by decide +kernel)
theorem tw_1991 : Cond.methodLink "WristTreatyLaw" 209 yX12_firm ∈ TB := tb_mem (i := 1991) (by decide +kernel) (by decide +kernel)
theorem tw_1992 : Cond.instanceMethod yX12_firm ∈ TB := tb_mem (i := 1992) (by decide +kernel) (by decide +kernel)
theorem tw_1993 : Cond.selects RX12 yX12_firm yX12_firm ∈ TB := tb_mem (i := 1993) (by decide +kernel) (by decide +kernel)
theorem tw_1994 : Cond.code yX12_firm cX12_firm 3 (some .int) ∈ TB := tb_mem (i := 1994) (by decide +kernel) (by decide +kernel)
theorem tw_1999 : Cond.methodLink "WristTreatyLaw" 213 yX12_rests ∈ TB := tb_mem (i := 1999) (by decide +kernel) (by decide +kernel)
theorem tw_2000 : Cond.instanceMethod yX12_rests ∈ TB := tb_mem (i := 2000) (by decide +kernel) (by decide +kernel)
theorem tw_2001 : Cond.selects RX12 yX12_rests yX12_rests ∈ TB := tb_mem (i := 2001) (by decide +kernel) (by decide +kernel)
theorem tw_2002 : Cond.code yX12_rests cX12_rests 8 (some .int) ∈ TB := tb_mem (i := 2002) (by decide +kernel) (by decide +kernel)
theorem tw_2007 : Cond.methodLink "WristTreatyLaw" 217 yX12_stands ∈ TB := tb_mem (i := 2007) (by decide +kernel) (by decide +kernel)
theorem tw_2008 : Cond.instanceMethod yX12_stands ∈ TB := tb_mem (i := 2008) (by decide +kernel) (by decide +kernel)
theorem tw_2009 : Cond.selects RX12 yX12_stands yX12_stands ∈ TB := tb_mem (i := 2009) (by decide +kernel) (by decide +kernel)
theorem tw_2010 : Cond.code yX12_stands cX12_stands 3 (some .int) ∈ TB := tb_mem (i := 2010) (by decide +kernel) (by decide +kernel)
theorem tw_2011 : Cond.methodLink "WristTreatyLaw" 221 yX12_fits ∈ TB := tb_mem (i := 2011) (by decide +kernel) (by decide +kernel)
theorem tw_2012 : Cond.instanceMethod yX12_fits ∈ TB := tb_mem (i := 2012) (by decide +kernel) (by decide +kernel)
theorem tw_2013 : Cond.selects RX12 yX12_fits yX12_fits ∈ TB := tb_mem (i := 2013) (by decide +kernel) (by decide +kernel)
theorem tw_2014 : Cond.code yX12_fits cX12_fits 3 (some .int) ∈ TB := tb_mem (i := 2014) (by decide +kernel) (by decide +kernel)
theorem tw_2023 : Cond.methodLink "WristTreatyLaw" 225 yX12_tired ∈ TB := tb_mem (i := 2023) (by decide +kernel) (by decide +kernel)
theorem tw_2024 : Cond.instanceMethod yX12_tired ∈ TB := tb_mem (i := 2024) (by decide +kernel) (by decide +kernel)
theorem tw_2025 : Cond.selects RX12 yX12_tired yX12_tired ∈ TB := tb_mem (i := 2025) (by decide +kernel) (by decide +kernel)
theorem tw_2026 : Cond.code yX12_tired cX12_tired 5 (some .int) ∈ TB := tb_mem (i := 2026) (by decide +kernel) (by decide +kernel)
theorem tw_2027 : Cond.methodLink "WristTreatyLaw" 229 yX12_by ∈ TB := tb_mem (i := 2027) (by decide +kernel) (by decide +kernel)
theorem tw_2028 : Cond.instanceMethod yX12_by ∈ TB := tb_mem (i := 2028) (by decide +kernel) (by decide +kernel)
theorem tw_2029 : Cond.selects RX12 yX12_by yX12_by ∈ TB := tb_mem (i := 2029) (by decide +kernel) (by decide +kernel)
theorem tw_2030 : Cond.code yX12_by cX12_by 5 (some .int) ∈ TB := tb_mem (i := 2030) (by decide +kernel) (by decide +kernel)
theorem tw_2031 : Cond.methodLink "WristTreatyLaw" 233 yX12_ask ∈ TB := tb_mem (i := 2031) (by decide +kernel) (by decide +kernel)
theorem tw_2032 : Cond.instanceMethod yX12_ask ∈ TB := tb_mem (i := 2032) (by decide +kernel) (by decide +kernel)
theorem tw_2033 : Cond.selects RX12 yX12_ask yX12_ask ∈ TB := tb_mem (i := 2033) (by decide +kernel) (by decide +kernel)
theorem tw_2034 : Cond.code yX12_ask cX12_ask 8 (some .int) ∈ TB := tb_mem (i := 2034) (by decide +kernel) (by decide +kernel)
theorem tw_2039 : Cond.methodLink "WristTreatyLaw" 238 yX12_chance ∈ TB := tb_mem (i := 2039) (by decide +kernel) (by decide +kernel)
theorem tw_2040 : Cond.instanceMethod yX12_chance ∈ TB := tb_mem (i := 2040) (by decide +kernel) (by decide +kernel)
theorem tw_2041 : Cond.selects RX12 yX12_chance yX12_chance ∈ TB := tb_mem (i := 2041) (by decide +kernel) (by decide +kernel)
theorem tw_2042 : Cond.code yX12_chance cX12_chance 5 (some .long) ∈ TB := tb_mem (i := 2042) (by decide +kernel) (by decide +kernel)
theorem tw_2056 : Cond.methodLink "WristTreatyLaw" 242 yX12_sure ∈ TB := tb_mem (i := 2056) (by decide +kernel) (by decide +kernel)
theorem tw_2057 : Cond.instanceMethod yX12_sure ∈ TB := tb_mem (i := 2057) (by decide +kernel) (by decide +kernel)
theorem tw_2058 : Cond.selects RX12 yX12_sure yX12_sure ∈ TB := tb_mem (i := 2058) (by decide +kernel) (by decide +kernel)
theorem tw_2059 : Cond.code yX12_sure cX12_sure 5 (some .int) ∈ TB := tb_mem (i := 2059) (by decide +kernel) (by decide +kernel)
theorem tw_2065 : Cond.methodLink "WristTreatyLaw" 247 yX12_mean ∈ TB := tb_mem (i := 2065) (by decide +kernel) (by decide +kernel)
theorem tw_2066 : Cond.instanceMethod yX12_mean ∈ TB := tb_mem (i := 2066) (by decide +kernel) (by decide +kernel)
theorem tw_2067 : Cond.selects RX12 yX12_mean yX12_mean ∈ TB := tb_mem (i := 2067) (by decide +kernel) (by decide +kernel)
theorem tw_2068 : Cond.code yX12_mean cX12_mean 8 (some .long) ∈ TB := tb_mem (i := 2068) (by decide +kernel) (by decide +kernel)
theorem tw_2069 : Cond.methodLink "WristTreatyLaw" 251 yX12_push ∈ TB := tb_mem (i := 2069) (by decide +kernel) (by decide +kernel)
theorem tw_2070 : Cond.instanceMethod yX12_push ∈ TB := tb_mem (i := 2070) (by decide +kernel) (by decide +kernel)
theorem tw_2071 : Cond.selects RX12 yX12_push yX12_push ∈ TB := tb_mem (i := 2071) (by decide +kernel) (by decide +kernel)
theorem tw_2072 : Cond.code yX12_push cX12_push 3 (some .int) ∈ TB := tb_mem (i := 2072) (by decide +kernel) (by decide +kernel)
theorem tw_2082 : Cond.methodLink "WristTreatyLaw" 255 yX12_swing ∈ TB := tb_mem (i := 2082) (by decide +kernel) (by decide +kernel)
theorem tw_2083 : Cond.instanceMethod yX12_swing ∈ TB := tb_mem (i := 2083) (by decide +kernel) (by decide +kernel)
theorem tw_2084 : Cond.selects RX12 yX12_swing yX12_swing ∈ TB := tb_mem (i := 2084) (by decide +kernel) (by decide +kernel)
theorem tw_2085 : Cond.code yX12_swing cX12_swing 3 (some .int) ∈ TB := tb_mem (i := 2085) (by decide +kernel) (by decide +kernel)
theorem tw_2086 : Cond.methodLink "WristTreatyLaw" 259 yX12_sign ∈ TB := tb_mem (i := 2086) (by decide +kernel) (by decide +kernel)
theorem tw_2087 : Cond.instanceMethod yX12_sign ∈ TB := tb_mem (i := 2087) (by decide +kernel) (by decide +kernel)
theorem tw_2088 : Cond.selects RX12 yX12_sign yX12_sign ∈ TB := tb_mem (i := 2088) (by decide +kernel) (by decide +kernel)
theorem tw_2089 : Cond.code yX12_sign cX12_sign 2 (some .int) ∈ TB := tb_mem (i := 2089) (by decide +kernel) (by decide +kernel)
theorem tw_2090 : Cond.methodLink "WristTreatyLaw" 263 yX12_drop ∈ TB := tb_mem (i := 2090) (by decide +kernel) (by decide +kernel)
theorem tw_2091 : Cond.instanceMethod yX12_drop ∈ TB := tb_mem (i := 2091) (by decide +kernel) (by decide +kernel)
theorem tw_2092 : Cond.selects RX12 yX12_drop yX12_drop ∈ TB := tb_mem (i := 2092) (by decide +kernel) (by decide +kernel)
theorem tw_2093 : Cond.code yX12_drop cX12_drop 1 (some .int) ∈ TB := tb_mem (i := 2093) (by decide +kernel) (by decide +kernel)
theorem tw_2094 : Cond.methodLink "WristTreatyLaw" 267 yX12_now ∈ TB := tb_mem (i := 2094) (by decide +kernel) (by decide +kernel)
theorem tw_2095 : Cond.instanceMethod yX12_now ∈ TB := tb_mem (i := 2095) (by decide +kernel) (by decide +kernel)
theorem tw_2096 : Cond.selects RX12 yX12_now yX12_now ∈ TB := tb_mem (i := 2096) (by decide +kernel) (by decide +kernel)
theorem tw_2097 : Cond.code yX12_now cX12_now 2 (some .int) ∈ TB := tb_mem (i := 2097) (by decide +kernel) (by decide +kernel)
theorem tw_2099 : Cond.methodLink "WristTreatyLaw" 271 yX12_undo ∈ TB := tb_mem (i := 2099) (by decide +kernel) (by decide +kernel)
theorem tw_2100 : Cond.instanceMethod yX12_undo ∈ TB := tb_mem (i := 2100) (by decide +kernel) (by decide +kernel)
theorem tw_2101 : Cond.selects RX12 yX12_undo yX12_undo ∈ TB := tb_mem (i := 2101) (by decide +kernel) (by decide +kernel)
theorem tw_2102 : Cond.code yX12_undo cX12_undo 1 (some .int) ∈ TB := tb_mem (i := 2102) (by decide +kernel) (by decide +kernel)
theorem tw_2103 : Cond.methodLink "WristTreatyLaw" 275 yX12_anew ∈ TB := tb_mem (i := 2103) (by decide +kernel) (by decide +kernel)
theorem tw_2104 : Cond.instanceMethod yX12_anew ∈ TB := tb_mem (i := 2104) (by decide +kernel) (by decide +kernel)
theorem tw_2105 : Cond.selects RX12 yX12_anew yX12_anew ∈ TB := tb_mem (i := 2105) (by decide +kernel) (by decide +kernel)
theorem tw_2106 : Cond.code yX12_anew cX12_anew 2 (some .int) ∈ TB := tb_mem (i := 2106) (by decide +kernel) (by decide +kernel)
theorem tw_2107 : Cond.methodLink "WristTreatyLaw" 279 yX12_drawn ∈ TB := tb_mem (i := 2107) (by decide +kernel) (by decide +kernel)
theorem tw_2108 : Cond.instanceMethod yX12_drawn ∈ TB := tb_mem (i := 2108) (by decide +kernel) (by decide +kernel)
theorem tw_2109 : Cond.selects RX12 yX12_drawn yX12_drawn ∈ TB := tb_mem (i := 2109) (by decide +kernel) (by decide +kernel)
theorem tw_2110 : Cond.code yX12_drawn cX12_drawn 4 (some .int) ∈ TB := tb_mem (i := 2110) (by decide +kernel) (by decide +kernel)
theorem tw_2122 : Cond.methodLink "WristTreatyLaw" 283 yX12_luck ∈ TB := tb_mem (i := 2122) (by decide +kernel) (by decide +kernel)
theorem tw_2123 : Cond.instanceMethod yX12_luck ∈ TB := tb_mem (i := 2123) (by decide +kernel) (by decide +kernel)
theorem tw_2124 : Cond.selects RX12 yX12_luck yX12_luck ∈ TB := tb_mem (i := 2124) (by decide +kernel) (by decide +kernel)
theorem tw_2125 : Cond.code yX12_luck cX12_luck 8 (some .int) ∈ TB := tb_mem (i := 2125) (by decide +kernel) (by decide +kernel)
theorem tw_2127 : Cond.methodLink "WristTreatyLaw" 287 yX12_grip ∈ TB := tb_mem (i := 2127) (by decide +kernel) (by decide +kernel)
theorem tw_2128 : Cond.instanceMethod yX12_grip ∈ TB := tb_mem (i := 2128) (by decide +kernel) (by decide +kernel)
theorem tw_2129 : Cond.selects RX12 yX12_grip yX12_grip ∈ TB := tb_mem (i := 2129) (by decide +kernel) (by decide +kernel)
theorem tw_2130 : Cond.code yX12_grip cX12_grip 4 (some .int) ∈ TB := tb_mem (i := 2130) (by decide +kernel) (by decide +kernel)
theorem tw_2132 : Cond.methodLink "WristTreatyLaw" 291 yX12_count ∈ TB := tb_mem (i := 2132) (by decide +kernel) (by decide +kernel)
theorem tw_2133 : Cond.instanceMethod yX12_count ∈ TB := tb_mem (i := 2133) (by decide +kernel) (by decide +kernel)
theorem tw_2134 : Cond.selects RX12 yX12_count yX12_count ∈ TB := tb_mem (i := 2134) (by decide +kernel) (by decide +kernel)
theorem tw_2135 : Cond.code yX12_count cX12_count 4 (some .int) ∈ TB := tb_mem (i := 2135) (by decide +kernel) (by decide +kernel)
theorem tw_2137 : Cond.methodLink "WristTreatyLaw" 303 yX12_row ∈ TB := tb_mem (i := 2137) (by decide +kernel) (by decide +kernel)
theorem tw_2138 : Cond.instanceMethod yX12_row ∈ TB := tb_mem (i := 2138) (by decide +kernel) (by decide +kernel)
theorem tw_2139 : Cond.selects RX12 yX12_row yX12_row ∈ TB := tb_mem (i := 2139) (by decide +kernel) (by decide +kernel)
theorem tw_2140 : Cond.code yX12_row cX12_row 5 (some .int) ∈ TB := tb_mem (i := 2140) (by decide +kernel) (by decide +kernel)
theorem tw_2141 : Cond.methodLink "WristTreatyLaw" 310 yX12_write ∈ TB := tb_mem (i := 2141) (by decide +kernel) (by decide +kernel)
theorem tw_2142 : Cond.instanceMethod yX12_write ∈ TB := tb_mem (i := 2142) (by decide +kernel) (by decide +kernel)
theorem tw_2143 : Cond.selects RX12 yX12_write yX12_write ∈ TB := tb_mem (i := 2143) (by decide +kernel) (by decide +kernel)
theorem tw_2144 : Cond.code yX12_write cX12_write 5 (some .int) ∈ TB := tb_mem (i := 2144) (by decide +kernel) (by decide +kernel)
theorem tw_2148 : Cond.methodLink "WristTreatyLaw" 314 yX12_paste ∈ TB := tb_mem (i := 2148) (by decide +kernel) (by decide +kernel)
theorem tw_2149 : Cond.instanceMethod yX12_paste ∈ TB := tb_mem (i := 2149) (by decide +kernel) (by decide +kernel)
theorem tw_2150 : Cond.selects RX12 yX12_paste yX12_paste ∈ TB := tb_mem (i := 2150) (by decide +kernel) (by decide +kernel)
theorem tw_2151 : Cond.code yX12_paste cX12_paste 7 (some .int) ∈ TB := tb_mem (i := 2151) (by decide +kernel) (by decide +kernel)
theorem tw_2152 : Cond.constantLong "WristTreatyLaw" 304 (4294967295) ∈ TB := tb_mem (i := 2152) (by decide +kernel) (by decide +kernel)
theorem hdX11_able : yX11_able.cls ≠ "java/lang/invoke/MethodHandle" ∧ yX11_able.cls ≠ "java/lang/invoke/VarHandle" ∧ (parseMethodDescriptor yX11_able.desc).map (fun d => d.parameters.length) = some 0 := by decide +kernel
theorem hdX11_anew : yX11_anew.cls ≠ "java/lang/invoke/MethodHandle" ∧ yX11_anew.cls ≠ "java/lang/invoke/VarHandle" ∧ (parseMethodDescriptor yX11_anew.desc).map (fun d => d.parameters.length) = some 0 := by decide +kernel
theorem hdX11_ask : yX11_ask.cls ≠ "java/lang/invoke/MethodHandle" ∧ yX11_ask.cls ≠ "java/lang/invoke/VarHandle" ∧ (parseMethodDescriptor yX11_ask.desc).map (fun d => d.parameters.length) = some 1 := by decide +kernel
theorem hdX11_back : yX11_back.cls ≠ "java/lang/invoke/MethodHandle" ∧ yX11_back.cls ≠ "java/lang/invoke/VarHandle" ∧ (parseMethodDescriptor yX11_back.desc).map (fun d => d.parameters.length) = some 1 := by decide +kernel
theorem hdX11_bundle : yX11_bundle.cls ≠ "java/lang/invoke/MethodHandle" ∧ yX11_bundle.cls ≠ "java/lang/invoke/VarHandle" ∧ (parseMethodDescriptor yX11_bundle.desc).map (fun d => d.parameters.length) = some 0 := by decide +kernel
theorem hdX11_bundles : yX11_bundles.cls ≠ "java/lang/invoke/MethodHandle" ∧ yX11_bundles.cls ≠ "java/lang/invoke/VarHandle" ∧ (parseMethodDescriptor yX11_bundles.desc).map (fun d => d.parameters.length) = some 0 := by decide +kernel
theorem hdX11_by : yX11_by.cls ≠ "java/lang/invoke/MethodHandle" ∧ yX11_by.cls ≠ "java/lang/invoke/VarHandle" ∧ (parseMethodDescriptor yX11_by.desc).map (fun d => d.parameters.length) = some 2 := by decide +kernel
theorem hdX11_chance : yX11_chance.cls ≠ "java/lang/invoke/MethodHandle" ∧ yX11_chance.cls ≠ "java/lang/invoke/VarHandle" ∧ (parseMethodDescriptor yX11_chance.desc).map (fun d => d.parameters.length) = some 4 := by decide +kernel
theorem hdX11_clause : yX11_clause.cls ≠ "java/lang/invoke/MethodHandle" ∧ yX11_clause.cls ≠ "java/lang/invoke/VarHandle" ∧ (parseMethodDescriptor yX11_clause.desc).map (fun d => d.parameters.length) = some 2 := by decide +kernel
theorem hdX11_count : yX11_count.cls ≠ "java/lang/invoke/MethodHandle" ∧ yX11_count.cls ≠ "java/lang/invoke/VarHandle" ∧ (parseMethodDescriptor yX11_count.desc).map (fun d => d.parameters.length) = some 1 := by decide +kernel
theorem hdX11_cut : yX11_cut.cls ≠ "java/lang/invoke/MethodHandle" ∧ yX11_cut.cls ≠ "java/lang/invoke/VarHandle" ∧ (parseMethodDescriptor yX11_cut.desc).map (fun d => d.parameters.length) = some 2 := by decide +kernel
theorem hdX11_deal : yX11_deal.cls ≠ "java/lang/invoke/MethodHandle" ∧ yX11_deal.cls ≠ "java/lang/invoke/VarHandle" ∧ (parseMethodDescriptor yX11_deal.desc).map (fun d => d.parameters.length) = some 0 := by decide +kernel
theorem hdX11_drawn : yX11_drawn.cls ≠ "java/lang/invoke/MethodHandle" ∧ yX11_drawn.cls ≠ "java/lang/invoke/VarHandle" ∧ (parseMethodDescriptor yX11_drawn.desc).map (fun d => d.parameters.length) = some 3 := by decide +kernel
theorem hdX11_drop : yX11_drop.cls ≠ "java/lang/invoke/MethodHandle" ∧ yX11_drop.cls ≠ "java/lang/invoke/VarHandle" ∧ (parseMethodDescriptor yX11_drop.desc).map (fun d => d.parameters.length) = some 0 := by decide +kernel
theorem hdX11_end : yX11_end.cls ≠ "java/lang/invoke/MethodHandle" ∧ yX11_end.cls ≠ "java/lang/invoke/VarHandle" ∧ (parseMethodDescriptor yX11_end.desc).map (fun d => d.parameters.length) = some 1 := by decide +kernel
theorem hdX11_ends : yX11_ends.cls ≠ "java/lang/invoke/MethodHandle" ∧ yX11_ends.cls ≠ "java/lang/invoke/VarHandle" ∧ (parseMethodDescriptor yX11_ends.desc).map (fun d => d.parameters.length) = some 1 := by decide +kernel
theorem hdX11_even : yX11_even.cls ≠ "java/lang/invoke/MethodHandle" ∧ yX11_even.cls ≠ "java/lang/invoke/VarHandle" ∧ (parseMethodDescriptor yX11_even.desc).map (fun d => d.parameters.length) = some 0 := by decide +kernel
theorem hdX11_fair : yX11_fair.cls ≠ "java/lang/invoke/MethodHandle" ∧ yX11_fair.cls ≠ "java/lang/invoke/VarHandle" ∧ (parseMethodDescriptor yX11_fair.desc).map (fun d => d.parameters.length) = some 0 := by decide +kernel
theorem hdX11_fault : yX11_fault.cls ≠ "java/lang/invoke/MethodHandle" ∧ yX11_fault.cls ≠ "java/lang/invoke/VarHandle" ∧ (parseMethodDescriptor yX11_fault.desc).map (fun d => d.parameters.length) = some 1 := by decide +kernel
theorem hdX11_feed : yX11_feed.cls ≠ "java/lang/invoke/MethodHandle" ∧ yX11_feed.cls ≠ "java/lang/invoke/VarHandle" ∧ (parseMethodDescriptor yX11_feed.desc).map (fun d => d.parameters.length) = some 5 := by decide +kernel
theorem hdX11_firm : yX11_firm.cls ≠ "java/lang/invoke/MethodHandle" ∧ yX11_firm.cls ≠ "java/lang/invoke/VarHandle" ∧ (parseMethodDescriptor yX11_firm.desc).map (fun d => d.parameters.length) = some 0 := by decide +kernel
theorem hdX11_fits : yX11_fits.cls ≠ "java/lang/invoke/MethodHandle" ∧ yX11_fits.cls ≠ "java/lang/invoke/VarHandle" ∧ (parseMethodDescriptor yX11_fits.desc).map (fun d => d.parameters.length) = some 1 := by decide +kernel
theorem hdX11_full : yX11_full.cls ≠ "java/lang/invoke/MethodHandle" ∧ yX11_full.cls ≠ "java/lang/invoke/VarHandle" ∧ (parseMethodDescriptor yX11_full.desc).map (fun d => d.parameters.length) = some 1 := by decide +kernel
theorem hdX11_fulls : yX11_fulls.cls ≠ "java/lang/invoke/MethodHandle" ∧ yX11_fulls.cls ≠ "java/lang/invoke/VarHandle" ∧ (parseMethodDescriptor yX11_fulls.desc).map (fun d => d.parameters.length) = some 1 := by decide +kernel
theorem hdX11_gorge : yX11_gorge.cls ≠ "java/lang/invoke/MethodHandle" ∧ yX11_gorge.cls ≠ "java/lang/invoke/VarHandle" ∧ (parseMethodDescriptor yX11_gorge.desc).map (fun d => d.parameters.length) = some 0 := by decide +kernel
theorem hdX11_grip : yX11_grip.cls ≠ "java/lang/invoke/MethodHandle" ∧ yX11_grip.cls ≠ "java/lang/invoke/VarHandle" ∧ (parseMethodDescriptor yX11_grip.desc).map (fun d => d.parameters.length) = some 2 := by decide +kernel
theorem hdX11_hold : yX11_hold.cls ≠ "java/lang/invoke/MethodHandle" ∧ yX11_hold.cls ≠ "java/lang/invoke/VarHandle" ∧ (parseMethodDescriptor yX11_hold.desc).map (fun d => d.parameters.length) = some 2 := by decide +kernel
theorem hdX11_image : yX11_image.cls ≠ "java/lang/invoke/MethodHandle" ∧ yX11_image.cls ≠ "java/lang/invoke/VarHandle" ∧ (parseMethodDescriptor yX11_image.desc).map (fun d => d.parameters.length) = some 1 := by decide +kernel
theorem hdX11_init : yX11_init.name = "<init>" ∧ yX11_init.cls ≠ "java/lang/invoke/MethodHandle" ∧ yX11_init.cls ≠ "java/lang/invoke/VarHandle" ∧ (parseMethodDescriptor yX11_init.desc).map (fun d => d.parameters.length) = some 0 := by decide +kernel
theorem hdX11_kept : yX11_kept.cls ≠ "java/lang/invoke/MethodHandle" ∧ yX11_kept.cls ≠ "java/lang/invoke/VarHandle" ∧ (parseMethodDescriptor yX11_kept.desc).map (fun d => d.parameters.length) = some 0 := by decide +kernel
theorem hdX11_least : yX11_least.cls ≠ "java/lang/invoke/MethodHandle" ∧ yX11_least.cls ≠ "java/lang/invoke/VarHandle" ∧ (parseMethodDescriptor yX11_least.desc).map (fun d => d.parameters.length) = some 1 := by decide +kernel
theorem hdX11_loners : yX11_loners.cls ≠ "java/lang/invoke/MethodHandle" ∧ yX11_loners.cls ≠ "java/lang/invoke/VarHandle" ∧ (parseMethodDescriptor yX11_loners.desc).map (fun d => d.parameters.length) = some 0 := by decide +kernel
theorem hdX11_longest : yX11_longest.cls ≠ "java/lang/invoke/MethodHandle" ∧ yX11_longest.cls ≠ "java/lang/invoke/VarHandle" ∧ (parseMethodDescriptor yX11_longest.desc).map (fun d => d.parameters.length) = some 0 := by decide +kernel
theorem hdX11_luck : yX11_luck.cls ≠ "java/lang/invoke/MethodHandle" ∧ yX11_luck.cls ≠ "java/lang/invoke/VarHandle" ∧ (parseMethodDescriptor yX11_luck.desc).map (fun d => d.parameters.length) = some 5 := by decide +kernel
theorem hdX11_man : yX11_man.cls ≠ "java/lang/invoke/MethodHandle" ∧ yX11_man.cls ≠ "java/lang/invoke/VarHandle" ∧ (parseMethodDescriptor yX11_man.desc).map (fun d => d.parameters.length) = some 2 := by decide +kernel
theorem hdX11_match : yX11_match.cls ≠ "java/lang/invoke/MethodHandle" ∧ yX11_match.cls ≠ "java/lang/invoke/VarHandle" ∧ (parseMethodDescriptor yX11_match.desc).map (fun d => d.parameters.length) = some 0 := by decide +kernel
theorem hdX11_matched : yX11_matched.cls ≠ "java/lang/invoke/MethodHandle" ∧ yX11_matched.cls ≠ "java/lang/invoke/VarHandle" ∧ (parseMethodDescriptor yX11_matched.desc).map (fun d => d.parameters.length) = some 1 := by decide +kernel
theorem hdX11_mean : yX11_mean.cls ≠ "java/lang/invoke/MethodHandle" ∧ yX11_mean.cls ≠ "java/lang/invoke/VarHandle" ∧ (parseMethodDescriptor yX11_mean.desc).map (fun d => d.parameters.length) = some 3 := by decide +kernel
theorem hdX11_meet : yX11_meet.cls ≠ "java/lang/invoke/MethodHandle" ∧ yX11_meet.cls ≠ "java/lang/invoke/VarHandle" ∧ (parseMethodDescriptor yX11_meet.desc).map (fun d => d.parameters.length) = some 1 := by decide +kernel
theorem hdX11_meetings : yX11_meetings.cls ≠ "java/lang/invoke/MethodHandle" ∧ yX11_meetings.cls ≠ "java/lang/invoke/VarHandle" ∧ (parseMethodDescriptor yX11_meetings.desc).map (fun d => d.parameters.length) = some 1 := by decide +kernel
theorem hdX11_must : yX11_must.cls ≠ "java/lang/invoke/MethodHandle" ∧ yX11_must.cls ≠ "java/lang/invoke/VarHandle" ∧ (parseMethodDescriptor yX11_must.desc).map (fun d => d.parameters.length) = some 1 := by decide +kernel
theorem hdX11_musts : yX11_musts.cls ≠ "java/lang/invoke/MethodHandle" ∧ yX11_musts.cls ≠ "java/lang/invoke/VarHandle" ∧ (parseMethodDescriptor yX11_musts.desc).map (fun d => d.parameters.length) = some 1 := by decide +kernel
theorem hdX11_needs : yX11_needs.cls ≠ "java/lang/invoke/MethodHandle" ∧ yX11_needs.cls ≠ "java/lang/invoke/VarHandle" ∧ (parseMethodDescriptor yX11_needs.desc).map (fun d => d.parameters.length) = some 1 := by decide +kernel
theorem hdX11_next : yX11_next.cls ≠ "java/lang/invoke/MethodHandle" ∧ yX11_next.cls ≠ "java/lang/invoke/VarHandle" ∧ (parseMethodDescriptor yX11_next.desc).map (fun d => d.parameters.length) = some 1 := by decide +kernel
theorem hdX11_now : yX11_now.cls ≠ "java/lang/invoke/MethodHandle" ∧ yX11_now.cls ≠ "java/lang/invoke/VarHandle" ∧ (parseMethodDescriptor yX11_now.desc).map (fun d => d.parameters.length) = some 1 := by decide +kernel
theorem hdX11_often : yX11_often.cls ≠ "java/lang/invoke/MethodHandle" ∧ yX11_often.cls ≠ "java/lang/invoke/VarHandle" ∧ (parseMethodDescriptor yX11_often.desc).map (fun d => d.parameters.length) = some 1 := by decide +kernel
theorem hdX11_once : yX11_once.cls ≠ "java/lang/invoke/MethodHandle" ∧ yX11_once.cls ≠ "java/lang/invoke/VarHandle" ∧ (parseMethodDescriptor yX11_once.desc).map (fun d => d.parameters.length) = some 1 := by decide +kernel
theorem hdX11_onces : yX11_onces.cls ≠ "java/lang/invoke/MethodHandle" ∧ yX11_onces.cls ≠ "java/lang/invoke/VarHandle" ∧ (parseMethodDescriptor yX11_onces.desc).map (fun d => d.parameters.length) = some 1 := by decide +kernel
theorem hdX11_order : yX11_order.cls ≠ "java/lang/invoke/MethodHandle" ∧ yX11_order.cls ≠ "java/lang/invoke/VarHandle" ∧ (parseMethodDescriptor yX11_order.desc).map (fun d => d.parameters.length) = some 2 := by decide +kernel
theorem hdX11_out : yX11_out.cls ≠ "java/lang/invoke/MethodHandle" ∧ yX11_out.cls ≠ "java/lang/invoke/VarHandle" ∧ (parseMethodDescriptor yX11_out.desc).map (fun d => d.parameters.length) = some 2 := by decide +kernel
theorem hdX11_pair : yX11_pair.cls ≠ "java/lang/invoke/MethodHandle" ∧ yX11_pair.cls ≠ "java/lang/invoke/VarHandle" ∧ (parseMethodDescriptor yX11_pair.desc).map (fun d => d.parameters.length) = some 0 := by decide +kernel
theorem hdX11_partner : yX11_partner.cls ≠ "java/lang/invoke/MethodHandle" ∧ yX11_partner.cls ≠ "java/lang/invoke/VarHandle" ∧ (parseMethodDescriptor yX11_partner.desc).map (fun d => d.parameters.length) = some 1 := by decide +kernel
theorem hdX11_paste : yX11_paste.cls ≠ "java/lang/invoke/MethodHandle" ∧ yX11_paste.cls ≠ "java/lang/invoke/VarHandle" ∧ (parseMethodDescriptor yX11_paste.desc).map (fun d => d.parameters.length) = some 5 := by decide +kernel
theorem hdX11_push : yX11_push.cls ≠ "java/lang/invoke/MethodHandle" ∧ yX11_push.cls ≠ "java/lang/invoke/VarHandle" ∧ (parseMethodDescriptor yX11_push.desc).map (fun d => d.parameters.length) = some 2 := by decide +kernel
theorem hdX11_pushes : yX11_pushes.cls ≠ "java/lang/invoke/MethodHandle" ∧ yX11_pushes.cls ≠ "java/lang/invoke/VarHandle" ∧ (parseMethodDescriptor yX11_pushes.desc).map (fun d => d.parameters.length) = some 1 := by decide +kernel
theorem hdX11_resin : yX11_resin.cls ≠ "java/lang/invoke/MethodHandle" ∧ yX11_resin.cls ≠ "java/lang/invoke/VarHandle" ∧ (parseMethodDescriptor yX11_resin.desc).map (fun d => d.parameters.length) = some 3 := by decide +kernel
theorem hdX11_rests : yX11_rests.cls ≠ "java/lang/invoke/MethodHandle" ∧ yX11_rests.cls ≠ "java/lang/invoke/VarHandle" ∧ (parseMethodDescriptor yX11_rests.desc).map (fun d => d.parameters.length) = some 2 := by decide +kernel
theorem hdX11_row : yX11_row.cls ≠ "java/lang/invoke/MethodHandle" ∧ yX11_row.cls ≠ "java/lang/invoke/VarHandle" ∧ (parseMethodDescriptor yX11_row.desc).map (fun d => d.parameters.length) = some 3 := by decide +kernel
theorem hdX11_sign : yX11_sign.cls ≠ "java/lang/invoke/MethodHandle" ∧ yX11_sign.cls ≠ "java/lang/invoke/VarHandle" ∧ (parseMethodDescriptor yX11_sign.desc).map (fun d => d.parameters.length) = some 1 := by decide +kernel
theorem hdX11_signs : yX11_signs.cls ≠ "java/lang/invoke/MethodHandle" ∧ yX11_signs.cls ≠ "java/lang/invoke/VarHandle" ∧ (parseMethodDescriptor yX11_signs.desc).map (fun d => d.parameters.length) = some 0 := by decide +kernel
theorem hdX11_soonest : yX11_soonest.cls ≠ "java/lang/invoke/MethodHandle" ∧ yX11_soonest.cls ≠ "java/lang/invoke/VarHandle" ∧ (parseMethodDescriptor yX11_soonest.desc).map (fun d => d.parameters.length) = some 0 := by decide +kernel
theorem hdX11_spare : yX11_spare.cls ≠ "java/lang/invoke/MethodHandle" ∧ yX11_spare.cls ≠ "java/lang/invoke/VarHandle" ∧ (parseMethodDescriptor yX11_spare.desc).map (fun d => d.parameters.length) = some 2 := by decide +kernel
theorem hdX11_stands : yX11_stands.cls ≠ "java/lang/invoke/MethodHandle" ∧ yX11_stands.cls ≠ "java/lang/invoke/VarHandle" ∧ (parseMethodDescriptor yX11_stands.desc).map (fun d => d.parameters.length) = some 0 := by decide +kernel
theorem hdX11_start : yX11_start.cls ≠ "java/lang/invoke/MethodHandle" ∧ yX11_start.cls ≠ "java/lang/invoke/VarHandle" ∧ (parseMethodDescriptor yX11_start.desc).map (fun d => d.parameters.length) = some 1 := by decide +kernel
theorem hdX11_strong : yX11_strong.cls ≠ "java/lang/invoke/MethodHandle" ∧ yX11_strong.cls ≠ "java/lang/invoke/VarHandle" ∧ (parseMethodDescriptor yX11_strong.desc).map (fun d => d.parameters.length) = some 1 := by decide +kernel
theorem hdX11_sure : yX11_sure.cls ≠ "java/lang/invoke/MethodHandle" ∧ yX11_sure.cls ≠ "java/lang/invoke/VarHandle" ∧ (parseMethodDescriptor yX11_sure.desc).map (fun d => d.parameters.length) = some 3 := by decide +kernel
theorem hdX11_swing : yX11_swing.cls ≠ "java/lang/invoke/MethodHandle" ∧ yX11_swing.cls ≠ "java/lang/invoke/VarHandle" ∧ (parseMethodDescriptor yX11_swing.desc).map (fun d => d.parameters.length) = some 2 := by decide +kernel
theorem hdX11_tired : yX11_tired.cls ≠ "java/lang/invoke/MethodHandle" ∧ yX11_tired.cls ≠ "java/lang/invoke/VarHandle" ∧ (parseMethodDescriptor yX11_tired.desc).map (fun d => d.parameters.length) = some 1 := by decide +kernel
theorem hdX11_undo : yX11_undo.cls ≠ "java/lang/invoke/MethodHandle" ∧ yX11_undo.cls ≠ "java/lang/invoke/VarHandle" ∧ (parseMethodDescriptor yX11_undo.desc).map (fun d => d.parameters.length) = some 0 := by decide +kernel
theorem hdX11_veto : yX11_veto.cls ≠ "java/lang/invoke/MethodHandle" ∧ yX11_veto.cls ≠ "java/lang/invoke/VarHandle" ∧ (parseMethodDescriptor yX11_veto.desc).map (fun d => d.parameters.length) = some 1 := by decide +kernel
theorem hdX11_waits : yX11_waits.cls ≠ "java/lang/invoke/MethodHandle" ∧ yX11_waits.cls ≠ "java/lang/invoke/VarHandle" ∧ (parseMethodDescriptor yX11_waits.desc).map (fun d => d.parameters.length) = some 2 := by decide +kernel
theorem hdX11_weak : yX11_weak.cls ≠ "java/lang/invoke/MethodHandle" ∧ yX11_weak.cls ≠ "java/lang/invoke/VarHandle" ∧ (parseMethodDescriptor yX11_weak.desc).map (fun d => d.parameters.length) = some 1 := by decide +kernel
theorem hdX11_worth : yX11_worth.cls ≠ "java/lang/invoke/MethodHandle" ∧ yX11_worth.cls ≠ "java/lang/invoke/VarHandle" ∧ (parseMethodDescriptor yX11_worth.desc).map (fun d => d.parameters.length) = some 2 := by decide +kernel
theorem hdX11_write : yX11_write.cls ≠ "java/lang/invoke/MethodHandle" ∧ yX11_write.cls ≠ "java/lang/invoke/VarHandle" ∧ (parseMethodDescriptor yX11_write.desc).map (fun d => d.parameters.length) = some 3 := by decide +kernel
theorem hdX12_able : yX12_able.cls ≠ "java/lang/invoke/MethodHandle" ∧ yX12_able.cls ≠ "java/lang/invoke/VarHandle" ∧ (parseMethodDescriptor yX12_able.desc).map (fun d => d.parameters.length) = some 0 := by decide +kernel
theorem hdX12_anew : yX12_anew.cls ≠ "java/lang/invoke/MethodHandle" ∧ yX12_anew.cls ≠ "java/lang/invoke/VarHandle" ∧ (parseMethodDescriptor yX12_anew.desc).map (fun d => d.parameters.length) = some 0 := by decide +kernel
theorem hdX12_ask : yX12_ask.cls ≠ "java/lang/invoke/MethodHandle" ∧ yX12_ask.cls ≠ "java/lang/invoke/VarHandle" ∧ (parseMethodDescriptor yX12_ask.desc).map (fun d => d.parameters.length) = some 1 := by decide +kernel
theorem hdX12_back : yX12_back.cls ≠ "java/lang/invoke/MethodHandle" ∧ yX12_back.cls ≠ "java/lang/invoke/VarHandle" ∧ (parseMethodDescriptor yX12_back.desc).map (fun d => d.parameters.length) = some 1 := by decide +kernel
theorem hdX12_bundle : yX12_bundle.cls ≠ "java/lang/invoke/MethodHandle" ∧ yX12_bundle.cls ≠ "java/lang/invoke/VarHandle" ∧ (parseMethodDescriptor yX12_bundle.desc).map (fun d => d.parameters.length) = some 0 := by decide +kernel
theorem hdX12_bundles : yX12_bundles.cls ≠ "java/lang/invoke/MethodHandle" ∧ yX12_bundles.cls ≠ "java/lang/invoke/VarHandle" ∧ (parseMethodDescriptor yX12_bundles.desc).map (fun d => d.parameters.length) = some 0 := by decide +kernel
theorem hdX12_by : yX12_by.cls ≠ "java/lang/invoke/MethodHandle" ∧ yX12_by.cls ≠ "java/lang/invoke/VarHandle" ∧ (parseMethodDescriptor yX12_by.desc).map (fun d => d.parameters.length) = some 2 := by decide +kernel
theorem hdX12_chance : yX12_chance.cls ≠ "java/lang/invoke/MethodHandle" ∧ yX12_chance.cls ≠ "java/lang/invoke/VarHandle" ∧ (parseMethodDescriptor yX12_chance.desc).map (fun d => d.parameters.length) = some 4 := by decide +kernel
theorem hdX12_clause : yX12_clause.cls ≠ "java/lang/invoke/MethodHandle" ∧ yX12_clause.cls ≠ "java/lang/invoke/VarHandle" ∧ (parseMethodDescriptor yX12_clause.desc).map (fun d => d.parameters.length) = some 2 := by decide +kernel
theorem hdX12_count : yX12_count.cls ≠ "java/lang/invoke/MethodHandle" ∧ yX12_count.cls ≠ "java/lang/invoke/VarHandle" ∧ (parseMethodDescriptor yX12_count.desc).map (fun d => d.parameters.length) = some 1 := by decide +kernel
theorem hdX12_cut : yX12_cut.cls ≠ "java/lang/invoke/MethodHandle" ∧ yX12_cut.cls ≠ "java/lang/invoke/VarHandle" ∧ (parseMethodDescriptor yX12_cut.desc).map (fun d => d.parameters.length) = some 2 := by decide +kernel
theorem hdX12_deal : yX12_deal.cls ≠ "java/lang/invoke/MethodHandle" ∧ yX12_deal.cls ≠ "java/lang/invoke/VarHandle" ∧ (parseMethodDescriptor yX12_deal.desc).map (fun d => d.parameters.length) = some 0 := by decide +kernel
theorem hdX12_drawn : yX12_drawn.cls ≠ "java/lang/invoke/MethodHandle" ∧ yX12_drawn.cls ≠ "java/lang/invoke/VarHandle" ∧ (parseMethodDescriptor yX12_drawn.desc).map (fun d => d.parameters.length) = some 3 := by decide +kernel
theorem hdX12_drop : yX12_drop.cls ≠ "java/lang/invoke/MethodHandle" ∧ yX12_drop.cls ≠ "java/lang/invoke/VarHandle" ∧ (parseMethodDescriptor yX12_drop.desc).map (fun d => d.parameters.length) = some 0 := by decide +kernel
theorem hdX12_end : yX12_end.cls ≠ "java/lang/invoke/MethodHandle" ∧ yX12_end.cls ≠ "java/lang/invoke/VarHandle" ∧ (parseMethodDescriptor yX12_end.desc).map (fun d => d.parameters.length) = some 1 := by decide +kernel
theorem hdX12_ends : yX12_ends.cls ≠ "java/lang/invoke/MethodHandle" ∧ yX12_ends.cls ≠ "java/lang/invoke/VarHandle" ∧ (parseMethodDescriptor yX12_ends.desc).map (fun d => d.parameters.length) = some 1 := by decide +kernel
theorem hdX12_even : yX12_even.cls ≠ "java/lang/invoke/MethodHandle" ∧ yX12_even.cls ≠ "java/lang/invoke/VarHandle" ∧ (parseMethodDescriptor yX12_even.desc).map (fun d => d.parameters.length) = some 0 := by decide +kernel
theorem hdX12_fair : yX12_fair.cls ≠ "java/lang/invoke/MethodHandle" ∧ yX12_fair.cls ≠ "java/lang/invoke/VarHandle" ∧ (parseMethodDescriptor yX12_fair.desc).map (fun d => d.parameters.length) = some 0 := by decide +kernel
theorem hdX12_fault : yX12_fault.cls ≠ "java/lang/invoke/MethodHandle" ∧ yX12_fault.cls ≠ "java/lang/invoke/VarHandle" ∧ (parseMethodDescriptor yX12_fault.desc).map (fun d => d.parameters.length) = some 1 := by decide +kernel
theorem hdX12_feed : yX12_feed.cls ≠ "java/lang/invoke/MethodHandle" ∧ yX12_feed.cls ≠ "java/lang/invoke/VarHandle" ∧ (parseMethodDescriptor yX12_feed.desc).map (fun d => d.parameters.length) = some 5 := by decide +kernel
theorem hdX12_firm : yX12_firm.cls ≠ "java/lang/invoke/MethodHandle" ∧ yX12_firm.cls ≠ "java/lang/invoke/VarHandle" ∧ (parseMethodDescriptor yX12_firm.desc).map (fun d => d.parameters.length) = some 0 := by decide +kernel
theorem hdX12_fits : yX12_fits.cls ≠ "java/lang/invoke/MethodHandle" ∧ yX12_fits.cls ≠ "java/lang/invoke/VarHandle" ∧ (parseMethodDescriptor yX12_fits.desc).map (fun d => d.parameters.length) = some 1 := by decide +kernel
theorem hdX12_full : yX12_full.cls ≠ "java/lang/invoke/MethodHandle" ∧ yX12_full.cls ≠ "java/lang/invoke/VarHandle" ∧ (parseMethodDescriptor yX12_full.desc).map (fun d => d.parameters.length) = some 1 := by decide +kernel
theorem hdX12_fulls : yX12_fulls.cls ≠ "java/lang/invoke/MethodHandle" ∧ yX12_fulls.cls ≠ "java/lang/invoke/VarHandle" ∧ (parseMethodDescriptor yX12_fulls.desc).map (fun d => d.parameters.length) = some 1 := by decide +kernel
theorem hdX12_gorge : yX12_gorge.cls ≠ "java/lang/invoke/MethodHandle" ∧ yX12_gorge.cls ≠ "java/lang/invoke/VarHandle" ∧ (parseMethodDescriptor yX12_gorge.desc).map (fun d => d.parameters.length) = some 0 := by decide +kernel
theorem hdX12_grip : yX12_grip.cls ≠ "java/lang/invoke/MethodHandle" ∧ yX12_grip.cls ≠ "java/lang/invoke/VarHandle" ∧ (parseMethodDescriptor yX12_grip.desc).map (fun d => d.parameters.length) = some 2 := by decide +kernel
theorem hdX12_hold : yX12_hold.cls ≠ "java/lang/invoke/MethodHandle" ∧ yX12_hold.cls ≠ "java/lang/invoke/VarHandle" ∧ (parseMethodDescriptor yX12_hold.desc).map (fun d => d.parameters.length) = some 2 := by decide +kernel
theorem hdX12_image : yX12_image.cls ≠ "java/lang/invoke/MethodHandle" ∧ yX12_image.cls ≠ "java/lang/invoke/VarHandle" ∧ (parseMethodDescriptor yX12_image.desc).map (fun d => d.parameters.length) = some 1 := by decide +kernel
theorem hdX12_init : yX12_init.name = "<init>" ∧ yX12_init.cls ≠ "java/lang/invoke/MethodHandle" ∧ yX12_init.cls ≠ "java/lang/invoke/VarHandle" ∧ (parseMethodDescriptor yX12_init.desc).map (fun d => d.parameters.length) = some 0 := by decide +kernel
theorem hdX12_kept : yX12_kept.cls ≠ "java/lang/invoke/MethodHandle" ∧ yX12_kept.cls ≠ "java/lang/invoke/VarHandle" ∧ (parseMethodDescriptor yX12_kept.desc).map (fun d => d.parameters.length) = some 0 := by decide +kernel
theorem hdX12_least : yX12_least.cls ≠ "java/lang/invoke/MethodHandle" ∧ yX12_least.cls ≠ "java/lang/invoke/VarHandle" ∧ (parseMethodDescriptor yX12_least.desc).map (fun d => d.parameters.length) = some 1 := by decide +kernel
theorem hdX12_loners : yX12_loners.cls ≠ "java/lang/invoke/MethodHandle" ∧ yX12_loners.cls ≠ "java/lang/invoke/VarHandle" ∧ (parseMethodDescriptor yX12_loners.desc).map (fun d => d.parameters.length) = some 0 := by decide +kernel
theorem hdX12_longest : yX12_longest.cls ≠ "java/lang/invoke/MethodHandle" ∧ yX12_longest.cls ≠ "java/lang/invoke/VarHandle" ∧ (parseMethodDescriptor yX12_longest.desc).map (fun d => d.parameters.length) = some 0 := by decide +kernel
theorem hdX12_luck : yX12_luck.cls ≠ "java/lang/invoke/MethodHandle" ∧ yX12_luck.cls ≠ "java/lang/invoke/VarHandle" ∧ (parseMethodDescriptor yX12_luck.desc).map (fun d => d.parameters.length) = some 5 := by decide +kernel
theorem hdX12_man : yX12_man.cls ≠ "java/lang/invoke/MethodHandle" ∧ yX12_man.cls ≠ "java/lang/invoke/VarHandle" ∧ (parseMethodDescriptor yX12_man.desc).map (fun d => d.parameters.length) = some 2 := by decide +kernel
theorem hdX12_match : yX12_match.cls ≠ "java/lang/invoke/MethodHandle" ∧ yX12_match.cls ≠ "java/lang/invoke/VarHandle" ∧ (parseMethodDescriptor yX12_match.desc).map (fun d => d.parameters.length) = some 0 := by decide +kernel
theorem hdX12_matched : yX12_matched.cls ≠ "java/lang/invoke/MethodHandle" ∧ yX12_matched.cls ≠ "java/lang/invoke/VarHandle" ∧ (parseMethodDescriptor yX12_matched.desc).map (fun d => d.parameters.length) = some 1 := by decide +kernel
theorem hdX12_mean : yX12_mean.cls ≠ "java/lang/invoke/MethodHandle" ∧ yX12_mean.cls ≠ "java/lang/invoke/VarHandle" ∧ (parseMethodDescriptor yX12_mean.desc).map (fun d => d.parameters.length) = some 3 := by decide +kernel
theorem hdX12_meet : yX12_meet.cls ≠ "java/lang/invoke/MethodHandle" ∧ yX12_meet.cls ≠ "java/lang/invoke/VarHandle" ∧ (parseMethodDescriptor yX12_meet.desc).map (fun d => d.parameters.length) = some 1 := by decide +kernel
theorem hdX12_meetings : yX12_meetings.cls ≠ "java/lang/invoke/MethodHandle" ∧ yX12_meetings.cls ≠ "java/lang/invoke/VarHandle" ∧ (parseMethodDescriptor yX12_meetings.desc).map (fun d => d.parameters.length) = some 1 := by decide +kernel
theorem hdX12_must : yX12_must.cls ≠ "java/lang/invoke/MethodHandle" ∧ yX12_must.cls ≠ "java/lang/invoke/VarHandle" ∧ (parseMethodDescriptor yX12_must.desc).map (fun d => d.parameters.length) = some 1 := by decide +kernel
theorem hdX12_musts : yX12_musts.cls ≠ "java/lang/invoke/MethodHandle" ∧ yX12_musts.cls ≠ "java/lang/invoke/VarHandle" ∧ (parseMethodDescriptor yX12_musts.desc).map (fun d => d.parameters.length) = some 1 := by decide +kernel
theorem hdX12_needs_ : yX12_needs_.cls ≠ "java/lang/invoke/MethodHandle" ∧ yX12_needs_.cls ≠ "java/lang/invoke/VarHandle" ∧ (parseMethodDescriptor yX12_needs_.desc).map (fun d => d.parameters.length) = some 1 := by decide +kernel
theorem hdX12_next : yX12_next.cls ≠ "java/lang/invoke/MethodHandle" ∧ yX12_next.cls ≠ "java/lang/invoke/VarHandle" ∧ (parseMethodDescriptor yX12_next.desc).map (fun d => d.parameters.length) = some 1 := by decide +kernel
theorem hdX12_now : yX12_now.cls ≠ "java/lang/invoke/MethodHandle" ∧ yX12_now.cls ≠ "java/lang/invoke/VarHandle" ∧ (parseMethodDescriptor yX12_now.desc).map (fun d => d.parameters.length) = some 1 := by decide +kernel
theorem hdX12_often : yX12_often.cls ≠ "java/lang/invoke/MethodHandle" ∧ yX12_often.cls ≠ "java/lang/invoke/VarHandle" ∧ (parseMethodDescriptor yX12_often.desc).map (fun d => d.parameters.length) = some 1 := by decide +kernel
theorem hdX12_once : yX12_once.cls ≠ "java/lang/invoke/MethodHandle" ∧ yX12_once.cls ≠ "java/lang/invoke/VarHandle" ∧ (parseMethodDescriptor yX12_once.desc).map (fun d => d.parameters.length) = some 1 := by decide +kernel
theorem hdX12_onces : yX12_onces.cls ≠ "java/lang/invoke/MethodHandle" ∧ yX12_onces.cls ≠ "java/lang/invoke/VarHandle" ∧ (parseMethodDescriptor yX12_onces.desc).map (fun d => d.parameters.length) = some 1 := by decide +kernel
theorem hdX12_order : yX12_order.cls ≠ "java/lang/invoke/MethodHandle" ∧ yX12_order.cls ≠ "java/lang/invoke/VarHandle" ∧ (parseMethodDescriptor yX12_order.desc).map (fun d => d.parameters.length) = some 2 := by decide +kernel
theorem hdX12_out : yX12_out.cls ≠ "java/lang/invoke/MethodHandle" ∧ yX12_out.cls ≠ "java/lang/invoke/VarHandle" ∧ (parseMethodDescriptor yX12_out.desc).map (fun d => d.parameters.length) = some 2 := by decide +kernel
theorem hdX12_pair : yX12_pair.cls ≠ "java/lang/invoke/MethodHandle" ∧ yX12_pair.cls ≠ "java/lang/invoke/VarHandle" ∧ (parseMethodDescriptor yX12_pair.desc).map (fun d => d.parameters.length) = some 0 := by decide +kernel
theorem hdX12_partner : yX12_partner.cls ≠ "java/lang/invoke/MethodHandle" ∧ yX12_partner.cls ≠ "java/lang/invoke/VarHandle" ∧ (parseMethodDescriptor yX12_partner.desc).map (fun d => d.parameters.length) = some 1 := by decide +kernel
theorem hdX12_paste : yX12_paste.cls ≠ "java/lang/invoke/MethodHandle" ∧ yX12_paste.cls ≠ "java/lang/invoke/VarHandle" ∧ (parseMethodDescriptor yX12_paste.desc).map (fun d => d.parameters.length) = some 5 := by decide +kernel
theorem hdX12_push : yX12_push.cls ≠ "java/lang/invoke/MethodHandle" ∧ yX12_push.cls ≠ "java/lang/invoke/VarHandle" ∧ (parseMethodDescriptor yX12_push.desc).map (fun d => d.parameters.length) = some 2 := by decide +kernel
theorem hdX12_pushes : yX12_pushes.cls ≠ "java/lang/invoke/MethodHandle" ∧ yX12_pushes.cls ≠ "java/lang/invoke/VarHandle" ∧ (parseMethodDescriptor yX12_pushes.desc).map (fun d => d.parameters.length) = some 1 := by decide +kernel
theorem hdX12_resin : yX12_resin.cls ≠ "java/lang/invoke/MethodHandle" ∧ yX12_resin.cls ≠ "java/lang/invoke/VarHandle" ∧ (parseMethodDescriptor yX12_resin.desc).map (fun d => d.parameters.length) = some 3 := by decide +kernel
theorem hdX12_rests : yX12_rests.cls ≠ "java/lang/invoke/MethodHandle" ∧ yX12_rests.cls ≠ "java/lang/invoke/VarHandle" ∧ (parseMethodDescriptor yX12_rests.desc).map (fun d => d.parameters.length) = some 2 := by decide +kernel
theorem hdX12_row : yX12_row.cls ≠ "java/lang/invoke/MethodHandle" ∧ yX12_row.cls ≠ "java/lang/invoke/VarHandle" ∧ (parseMethodDescriptor yX12_row.desc).map (fun d => d.parameters.length) = some 3 := by decide +kernel
theorem hdX12_sign : yX12_sign.cls ≠ "java/lang/invoke/MethodHandle" ∧ yX12_sign.cls ≠ "java/lang/invoke/VarHandle" ∧ (parseMethodDescriptor yX12_sign.desc).map (fun d => d.parameters.length) = some 1 := by decide +kernel
theorem hdX12_signs : yX12_signs.cls ≠ "java/lang/invoke/MethodHandle" ∧ yX12_signs.cls ≠ "java/lang/invoke/VarHandle" ∧ (parseMethodDescriptor yX12_signs.desc).map (fun d => d.parameters.length) = some 0 := by decide +kernel
theorem hdX12_soonest : yX12_soonest.cls ≠ "java/lang/invoke/MethodHandle" ∧ yX12_soonest.cls ≠ "java/lang/invoke/VarHandle" ∧ (parseMethodDescriptor yX12_soonest.desc).map (fun d => d.parameters.length) = some 0 := by decide +kernel
theorem hdX12_spare : yX12_spare.cls ≠ "java/lang/invoke/MethodHandle" ∧ yX12_spare.cls ≠ "java/lang/invoke/VarHandle" ∧ (parseMethodDescriptor yX12_spare.desc).map (fun d => d.parameters.length) = some 2 := by decide +kernel
theorem hdX12_stands : yX12_stands.cls ≠ "java/lang/invoke/MethodHandle" ∧ yX12_stands.cls ≠ "java/lang/invoke/VarHandle" ∧ (parseMethodDescriptor yX12_stands.desc).map (fun d => d.parameters.length) = some 0 := by decide +kernel
theorem hdX12_start : yX12_start.cls ≠ "java/lang/invoke/MethodHandle" ∧ yX12_start.cls ≠ "java/lang/invoke/VarHandle" ∧ (parseMethodDescriptor yX12_start.desc).map (fun d => d.parameters.length) = some 1 := by decide +kernel
theorem hdX12_strong : yX12_strong.cls ≠ "java/lang/invoke/MethodHandle" ∧ yX12_strong.cls ≠ "java/lang/invoke/VarHandle" ∧ (parseMethodDescriptor yX12_strong.desc).map (fun d => d.parameters.length) = some 1 := by decide +kernel
theorem hdX12_sure : yX12_sure.cls ≠ "java/lang/invoke/MethodHandle" ∧ yX12_sure.cls ≠ "java/lang/invoke/VarHandle" ∧ (parseMethodDescriptor yX12_sure.desc).map (fun d => d.parameters.length) = some 3 := by decide +kernel
theorem hdX12_swing : yX12_swing.cls ≠ "java/lang/invoke/MethodHandle" ∧ yX12_swing.cls ≠ "java/lang/invoke/VarHandle" ∧ (parseMethodDescriptor yX12_swing.desc).map (fun d => d.parameters.length) = some 2 := by decide +kernel
theorem hdX12_tired : yX12_tired.cls ≠ "java/lang/invoke/MethodHandle" ∧ yX12_tired.cls ≠ "java/lang/invoke/VarHandle" ∧ (parseMethodDescriptor yX12_tired.desc).map (fun d => d.parameters.length) = some 1 := by decide +kernel
theorem hdX12_undo : yX12_undo.cls ≠ "java/lang/invoke/MethodHandle" ∧ yX12_undo.cls ≠ "java/lang/invoke/VarHandle" ∧ (parseMethodDescriptor yX12_undo.desc).map (fun d => d.parameters.length) = some 0 := by decide +kernel
theorem hdX12_veto : yX12_veto.cls ≠ "java/lang/invoke/MethodHandle" ∧ yX12_veto.cls ≠ "java/lang/invoke/VarHandle" ∧ (parseMethodDescriptor yX12_veto.desc).map (fun d => d.parameters.length) = some 1 := by decide +kernel
theorem hdX12_waits : yX12_waits.cls ≠ "java/lang/invoke/MethodHandle" ∧ yX12_waits.cls ≠ "java/lang/invoke/VarHandle" ∧ (parseMethodDescriptor yX12_waits.desc).map (fun d => d.parameters.length) = some 2 := by decide +kernel
theorem hdX12_weak : yX12_weak.cls ≠ "java/lang/invoke/MethodHandle" ∧ yX12_weak.cls ≠ "java/lang/invoke/VarHandle" ∧ (parseMethodDescriptor yX12_weak.desc).map (fun d => d.parameters.length) = some 1 := by decide +kernel
theorem hdX12_worth : yX12_worth.cls ≠ "java/lang/invoke/MethodHandle" ∧ yX12_worth.cls ≠ "java/lang/invoke/VarHandle" ∧ (parseMethodDescriptor yX12_worth.desc).map (fun d => d.parameters.length) = some 2 := by decide +kernel
theorem hdX12_write : yX12_write.cls ≠ "java/lang/invoke/MethodHandle" ∧ yX12_write.cls ≠ "java/lang/invoke/VarHandle" ∧ (parseMethodDescriptor yX12_write.desc).map (fun d => d.parameters.length) = some 3 := by decide +kernel
