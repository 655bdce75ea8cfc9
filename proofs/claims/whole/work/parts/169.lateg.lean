set_option maxRecDepth 20000 in
theorem gL_law_X7_alive : GoodIn lw_tbl (wsV RL 97 RX7 yX7_alive wsX7_alive) := goodIn_app (goodIn_t (fm_c mw_751 (fm_c mw_750 (fm_c mw_749 (fm_c mw_138 ((fun _ h => absurd h List.not_mem_nil)))))) (by decide +kernel)) (goodIn_t win_wsX7_alive (by decide +kernel))
set_option maxRecDepth 20000 in
theorem gL_law_X8_alive : GoodIn lw_tbl (wsV RL 100 RX8 yX8_alive wsX8_alive) := goodIn_app (goodIn_t (fm_c mw_756 (fm_c mw_755 (fm_c mw_754 (fm_c mw_144 ((fun _ h => absurd h List.not_mem_nil)))))) (by decide +kernel)) (goodIn_t win_wsX8_alive (by decide +kernel))
set_option maxRecDepth 20000 in
theorem gL_law_X7_see : GoodIn lw_tbl (wsV RL 101 RX7 yX7_see wsX7_see) := goodIn_app (goodIn_t (fm_c mw_764 (fm_c mw_763 (fm_c mw_762 (fm_c mw_138 ((fun _ h => absurd h List.not_mem_nil)))))) (by decide +kernel)) (goodIn_t win_wsX7_see (by decide +kernel))
set_option maxRecDepth 20000 in
theorem gL_law_X8_see : GoodIn lw_tbl (wsV RL 104 RX8 yX8_see wsX8_see) := goodIn_app (goodIn_t (fm_c mw_768 (fm_c mw_767 (fm_c mw_766 (fm_c mw_144 ((fun _ h => absurd h List.not_mem_nil)))))) (by decide +kernel)) (goodIn_t win_wsX8_see (by decide +kernel))
set_option maxRecDepth 20000 in
theorem gL_law_X7_forget : GoodIn lw_tbl (wsV RL 105 RX7 yX7_forget wsX7_forget) := goodIn_app (goodIn_t (fm_c mw_776 (fm_c mw_775 (fm_c mw_774 (fm_c mw_138 ((fun _ h => absurd h List.not_mem_nil)))))) (by decide +kernel)) (goodIn_t win_wsX7_forget (by decide +kernel))
set_option maxRecDepth 20000 in
theorem gL_law_X8_forget : GoodIn lw_tbl (wsV RL 108 RX8 yX8_forget wsX8_forget) := goodIn_app (goodIn_t (fm_c mw_780 (fm_c mw_779 (fm_c mw_778 (fm_c mw_144 ((fun _ h => absurd h List.not_mem_nil)))))) (by decide +kernel)) (goodIn_t win_wsX8_forget (by decide +kernel))
set_option maxRecDepth 20000 in
theorem gL_law_X7_laws : GoodIn lw_tbl (wsV RL 109 RX7 yX7_laws wsX7_laws) := goodIn_app (goodIn_t (fm_c mw_802 (fm_c mw_801 (fm_c mw_800 (fm_c mw_138 ((fun _ h => absurd h List.not_mem_nil)))))) (by decide +kernel)) (goodIn_t win_wsX7_laws (by decide +kernel))
set_option maxRecDepth 20000 in
theorem gL_law_X8_laws : GoodIn lw_tbl (wsV RL 112 RX8 yX8_laws wsX8_laws) := goodIn_app (goodIn_t (fm_c mw_818 (fm_c mw_817 (fm_c mw_816 (fm_c mw_144 ((fun _ h => absurd h List.not_mem_nil)))))) (by decide +kernel)) (goodIn_t win_wsX8_laws (by decide +kernel))
set_option maxRecDepth 20000 in
theorem gL_law_X7_sure : GoodIn lw_tbl (wsV RL 113 RX7 yX7_sure wsX7_sure) := goodIn_app (goodIn_t (fm_c mw_826 (fm_c mw_825 (fm_c mw_824 (fm_c mw_138 ((fun _ h => absurd h List.not_mem_nil)))))) (by decide +kernel)) (goodIn_t win_wsX7_sure (by decide +kernel))
set_option maxRecDepth 20000 in
theorem gL_law_X8_sure : GoodIn lw_tbl (wsV RL 116 RX8 yX8_sure wsX8_sure) := goodIn_app (goodIn_t (fm_c mw_830 (fm_c mw_829 (fm_c mw_828 (fm_c mw_144 ((fun _ h => absurd h List.not_mem_nil)))))) (by decide +kernel)) (goodIn_t win_wsX8_sure (by decide +kernel))
set_option maxRecDepth 20000 in
theorem gL_law_X7_hear : GoodIn lw_tbl (wsV RL 117 RX7 yX7_hear wsX7_hear) := goodIn_app (goodIn_t (fm_c mw_834 (fm_c mw_833 (fm_c mw_832 (fm_c mw_138 ((fun _ h => absurd h List.not_mem_nil)))))) (by decide +kernel)) (goodIn_t win_wsX7_hear (by decide +kernel))
set_option maxRecDepth 20000 in
theorem gL_law_X8_hear : GoodIn lw_tbl (wsV RL 121 RX8 yX8_hear wsX8_hear) := goodIn_app (goodIn_t (fm_c mw_839 (fm_c mw_838 (fm_c mw_837 (fm_c mw_144 ((fun _ h => absurd h List.not_mem_nil)))))) (by decide +kernel)) (goodIn_t win_wsX8_hear (by decide +kernel))
set_option maxRecDepth 20000 in
theorem gL_law_X7_hush : GoodIn lw_tbl (wsV RL 122 RX7 yX7_hush wsX7_hush) := goodIn_app (goodIn_t (fm_c mw_843 (fm_c mw_842 (fm_c mw_841 (fm_c mw_138 ((fun _ h => absurd h List.not_mem_nil)))))) (by decide +kernel)) (goodIn_t win_wsX7_hush (by decide +kernel))
set_option maxRecDepth 20000 in
theorem gL_law_X8_hush : GoodIn lw_tbl (wsV RL 125 RX8 yX8_hush wsX8_hush) := goodIn_app (goodIn_t (fm_c mw_847 (fm_c mw_846 (fm_c mw_845 (fm_c mw_144 ((fun _ h => absurd h List.not_mem_nil)))))) (by decide +kernel)) (goodIn_t win_wsX8_hush (by decide +kernel))
set_option maxRecDepth 20000 in
theorem gL_law_X7_lair : GoodIn lw_tbl (wsV RL 126 RX7 yX7_lair wsX7_lair) := goodIn_app (goodIn_t (fm_c mw_861 (fm_c mw_860 (fm_c mw_859 (fm_c mw_138 ((fun _ h => absurd h List.not_mem_nil)))))) (by decide +kernel)) (goodIn_t win_wsX7_lair (by decide +kernel))
set_option maxRecDepth 20000 in
theorem gL_law_X8_lair : GoodIn lw_tbl (wsV RL 129 RX8 yX8_lair wsX8_lair) := goodIn_app (goodIn_t (fm_c mw_869 (fm_c mw_868 (fm_c mw_867 (fm_c mw_144 ((fun _ h => absurd h List.not_mem_nil)))))) (by decide +kernel)) (goodIn_t win_wsX8_lair (by decide +kernel))
set_option maxRecDepth 20000 in
theorem gL_law_X7_wall : GoodIn lw_tbl (wsV RL 130 RX7 yX7_wall wsX7_wall) := goodIn_app (goodIn_t (fm_c mw_893 (fm_c mw_892 (fm_c mw_891 (fm_c mw_138 ((fun _ h => absurd h List.not_mem_nil)))))) (by decide +kernel)) (goodIn_t win_wsX7_wall (by decide +kernel))
set_option maxRecDepth 20000 in
theorem gL_law_X8_wall : GoodIn lw_tbl (wsV RL 133 RX8 yX8_wall wsX8_wall) := goodIn_app (goodIn_t (fm_c mw_901 (fm_c mw_900 (fm_c mw_899 (fm_c mw_144 ((fun _ h => absurd h List.not_mem_nil)))))) (by decide +kernel)) (goodIn_t win_wsX8_wall (by decide +kernel))
set_option maxRecDepth 20000 in
theorem gL_law_X7_walk : GoodIn lw_tbl (wsV RL 134 RX7 yX7_walk wsX7_walk) := goodIn_app (goodIn_t (fm_c mw_910 (fm_c mw_909 (fm_c mw_908 (fm_c mw_138 ((fun _ h => absurd h List.not_mem_nil)))))) (by decide +kernel)) (goodIn_t win_wsX7_walk (by decide +kernel))
set_option maxRecDepth 20000 in
theorem gL_law_X8_walk : GoodIn lw_tbl (wsV RL 137 RX8 yX8_walk wsX8_walk) := goodIn_app (goodIn_t (fm_c mw_919 (fm_c mw_918 (fm_c mw_917 (fm_c mw_144 ((fun _ h => absurd h List.not_mem_nil)))))) (by decide +kernel)) (goodIn_t win_wsX8_walk (by decide +kernel))
set_option maxRecDepth 20000 in
theorem gL_law_X7_keep : GoodIn lw_tbl (wsV RL 138 RX7 yX7_keep wsX7_keep) := goodIn_app (goodIn_t (fm_c mw_927 (fm_c mw_926 (fm_c mw_925 (fm_c mw_138 ((fun _ h => absurd h List.not_mem_nil)))))) (by decide +kernel)) (goodIn_t win_wsX7_keep (by decide +kernel))
set_option maxRecDepth 20000 in
theorem gL_law_X8_keep : GoodIn lw_tbl (wsV RL 141 RX8 yX8_keep wsX8_keep) := goodIn_app (goodIn_t (fm_c mw_931 (fm_c mw_930 (fm_c mw_929 (fm_c mw_144 ((fun _ h => absurd h List.not_mem_nil)))))) (by decide +kernel)) (goodIn_t win_wsX8_keep (by decide +kernel))
set_option maxRecDepth 20000 in
theorem gL_law_X7_back : GoodIn lw_tbl (wsV RL 142 RX7 yX7_back wsX7_back) := goodIn_app (goodIn_t (fm_c mw_935 (fm_c mw_934 (fm_c mw_933 (fm_c mw_138 ((fun _ h => absurd h List.not_mem_nil)))))) (by decide +kernel)) (goodIn_t win_wsX7_back (by decide +kernel))
set_option maxRecDepth 20000 in
theorem gL_law_X8_back : GoodIn lw_tbl (wsV RL 145 RX8 yX8_back wsX8_back) := goodIn_app (goodIn_t (fm_c mw_939 (fm_c mw_938 (fm_c mw_937 (fm_c mw_144 ((fun _ h => absurd h List.not_mem_nil)))))) (by decide +kernel)) (goodIn_t win_wsX8_back (by decide +kernel))
set_option maxRecDepth 20000 in
theorem gL_law_X7_sheet : GoodIn lw_tbl (wsV RL 146 RX7 yX7_sheet wsX7_sheet) := goodIn_app (goodIn_t (fm_c mw_958 (fm_c mw_957 (fm_c mw_956 (fm_c mw_138 ((fun _ h => absurd h List.not_mem_nil)))))) (by decide +kernel)) (goodIn_t win_wsX7_sheet (by decide +kernel))
set_option maxRecDepth 20000 in
theorem gL_law_X8_sheet : GoodIn lw_tbl (wsV RL 149 RX8 yX8_sheet wsX8_sheet) := goodIn_app (goodIn_t (fm_c mw_962 (fm_c mw_961 (fm_c mw_960 (fm_c mw_144 ((fun _ h => absurd h List.not_mem_nil)))))) (by decide +kernel)) (goodIn_t win_wsX8_sheet (by decide +kernel))
set_option maxRecDepth 20000 in
theorem gL_law_X7_lay : GoodIn lw_tbl (wsV RL 150 RX7 yX7_lay wsX7_lay) := goodIn_app (goodIn_t (fm_c mw_975 (fm_c mw_974 (fm_c mw_973 (fm_c mw_138 ((fun _ h => absurd h List.not_mem_nil)))))) (by decide +kernel)) (goodIn_t win_wsX7_lay (by decide +kernel))
set_option maxRecDepth 20000 in
theorem gL_law_X8_lay : GoodIn lw_tbl (wsV RL 153 RX8 yX8_lay wsX8_lay) := goodIn_app (goodIn_t (fm_c mw_979 (fm_c mw_978 (fm_c mw_977 (fm_c mw_144 ((fun _ h => absurd h List.not_mem_nil)))))) (by decide +kernel)) (goodIn_t win_wsX8_lay (by decide +kernel))
set_option maxRecDepth 20000 in
theorem gL_law_X7_read : GoodIn lw_tbl (wsV RL 154 RX7 yX7_read wsX7_read) := goodIn_app (goodIn_t (fm_c mw_984 (fm_c mw_983 (fm_c mw_982 (fm_c mw_138 ((fun _ h => absurd h List.not_mem_nil)))))) (by decide +kernel)) (goodIn_t win_wsX7_read (by decide +kernel))
set_option maxRecDepth 20000 in
theorem gL_law_X8_read : GoodIn lw_tbl (wsV RL 158 RX8 yX8_read wsX8_read) := goodIn_app (goodIn_t (fm_c mw_990 (fm_c mw_989 (fm_c mw_988 (fm_c mw_144 ((fun _ h => absurd h List.not_mem_nil)))))) (by decide +kernel)) (goodIn_t win_wsX8_read (by decide +kernel))
set_option maxRecDepth 20000 in
theorem gL_law_X7_torn : GoodIn lw_tbl (wsV RL 159 RX7 yX7_torn wsX7_torn) := goodIn_app (goodIn_t (fm_c mw_994 (fm_c mw_993 (fm_c mw_992 (fm_c mw_138 ((fun _ h => absurd h List.not_mem_nil)))))) (by decide +kernel)) (goodIn_t win_wsX7_torn (by decide +kernel))
set_option maxRecDepth 20000 in
theorem gL_law_X8_torn : GoodIn lw_tbl (wsV RL 162 RX8 yX8_torn wsX8_torn) := goodIn_app (goodIn_t (fm_c mw_998 (fm_c mw_997 (fm_c mw_996 (fm_c mw_144 ((fun _ h => absurd h List.not_mem_nil)))))) (by decide +kernel)) (goodIn_t win_wsX8_torn (by decide +kernel))
set_option maxRecDepth 20000 in
theorem gL_law_X7_count : GoodIn lw_tbl (wsV RL 163 RX7 yX7_count wsX7_count) := goodIn_app (goodIn_t (fm_c mw_1003 (fm_c mw_1002 (fm_c mw_1001 (fm_c mw_138 ((fun _ h => absurd h List.not_mem_nil)))))) (by decide +kernel)) (goodIn_t win_wsX7_count (by decide +kernel))
set_option maxRecDepth 20000 in
theorem gL_law_X8_count : GoodIn lw_tbl (wsV RL 166 RX8 yX8_count wsX8_count) := goodIn_app (goodIn_t (fm_c mw_1007 (fm_c mw_1006 (fm_c mw_1005 (fm_c mw_144 ((fun _ h => absurd h List.not_mem_nil)))))) (by decide +kernel)) (goodIn_t win_wsX8_count (by decide +kernel))
