theorem jX12_asksOnce_31 : dm_jump qX12_asksOnce 31 = kX12_asksOnce_31 := by rfl
theorem jX12_asksOnce_38 : dm_jump qX12_asksOnce 38 = kX12_asksOnce_38 := by rfl
theorem jX12_asksOnce_95 : dm_jump qX12_asksOnce 95 = kX12_asksOnce_95 := by rfl
theorem jX12_asksOnce_99 : dm_jump qX12_asksOnce 99 = kX12_asksOnce_99 := by rfl
theorem jX12_asksOnce_100 : dm_jump qX12_asksOnce 100 = kX12_asksOnce_100 := by rfl
theorem jX12_asksOnce_125 : dm_jump qX12_asksOnce 125 = kX12_asksOnce_125 := by rfl
theorem jX12_findMatch_2 : dm_jump qX12_findMatch 2 = kX12_findMatch_2 := by rfl
theorem jX12_findMatch_26 : dm_jump qX12_findMatch 26 = kX12_findMatch_26 := by rfl
theorem jX12_findMatch_57 : dm_jump qX12_findMatch 57 = kX12_findMatch_57 := by rfl
theorem jX12_findMatch_63 : dm_jump qX12_findMatch 63 = kX12_findMatch_63 := by rfl
theorem jX12_findMatch_65 : dm_jump qX12_findMatch 65 = kX12_findMatch_65 := by rfl
theorem jX12_findMatch_73 : dm_jump qX12_findMatch 73 = kX12_findMatch_73 := by rfl
theorem jX12_findMatch_93 : dm_jump qX12_findMatch 93 = kX12_findMatch_93 := by rfl
theorem jX12_findMatch_97 : dm_jump qX12_findMatch 97 = kX12_findMatch_97 := by rfl
theorem jX12_findMatch_98 : dm_jump qX12_findMatch 98 = kX12_findMatch_98 := by rfl
theorem jX12_findMatch_105 : dm_jump qX12_findMatch 105 = kX12_findMatch_105 := by rfl
theorem jX12_findMatch_108 : dm_jump qX12_findMatch 108 = kX12_findMatch_108 := by rfl
theorem jX12_match_16 : dm_jump qX12_match 16 = kX12_match_16 := by rfl
theorem jX12_spare_26 : dm_jump qX12_spare 26 = kX12_spare_26 := by rfl
theorem jX12_spare_28 : dm_jump qX12_spare 28 = kX12_spare_28 := by rfl
theorem jX12_spare_50 : dm_jump qX12_spare 50 = kX12_spare_50 := by rfl
theorem jX12_spare_52 : dm_jump qX12_spare 52 = kX12_spare_52 := by rfl
theorem jX12_spare_91 : dm_jump qX12_spare 91 = kX12_spare_91 := by rfl
theorem jX12_spare_92 : dm_jump qX12_spare 92 = kX12_spare_92 := by rfl
theorem jX12_spare_132 : dm_jump qX12_spare 132 = kX12_spare_132 := by rfl
theorem jX12_spare_133 : dm_jump qX12_spare 133 = kX12_spare_133 := by rfl
theorem jX12_spare_148 : dm_jump qX12_spare 148 = kX12_spare_148 := by rfl
theorem jX12_spare_149 : dm_jump qX12_spare 149 = kX12_spare_149 := by rfl
theorem jX12_choose_5 : dm_jump qX12_choose 5 = kX12_choose_5 := by rfl
theorem jX12_choose_31 : dm_jump qX12_choose 31 = kX12_choose_31 := by rfl
theorem jX12_choose_40 : dm_jump qX12_choose 40 = kX12_choose_40 := by rfl
theorem jX12_choose_44 : dm_jump qX12_choose 44 = kX12_choose_44 := by rfl
theorem jX12_choose_45 : dm_jump qX12_choose 45 = kX12_choose_45 := by rfl
theorem jX12_sampled_43 : dm_jump qX12_sampled 43 = kX12_sampled_43 := by rfl
theorem jX12_sampled_45 : dm_jump qX12_sampled 45 = kX12_sampled_45 := by rfl
theorem jX12_sampled_52 : dm_jump qX12_sampled 52 = kX12_sampled_52 := by rfl
theorem jX12_sampled_86 : dm_jump qX12_sampled 86 = kX12_sampled_86 := by rfl
theorem jX12_haunted_13 : dm_jump qX12_haunted 13 = kX12_haunted_13 := by rfl
theorem jX12_haunted_39 : dm_jump qX12_haunted 39 = kX12_haunted_39 := by rfl
theorem jX12_haunted_53 : dm_jump qX12_haunted 53 = kX12_haunted_53 := by rfl
theorem jX12_bits_4 : dm_jump qX12_bits 4 = kX12_bits_4 := by rfl
theorem jX12_bits_24 : dm_jump qX12_bits 24 = kX12_bits_24 := by rfl
theorem jX12_haunt_43 : dm_jump qX12_haunt 43 = kX12_haunt_43 := by rfl
theorem jX12_haunt_45 : dm_jump qX12_haunt 45 = kX12_haunt_45 := by rfl
theorem jX12_haunt_54 : dm_jump qX12_haunt 54 = kX12_haunt_54 := by rfl
theorem jX12_haunt_82 : dm_jump qX12_haunt 82 = kX12_haunt_82 := by rfl
theorem jX12_haunt_83 : dm_jump qX12_haunt 83 = kX12_haunt_83 := by rfl
theorem jX12_haunt_97 : dm_jump qX12_haunt 97 = kX12_haunt_97 := by rfl
theorem jX12_haunt_99 : dm_jump qX12_haunt 99 = kX12_haunt_99 := by rfl
theorem jX12_haunt_113 : dm_jump qX12_haunt 113 = kX12_haunt_113 := by rfl
theorem jX12_haunt_115 : dm_jump qX12_haunt 115 = kX12_haunt_115 := by rfl
theorem jX12_haunt_123 : dm_jump qX12_haunt 123 = kX12_haunt_123 := by rfl
theorem jX12_haunt_133 : dm_jump qX12_haunt 133 = kX12_haunt_133 := by rfl
theorem jX12_haunt_135 : dm_jump qX12_haunt 135 = kX12_haunt_135 := by rfl
theorem jX12_areBothIn_27 : dm_jump qX12_areBothIn 27 = kX12_areBothIn_27 := by rfl
theorem jX12_areBothIn_28 : dm_jump qX12_areBothIn 28 = kX12_areBothIn_28 := by rfl
theorem jX12_savedBy_76 : dm_jump qX12_savedBy 76 = kX12_savedBy_76 := by rfl
theorem jX12_savedBy_78 : dm_jump qX12_savedBy 78 = kX12_savedBy_78 := by rfl
theorem jX12_lease_14 : dm_jump qX12_lease 14 = kX12_lease_14 := by rfl
theorem jX12_lease_15 : dm_jump qX12_lease 15 = kX12_lease_15 := by rfl
theorem jX12_lease_29 : dm_jump qX12_lease 29 = kX12_lease_29 := by rfl
theorem jX12_lease_35 : dm_jump qX12_lease 35 = kX12_lease_35 := by rfl
theorem jX12_share_14 : dm_jump qX12_share 14 = kX12_share_14 := by rfl
theorem jX12_share_15 : dm_jump qX12_share 15 = kX12_share_15 := by rfl
theorem jX12_share_29 : dm_jump qX12_share 29 = kX12_share_29 := by rfl
theorem jX12_share_44 : dm_jump qX12_share 44 = kX12_share_44 := by rfl
theorem jX12_law_26 : dm_jump qX12_law 26 = kX12_law_26 := by rfl
theorem jX12_law_28 : dm_jump qX12_law 28 = kX12_law_28 := by rfl
theorem jX12_law_40 : dm_jump qX12_law 40 = kX12_law_40 := by rfl
theorem jX12_law_75 : dm_jump qX12_law 75 = kX12_law_75 := by rfl
theorem jX12_law_85 : dm_jump qX12_law 85 = kX12_law_85 := by rfl
theorem jX12_law_92 : dm_jump qX12_law 92 = kX12_law_92 := by rfl
theorem jX12_law_99 : dm_jump qX12_law 99 = kX12_law_99 := by rfl
theorem jX12_law_118 : dm_jump qX12_law 118 = kX12_law_118 := by rfl
theorem jX12_law_141 : dm_jump qX12_law 141 = kX12_law_141 := by rfl
theorem jX12_law_180 : dm_jump qX12_law 180 = kX12_law_180 := by rfl
theorem jX12_law_181 : dm_jump qX12_law 181 = kX12_law_181 := by rfl
theorem jX12_law_189 : dm_jump qX12_law 189 = kX12_law_189 := by rfl
theorem jX12_sample_37 : dm_jump qX12_sample 37 = kX12_sample_37 := by rfl
theorem jX12_sample_39 : dm_jump qX12_sample 39 = kX12_sample_39 := by rfl
theorem jX12_laysDay_13 : dm_jump qX12_laysDay 13 = kX12_laysDay_13 := by rfl
theorem jX12_laysDay_56 : dm_jump qX12_laysDay 56 = kX12_laysDay_56 := by rfl
theorem jX12_laysDay_61 : dm_jump qX12_laysDay 61 = kX12_laysDay_61 := by rfl
theorem jX12_laysDay_79 : dm_jump qX12_laysDay 79 = kX12_laysDay_79 := by rfl
theorem jX12_laysDay_80 : dm_jump qX12_laysDay 80 = kX12_laysDay_80 := by rfl
theorem jX12_laysDay_94 : dm_jump qX12_laysDay 94 = kX12_laysDay_94 := by rfl
theorem jX12_laysDay_95 : dm_jump qX12_laysDay 95 = kX12_laysDay_95 := by rfl
theorem jX12_laysDay_127 : dm_jump qX12_laysDay 127 = kX12_laysDay_127 := by rfl
theorem jX12_laysDay_129 : dm_jump qX12_laysDay 129 = kX12_laysDay_129 := by rfl
theorem jX12_laysDay_143 : dm_jump qX12_laysDay 143 = kX12_laysDay_143 := by rfl
theorem jX12_findDays_12 : dm_jump qX12_findDays 12 = kX12_findDays_12 := by rfl
theorem jX12_findDays_32 : dm_jump qX12_findDays 32 = kX12_findDays_32 := by rfl
theorem jX12_findDays_34 : dm_jump qX12_findDays 34 = kX12_findDays_34 := by rfl
theorem jX12_findDays_52 : dm_jump qX12_findDays 52 = kX12_findDays_52 := by rfl
theorem jX12_findDays_106 : dm_jump qX12_findDays 106 = kX12_findDays_106 := by rfl
theorem jX12_findDays_107 : dm_jump qX12_findDays 107 = kX12_findDays_107 := by rfl
theorem jX12_findDays_114 : dm_jump qX12_findDays 114 = kX12_findDays_114 := by rfl
theorem jX12_findDays_130 : dm_jump qX12_findDays 130 = kX12_findDays_130 := by rfl
theorem jX12_findDays_134 : dm_jump qX12_findDays 134 = kX12_findDays_134 := by rfl
theorem jX12_findDays_150 : dm_jump qX12_findDays 150 = kX12_findDays_150 := by rfl
theorem jX12_findDays_186 : dm_jump qX12_findDays 186 = kX12_findDays_186 := by rfl
theorem jX12_findDays_192 : dm_jump qX12_findDays 192 = kX12_findDays_192 := by rfl
theorem jX12_days_15 : dm_jump qX12_days 15 = kX12_days_15 := by rfl
theorem jX12_did_22 : dm_jump qX12_did 22 = kX12_did_22 := by rfl
theorem jX12_did_24 : dm_jump qX12_did 24 = kX12_did_24 := by rfl
theorem jX12_did_37 : dm_jump qX12_did 37 = kX12_did_37 := by rfl
theorem jX12_did_53 : dm_jump qX12_did 53 = kX12_did_53 := by rfl
theorem jX12_did_64 : dm_jump qX12_did 64 = kX12_did_64 := by rfl
theorem jX12_did_67 : dm_jump qX12_did 67 = kX12_did_67 := by rfl
theorem jX12_next_15 : dm_jump qX12_next 15 = kX12_next_15 := by rfl
theorem jX12_next_30 : dm_jump qX12_next 30 = kX12_next_30 := by rfl
theorem jX12_next_43 : dm_jump qX12_next 43 = kX12_next_43 := by rfl
theorem jX12_next_87 : dm_jump qX12_next 87 = kX12_next_87 := by rfl
theorem jX12_next_89 : dm_jump qX12_next 89 = kX12_next_89 := by rfl
theorem jX12_next_97 : dm_jump qX12_next 97 = kX12_next_97 := by rfl
theorem jX12_next_108 : dm_jump qX12_next 108 = kX12_next_108 := by rfl
theorem jX12_next_109 : dm_jump qX12_next 109 = kX12_next_109 := by rfl
theorem jX12_next_121 : dm_jump qX12_next 121 = kX12_next_121 := by rfl
theorem jX12_next_122 : dm_jump qX12_next 122 = kX12_next_122 := by rfl
theorem jX12_next_129 : dm_jump qX12_next 129 = kX12_next_129 := by rfl
theorem jX12_drawsActs_2 : dm_jump qX12_drawsActs 2 = kX12_drawsActs_2 := by rfl
theorem jX12_drawsActs_30 : dm_jump qX12_drawsActs 30 = kX12_drawsActs_30 := by rfl
theorem jX12_drawsActs_31 : dm_jump qX12_drawsActs 31 = kX12_drawsActs_31 := by rfl
theorem jX12_drawsActs_47 : dm_jump qX12_drawsActs 47 = kX12_drawsActs_47 := by rfl
theorem jX12_drawsActs_65 : dm_jump qX12_drawsActs 65 = kX12_drawsActs_65 := by rfl
theorem jX12_drawsActs_86 : dm_jump qX12_drawsActs 86 = kX12_drawsActs_86 := by rfl
theorem jX12_drawsActs_92 : dm_jump qX12_drawsActs 92 = kX12_drawsActs_92 := by rfl
theorem jX12_inMany_4 : dm_jump qX12_inMany 4 = kX12_inMany_4 := by rfl
theorem jX12_inMany_26 : dm_jump qX12_inMany 26 = kX12_inMany_26 := by rfl
theorem jX12_inMany_27 : dm_jump qX12_inMany 27 = kX12_inMany_27 := by rfl
theorem jX12_inMany_35 : dm_jump qX12_inMany 35 = kX12_inMany_35 := by rfl
theorem jX12_years_35 : dm_jump qX12_years 35 = kX12_years_35 := by rfl
theorem jX12_years_37 : dm_jump qX12_years 37 = kX12_years_37 := by rfl
theorem jX12_years_62 : dm_jump qX12_years 62 = kX12_years_62 := by rfl
theorem jX12_years_75 : dm_jump qX12_years 75 = kX12_years_75 := by rfl
theorem jX12_years_100 : dm_jump qX12_years 100 = kX12_years_100 := by rfl
theorem jX12_years_118 : dm_jump qX12_years 118 = kX12_years_118 := by rfl
theorem jX12_years_127 : dm_jump qX12_years 127 = kX12_years_127 := by rfl
theorem jX12_years_142 : dm_jump qX12_years 142 = kX12_years_142 := by rfl
theorem jX12_years_144 : dm_jump qX12_years 144 = kX12_years_144 := by rfl
theorem jX12_mark_27 : dm_jump qX12_mark 27 = kX12_mark_27 := by rfl
theorem jX12_mark_29 : dm_jump qX12_mark 29 = kX12_mark_29 := by rfl
theorem jX12_mark_50 : dm_jump qX12_mark 50 = kX12_mark_50 := by rfl
theorem jX12_mark_51 : dm_jump qX12_mark 51 = kX12_mark_51 := by rfl
theorem jX12_mark_59 : dm_jump qX12_mark 59 = kX12_mark_59 := by rfl
theorem jX12_mark_65 : dm_jump qX12_mark 65 = kX12_mark_65 := by rfl
theorem jX12_mark_79 : dm_jump qX12_mark 79 = kX12_mark_79 := by rfl
theorem jX12_mark_83 : dm_jump qX12_mark 83 = kX12_mark_83 := by rfl
theorem jX12_coinsOfAll_4 : dm_jump qX12_coinsOfAll 4 = kX12_coinsOfAll_4 := by rfl
theorem jX12_coinsOfAll_30 : dm_jump qX12_coinsOfAll 30 = kX12_coinsOfAll_30 := by rfl
theorem jX12_count_72 : dm_jump qX12_count 72 = kX12_count_72 := by rfl
theorem jX12_count_77 : dm_jump qX12_count 77 = kX12_count_77 := by rfl
theorem jX12_count_82 : dm_jump qX12_count 82 = kX12_count_82 := by rfl
theorem jX12_count_87 : dm_jump qX12_count 87 = kX12_count_87 := by rfl
theorem jX12_count_94 : dm_jump qX12_count 94 = kX12_count_94 := by rfl
theorem jX12_count_99 : dm_jump qX12_count 99 = kX12_count_99 := by rfl
theorem jX12_count_105 : dm_jump qX12_count 105 = kX12_count_105 := by rfl
theorem jX12_count_111 : dm_jump qX12_count 111 = kX12_count_111 := by rfl
theorem jX12_count_118 : dm_jump qX12_count 118 = kX12_count_118 := by rfl
theorem jX12_count_125 : dm_jump qX12_count 125 = kX12_count_125 := by rfl
theorem jX12_count_132 : dm_jump qX12_count 132 = kX12_count_132 := by rfl
theorem jX12_count_140 : dm_jump qX12_count 140 = kX12_count_140 := by rfl
theorem jX12_count_145 : dm_jump qX12_count 145 = kX12_count_145 := by rfl
theorem jX12_count_150 : dm_jump qX12_count 150 = kX12_count_150 := by rfl
theorem jJ0_indexOf_7cf53_23 : dm_jump qJ0_indexOf_7cf53 23 = kJ0_indexOf_7cf53_23 := by rfl
theorem jJ0_indexOf_7cf53_36 : dm_jump qJ0_indexOf_7cf53 36 = kJ0_indexOf_7cf53_36 := by rfl
theorem jJ0_coder_7d493_13 : dm_jump qJ0_coder_7d493 13 = kJ0_coder_7d493_13 := by rfl
theorem jJ0_coder_7d493_14 : dm_jump qJ0_coder_7d493 14 = kJ0_coder_7d493_14 := by rfl
theorem jJ0_isLatin1_aae02_17 : dm_jump qJ0_isLatin1_aae02 17 = kJ0_isLatin1_aae02_17 := by rfl
theorem jJ0_isLatin1_aae02_18 : dm_jump qJ0_isLatin1_aae02 18 = kJ0_isLatin1_aae02_18 := by rfl
theorem jJ1_canEncode_9a6ad_15 : dm_jump qJ1_canEncode_9a6ad 15 = kJ1_canEncode_9a6ad_15 := by rfl
theorem jJ1_canEncode_9a6ad_16 : dm_jump qJ1_canEncode_9a6ad 16 = kJ1_canEncode_9a6ad_16 := by rfl
theorem jJ1_indexOf_4cfef_9 : dm_jump qJ1_indexOf_4cfef 9 = kJ1_indexOf_4cfef_9 := by rfl
theorem jJ1_indexOf_4cfef_29 : dm_jump qJ1_indexOf_4cfef 29 = kJ1_indexOf_4cfef_29 := by rfl
theorem jJ1_indexOfChar_4cfef_7 : dm_jump qJ1_indexOfChar_4cfef 7 = kJ1_indexOfChar_4cfef_7 := by rfl
theorem jJ1_indexOfChar_4cfef_25 : dm_jump qJ1_indexOfChar_4cfef 25 = kJ1_indexOfChar_4cfef_25 := by rfl
theorem jJ1_indexOfChar_4cfef_31 : dm_jump qJ1_indexOfChar_4cfef 31 = kJ1_indexOfChar_4cfef_31 := by rfl
theorem jJ7_fill_53178_5 : dm_jump qJ7_fill_53178 5 = kJ7_fill_53178_5 := by rfl
theorem jJ7_fill_53178_20 : dm_jump qJ7_fill_53178 20 = kJ7_fill_53178_20 := by rfl
set_option maxRecDepth 100000 in
theorem jL_law_23 : dm_jump qL_law 23 = kL_law_23 := by rfl
set_option maxRecDepth 100000 in
theorem jL_law_184 : dm_jump qL_law 184 = kL_law_184 := by rfl
set_option maxRecDepth 100000 in
theorem jL_law_331 : dm_jump qL_law 331 = kL_law_331 := by rfl
set_option maxRecDepth 100000 in
theorem jL_law_344 : dm_jump qL_law 344 = kL_law_344 := by rfl
set_option maxRecDepth 100000 in
theorem jL_law_357 : dm_jump qL_law 357 = kL_law_357 := by rfl
set_option maxRecDepth 100000 in
theorem jL_law_394 : dm_jump qL_law 394 = kL_law_394 := by rfl
set_option maxRecDepth 100000 in
theorem jL_law_431 : dm_jump qL_law 431 = kL_law_431 := by rfl
set_option maxRecDepth 100000 in
theorem jL_law_456 : dm_jump qL_law 456 = kL_law_456 := by rfl
set_option maxRecDepth 100000 in
theorem jL_law_481 : dm_jump qL_law 481 = kL_law_481 := by rfl
set_option maxRecDepth 100000 in
theorem jL_law_518 : dm_jump qL_law 518 = kL_law_518 := by rfl
set_option maxRecDepth 100000 in
theorem jL_law_543 : dm_jump qL_law 543 = kL_law_543 := by rfl
set_option maxRecDepth 100000 in
theorem jL_law_568 : dm_jump qL_law 568 = kL_law_568 := by rfl
set_option maxRecDepth 100000 in
theorem jL_law_581 : dm_jump qL_law 581 = kL_law_581 := by rfl
set_option maxRecDepth 100000 in
theorem jL_law_618 : dm_jump qL_law 618 = kL_law_618 := by rfl
set_option maxRecDepth 100000 in
theorem jL_law_631 : dm_jump qL_law 631 = kL_law_631 := by rfl
set_option maxRecDepth 100000 in
theorem jL_law_656 : dm_jump qL_law 656 = kL_law_656 := by rfl
set_option maxRecDepth 100000 in
theorem jL_law_681 : dm_jump qL_law 681 = kL_law_681 := by rfl
set_option maxRecDepth 100000 in
theorem jL_law_718 : dm_jump qL_law 718 = kL_law_718 := by rfl
set_option maxRecDepth 100000 in
theorem jL_law_755 : dm_jump qL_law 755 = kL_law_755 := by rfl
set_option maxRecDepth 100000 in
theorem jL_law_792 : dm_jump qL_law 792 = kL_law_792 := by rfl
set_option maxRecDepth 100000 in
theorem jL_law_817 : dm_jump qL_law 817 = kL_law_817 := by rfl
set_option maxRecDepth 100000 in
theorem jL_law_854 : dm_jump qL_law 854 = kL_law_854 := by rfl
set_option maxRecDepth 100000 in
theorem jL_law_915 : dm_jump qL_law 915 = kL_law_915 := by rfl
set_option maxRecDepth 100000 in
theorem jL_law_976 : dm_jump qL_law 976 = kL_law_976 := by rfl
set_option maxRecDepth 100000 in
theorem jL_law_1024 : dm_jump qL_law 1024 = kL_law_1024 := by rfl
set_option maxRecDepth 100000 in
theorem jL_law_1041 : dm_jump qL_law 1041 = kL_law_1041 := by rfl
set_option maxRecDepth 100000 in
theorem jL_law_1044 : dm_jump qL_law 1044 = kL_law_1044 := by rfl
set_option maxRecDepth 100000 in
theorem jL_law_1092 : dm_jump qL_law 1092 = kL_law_1092 := by rfl
set_option maxRecDepth 100000 in
theorem jL_law_1109 : dm_jump qL_law 1109 = kL_law_1109 := by rfl
set_option maxRecDepth 100000 in
theorem jL_law_1112 : dm_jump qL_law 1112 = kL_law_1112 := by rfl
set_option maxRecDepth 100000 in
theorem jL_law_1149 : dm_jump qL_law 1149 = kL_law_1149 := by rfl
set_option maxRecDepth 100000 in
theorem jL_law_1186 : dm_jump qL_law 1186 = kL_law_1186 := by rfl
set_option maxRecDepth 100000 in
theorem jL_law_1211 : dm_jump qL_law 1211 = kL_law_1211 := by rfl
set_option maxRecDepth 100000 in
theorem jL_law_1248 : dm_jump qL_law 1248 = kL_law_1248 := by rfl
set_option maxRecDepth 100000 in
theorem jL_law_1273 : dm_jump qL_law 1273 = kL_law_1273 := by rfl
set_option maxRecDepth 100000 in
theorem jL_law_1322 : dm_jump qL_law 1322 = kL_law_1322 := by rfl
set_option maxRecDepth 100000 in
theorem jL_law_1342 : dm_jump qL_law 1342 = kL_law_1342 := by rfl
set_option maxRecDepth 100000 in
theorem jL_law_1343 : dm_jump qL_law 1343 = kL_law_1343 := by rfl
set_option maxRecDepth 100000 in
theorem jL_law_1366 : dm_jump qL_law 1366 = kL_law_1366 := by rfl
set_option maxRecDepth 100000 in
theorem jL_law_1367 : dm_jump qL_law 1367 = kL_law_1367 := by rfl
set_option maxRecDepth 100000 in
theorem jL_law_1375 : dm_jump qL_law 1375 = kL_law_1375 := by rfl
set_option maxRecDepth 100000 in
theorem jL_law_1400 : dm_jump qL_law 1400 = kL_law_1400 := by rfl
set_option maxRecDepth 100000 in
theorem jL_law_1406 : dm_jump qL_law 1406 = kL_law_1406 := by rfl
