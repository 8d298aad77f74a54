set_option maxRecDepth 20000 in
theorem lk_RL_7 : Cond.classLink RL 7 RX4 ∈ wsL_law := List.mem_of_getElem? (i := 0) (by decide +kernel)
set_option maxRecDepth 20000 in
theorem lk_RL_10 : Cond.classLink RL 10 RX5 ∈ wsL_law := List.mem_of_getElem? (i := 3) (by decide +kernel)
set_option maxRecDepth 20000 in
theorem lk_RL_9 : Cond.methodLink RL 9 yX4_init ∈ wsL_law := List.mem_of_getElem? (i := 6) (by decide +kernel)
set_option maxRecDepth 20000 in
theorem lk_RL_12 : Cond.methodLink RL 12 yX5_init ∈ wsL_law := List.mem_of_getElem? (i := 92) (by decide +kernel)
set_option maxRecDepth 20000 in
theorem lk_RL_13 : Cond.methodLink RL 13 yX4_reset ∈ wsL_law := List.mem_of_getElem? (i := 133) (by decide +kernel)
set_option maxRecDepth 20000 in
theorem lk_RL_17 : Cond.methodLink RL 17 yX5_reset ∈ wsL_law := List.mem_of_getElem? (i := 142) (by decide +kernel)
set_option maxRecDepth 20000 in
theorem lk_RL_18 : Cond.methodLink RL 18 yX4_setReference ∈ wsL_law := List.mem_of_getElem? (i := 150) (by decide +kernel)
set_option maxRecDepth 20000 in
theorem lk_RL_22 : Cond.methodLink RL 22 yX5_setReference ∈ wsL_law := List.mem_of_getElem? (i := 163) (by decide +kernel)
set_option maxRecDepth 20000 in
theorem lk_RL_23 : Cond.methodLink RL 23 yX4_setGain ∈ wsL_law := List.mem_of_getElem? (i := 172) (by decide +kernel)
set_option maxRecDepth 20000 in
theorem lk_RL_26 : Cond.methodLink RL 26 yX5_setGain ∈ wsL_law := List.mem_of_getElem? (i := 181) (by decide +kernel)
set_option maxRecDepth 20000 in
theorem lk_RL_27 : Cond.methodLink RL 27 yX4_setSmoothing ∈ wsL_law := List.mem_of_getElem? (i := 185) (by decide +kernel)
set_option maxRecDepth 20000 in
theorem lk_RL_30 : Cond.methodLink RL 30 yX5_setSmoothing ∈ wsL_law := List.mem_of_getElem? (i := 191) (by decide +kernel)
set_option maxRecDepth 20000 in
theorem lk_RL_31 : Cond.methodLink RL 31 yX4_setLimits ∈ wsL_law := List.mem_of_getElem? (i := 195) (by decide +kernel)
set_option maxRecDepth 20000 in
theorem lk_RL_34 : Cond.methodLink RL 34 yX5_setLimits ∈ wsL_law := List.mem_of_getElem? (i := 201) (by decide +kernel)
set_option maxRecDepth 20000 in
theorem lk_RL_35 : Cond.methodLink RL 35 yX4_setGreatestShift ∈ wsL_law := List.mem_of_getElem? (i := 205) (by decide +kernel)
set_option maxRecDepth 20000 in
theorem lk_RL_38 : Cond.methodLink RL 38 yX5_setGreatestShift ∈ wsL_law := List.mem_of_getElem? (i := 210) (by decide +kernel)
set_option maxRecDepth 20000 in
theorem lk_RL_39 : Cond.methodLink RL 39 yX4_setTolerance ∈ wsL_law := List.mem_of_getElem? (i := 214) (by decide +kernel)
set_option maxRecDepth 20000 in
theorem lk_RL_42 : Cond.methodLink RL 42 yX5_setTolerance ∈ wsL_law := List.mem_of_getElem? (i := 220) (by decide +kernel)
set_option maxRecDepth 20000 in
theorem lk_RL_43 : Cond.methodLink RL 43 yX4_setGuard ∈ wsL_law := List.mem_of_getElem? (i := 224) (by decide +kernel)
set_option maxRecDepth 20000 in
theorem lk_RL_47 : Cond.methodLink RL 47 yX5_setGuard ∈ wsL_law := List.mem_of_getElem? (i := 229) (by decide +kernel)
set_option maxRecDepth 20000 in
theorem lk_RL_48 : Cond.methodLink RL 48 yX4_setting ∈ wsL_law := List.mem_of_getElem? (i := 233) (by decide +kernel)
set_option maxRecDepth 20000 in
theorem lk_RL_51 : Cond.methodLink RL 51 yX5_setting ∈ wsL_law := List.mem_of_getElem? (i := 237) (by decide +kernel)
set_option maxRecDepth 20000 in
theorem lk_RL_52 : Cond.methodLink RL 52 yX4_startTrial ∈ wsL_law := List.mem_of_getElem? (i := 241) (by decide +kernel)
set_option maxRecDepth 20000 in
theorem lk_RL_56 : Cond.methodLink RL 56 yX5_startTrial ∈ wsL_law := List.mem_of_getElem? (i := 250) (by decide +kernel)
set_option maxRecDepth 20000 in
theorem lk_RL_57 : Cond.methodLink RL 57 yX4_record ∈ wsL_law := List.mem_of_getElem? (i := 255) (by decide +kernel)
set_option maxRecDepth 20000 in
theorem lk_RL_60 : Cond.methodLink RL 60 yX5_record ∈ wsL_law := List.mem_of_getElem? (i := 359) (by decide +kernel)
set_option maxRecDepth 20000 in
theorem lk_RL_61 : Cond.methodLink RL 61 yX4_abort ∈ wsL_law := List.mem_of_getElem? (i := 408) (by decide +kernel)
set_option maxRecDepth 20000 in
theorem lk_RL_64 : Cond.methodLink RL 64 yX5_abort ∈ wsL_law := List.mem_of_getElem? (i := 416) (by decide +kernel)
set_option maxRecDepth 20000 in
theorem lk_RL_65 : Cond.methodLink RL 65 yX4_position ∈ wsL_law := List.mem_of_getElem? (i := 420) (by decide +kernel)
set_option maxRecDepth 20000 in
theorem lk_RL_68 : Cond.methodLink RL 68 yX5_position ∈ wsL_law := List.mem_of_getElem? (i := 424) (by decide +kernel)
set_option maxRecDepth 20000 in
theorem lk_RL_69 : Cond.methodLink RL 69 yX4_input ∈ wsL_law := List.mem_of_getElem? (i := 428) (by decide +kernel)
set_option maxRecDepth 20000 in
theorem lk_RL_72 : Cond.methodLink RL 72 yX5_input ∈ wsL_law := List.mem_of_getElem? (i := 432) (by decide +kernel)
set_option maxRecDepth 20000 in
theorem lk_RL_73 : Cond.methodLink RL 73 yX4_setInput ∈ wsL_law := List.mem_of_getElem? (i := 436) (by decide +kernel)
set_option maxRecDepth 20000 in
theorem lk_RL_76 : Cond.methodLink RL 76 yX5_setInput ∈ wsL_law := List.mem_of_getElem? (i := 440) (by decide +kernel)
set_option maxRecDepth 20000 in
theorem lk_RL_77 : Cond.methodLink RL 77 yX4_reference ∈ wsL_law := List.mem_of_getElem? (i := 444) (by decide +kernel)
set_option maxRecDepth 20000 in
theorem lk_RL_80 : Cond.methodLink RL 80 yX5_reference ∈ wsL_law := List.mem_of_getElem? (i := 448) (by decide +kernel)
set_option maxRecDepth 20000 in
theorem lk_RL_81 : Cond.methodLink RL 81 yX4_count ∈ wsL_law := List.mem_of_getElem? (i := 452) (by decide +kernel)
set_option maxRecDepth 20000 in
theorem lk_RL_84 : Cond.methodLink RL 84 yX5_count ∈ wsL_law := List.mem_of_getElem? (i := 456) (by decide +kernel)
set_option maxRecDepth 20000 in
theorem lk_RL_85 : Cond.methodLink RL 85 yX4_error ∈ wsL_law := List.mem_of_getElem? (i := 460) (by decide +kernel)
set_option maxRecDepth 20000 in
theorem lk_RL_88 : Cond.methodLink RL 88 yX5_error ∈ wsL_law := List.mem_of_getElem? (i := 467) (by decide +kernel)
set_option maxRecDepth 20000 in
theorem lk_RL_89 : Cond.methodLink RL 89 yX4_norm ∈ wsL_law := List.mem_of_getElem? (i := 474) (by decide +kernel)
set_option maxRecDepth 20000 in
theorem lk_RL_92 : Cond.methodLink RL 92 yX5_norm ∈ wsL_law := List.mem_of_getElem? (i := 478) (by decide +kernel)
set_option maxRecDepth 20000 in
theorem lk_RL_93 : Cond.methodLink RL 93 yX4_shift ∈ wsL_law := List.mem_of_getElem? (i := 482) (by decide +kernel)
set_option maxRecDepth 20000 in
theorem lk_RL_96 : Cond.methodLink RL 96 yX5_shift ∈ wsL_law := List.mem_of_getElem? (i := 487) (by decide +kernel)
set_option maxRecDepth 20000 in
theorem lk_RL_97 : Cond.methodLink RL 97 yX4_worstSample ∈ wsL_law := List.mem_of_getElem? (i := 491) (by decide +kernel)
set_option maxRecDepth 20000 in
theorem lk_RL_100 : Cond.methodLink RL 100 yX5_worstSample ∈ wsL_law := List.mem_of_getElem? (i := 498) (by decide +kernel)
set_option maxRecDepth 20000 in
theorem lk_RL_101 : Cond.methodLink RL 101 yX4_energy ∈ wsL_law := List.mem_of_getElem? (i := 502) (by decide +kernel)
set_option maxRecDepth 20000 in
theorem lk_RL_105 : Cond.methodLink RL 105 yX5_energy ∈ wsL_law := List.mem_of_getElem? (i := 511) (by decide +kernel)
set_option maxRecDepth 20000 in
theorem lk_RL_106 : Cond.methodLink RL 106 yX4_best ∈ wsL_law := List.mem_of_getElem? (i := 517) (by decide +kernel)
set_option maxRecDepth 20000 in
theorem lk_RL_109 : Cond.methodLink RL 109 yX5_best ∈ wsL_law := List.mem_of_getElem? (i := 522) (by decide +kernel)
set_option maxRecDepth 20000 in
theorem lk_RL_110 : Cond.methodLink RL 110 yX4_bestInput ∈ wsL_law := List.mem_of_getElem? (i := 526) (by decide +kernel)
set_option maxRecDepth 20000 in
theorem lk_RL_113 : Cond.methodLink RL 113 yX5_bestInput ∈ wsL_law := List.mem_of_getElem? (i := 530) (by decide +kernel)
set_option maxRecDepth 20000 in
theorem lk_RL_114 : Cond.methodLink RL 114 yX4_state ∈ wsL_law := List.mem_of_getElem? (i := 534) (by decide +kernel)
set_option maxRecDepth 20000 in
theorem lk_RL_117 : Cond.methodLink RL 117 yX5_state ∈ wsL_law := List.mem_of_getElem? (i := 551) (by decide +kernel)
set_option maxRecDepth 20000 in
theorem lk_RL_118 : Cond.methodLink RL 118 yX4_convergedCount ∈ wsL_law := List.mem_of_getElem? (i := 559) (by decide +kernel)
set_option maxRecDepth 20000 in
theorem lk_RL_121 : Cond.methodLink RL 121 yX5_convergedCount ∈ wsL_law := List.mem_of_getElem? (i := 563) (by decide +kernel)
set_option maxRecDepth 20000 in
theorem lk_RL_122 : Cond.methodLink RL 122 yX4_setPlant ∈ wsL_law := List.mem_of_getElem? (i := 567) (by decide +kernel)
set_option maxRecDepth 20000 in
theorem lk_RL_125 : Cond.methodLink RL 125 yX5_setPlant ∈ wsL_law := List.mem_of_getElem? (i := 572) (by decide +kernel)
set_option maxRecDepth 20000 in
theorem lk_RL_126 : Cond.methodLink RL 126 yX4_setDisturbance ∈ wsL_law := List.mem_of_getElem? (i := 576) (by decide +kernel)
set_option maxRecDepth 20000 in
theorem lk_RL_129 : Cond.methodLink RL 129 yX5_setDisturbance ∈ wsL_law := List.mem_of_getElem? (i := 582) (by decide +kernel)
set_option maxRecDepth 20000 in
theorem lk_RL_130 : Cond.methodLink RL 130 yX4_simulate ∈ wsL_law := List.mem_of_getElem? (i := 586) (by decide +kernel)
set_option maxRecDepth 20000 in
theorem lk_RL_133 : Cond.methodLink RL 133 yX5_simulate ∈ wsL_law := List.mem_of_getElem? (i := 606) (by decide +kernel)
set_option maxRecDepth 20000 in
theorem lk_RL_134 : Cond.methodLink RL 134 yX4_suits ∈ wsL_law := List.mem_of_getElem? (i := 617) (by decide +kernel)
set_option maxRecDepth 20000 in
theorem lk_RL_137 : Cond.methodLink RL 137 yX5_suits ∈ wsL_law := List.mem_of_getElem? (i := 625) (by decide +kernel)
set_option maxRecDepth 20000 in
theorem ltab_t3 : (Cond.methodLinkNest RX4 9 yX3_init RX4) ∈ lw_tbl := List.mem_of_getElem? (i := 48) (by decide +kernel)
set_option maxRecDepth 20000 in
theorem ltab_t2 : (Cond.methodLinkNest RX4 18 yX2_init RX4) ∈ lw_tbl := List.mem_of_getElem? (i := 99) (by decide +kernel)
set_option maxRecDepth 20000 in
theorem ltab_t1 : (Cond.methodLinkNest RX4 25 yX1_init RX4) ∈ lw_tbl := List.mem_of_getElem? (i := 119) (by decide +kernel)
set_option maxRecDepth 20000 in
theorem ltab_t0 : (Cond.methodLinkNest RX4 32 yX0_init RX4) ∈ lw_tbl := List.mem_of_getElem? (i := 143) (by decide +kernel)
set_option maxRecDepth 20000 in
theorem ltab_ta : (Cond.arrayOver (.array .int)) ∈ lw_tbl := List.mem_of_getElem? (i := 124) (by decide +kernel)
