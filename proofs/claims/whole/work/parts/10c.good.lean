set_option maxRecDepth 100000 in
theorem gl_X9_letter : GoodIn lw_tbl (wsV RL 13 RX9 yX9_letter wsX9_letter) := goodIn_app (goodIn_r (big := lw_tbl) _ [210, 211, 212, 43] (by decide +kernel) (by decide +kernel)) gw_X9_letter
set_option maxRecDepth 100000 in
theorem gl_X10_letter : GoodIn lw_tbl (wsV RL 17 RX10 yX10_letter wsX10_letter) := goodIn_app (goodIn_r (big := lw_tbl) _ [732, 733, 734, 53] (by decide +kernel) (by decide +kernel)) gw_X10_letter
set_option maxRecDepth 100000 in
theorem gl_X9_blank : GoodIn lw_tbl (wsV RL 18 RX9 yX9_blank wsX9_blank) := goodIn_app (goodIn_r (big := lw_tbl) _ [226, 227, 228, 43] (by decide +kernel) (by decide +kernel)) gw_X9_blank
set_option maxRecDepth 100000 in
theorem gl_X10_blank : GoodIn lw_tbl (wsV RL 22 RX10 yX10_blank wsX10_blank) := goodIn_app (goodIn_r (big := lw_tbl) _ [739, 740, 741, 53] (by decide +kernel) (by decide +kernel)) gw_X10_blank
set_option maxRecDepth 100000 in
theorem gl_X9_fault : GoodIn lw_tbl (wsV RL 23 RX9 yX9_fault wsX9_fault) := goodIn_app (goodIn_r (big := lw_tbl) _ [234, 235, 236, 43] (by decide +kernel) (by decide +kernel)) gw_X9_fault
set_option maxRecDepth 100000 in
theorem gl_X10_fault : GoodIn lw_tbl (wsV RL 26 RX10 yX10_fault wsX10_fault) := goodIn_app (goodIn_r (big := lw_tbl) _ [743, 744, 745, 53] (by decide +kernel) (by decide +kernel)) gw_X10_fault
set_option maxRecDepth 100000 in
theorem gl_X9_school : GoodIn lw_tbl (wsV RL 27 RX9 yX9_school wsX9_school) := goodIn_app (goodIn_r (big := lw_tbl) _ [252, 253, 254, 43] (by decide +kernel) (by decide +kernel)) gw_X9_school
set_option maxRecDepth 100000 in
theorem gl_X10_school : GoodIn lw_tbl (wsV RL 30 RX10 yX10_school wsX10_school) := goodIn_app (goodIn_r (big := lw_tbl) _ [758, 759, 760, 53] (by decide +kernel) (by decide +kernel)) gw_X10_school
set_option maxRecDepth 100000 in
theorem gl_X9_about : GoodIn lw_tbl (wsV RL 31 RX9 yX9_about wsX9_about) := goodIn_app (goodIn_r (big := lw_tbl) _ [285, 286, 287, 43] (by decide +kernel) (by decide +kernel)) gw_X9_about
set_option maxRecDepth 100000 in
theorem gl_X10_about : GoodIn lw_tbl (wsV RL 35 RX10 yX10_about wsX10_about) := goodIn_app (goodIn_r (big := lw_tbl) _ [762, 763, 764, 53] (by decide +kernel) (by decide +kernel)) gw_X10_about
set_option maxRecDepth 100000 in
theorem gl_X9_as : GoodIn lw_tbl (wsV RL 36 RX9 yX9_as wsX9_as) := goodIn_app (goodIn_r (big := lw_tbl) _ [326, 327, 328, 43] (by decide +kernel) (by decide +kernel)) gw_X9_as
set_option maxRecDepth 100000 in
theorem gl_X10_as : GoodIn lw_tbl (wsV RL 39 RX10 yX10_as wsX10_as) := goodIn_app (goodIn_r (big := lw_tbl) _ [778, 779, 780, 53] (by decide +kernel) (by decide +kernel)) gw_X10_as
set_option maxRecDepth 100000 in
theorem gl_X9_seat : GoodIn lw_tbl (wsV RL 40 RX9 yX9_seat wsX9_seat) := goodIn_app (goodIn_r (big := lw_tbl) _ [341, 342, 343, 43] (by decide +kernel) (by decide +kernel)) gw_X9_seat
set_option maxRecDepth 100000 in
theorem gl_X10_seat : GoodIn lw_tbl (wsV RL 43 RX10 yX10_seat wsX10_seat) := goodIn_app (goodIn_r (big := lw_tbl) _ [782, 783, 784, 53] (by decide +kernel) (by decide +kernel)) gw_X10_seat
set_option maxRecDepth 100000 in
theorem gl_X9_swap : GoodIn lw_tbl (wsV RL 44 RX9 yX9_swap wsX9_swap) := goodIn_app (goodIn_r (big := lw_tbl) _ [349, 350, 351, 43] (by decide +kernel) (by decide +kernel)) gw_X9_swap
set_option maxRecDepth 100000 in
theorem gl_X10_swap : GoodIn lw_tbl (wsV RL 47 RX10 yX10_swap wsX10_swap) := goodIn_app (goodIn_r (big := lw_tbl) _ [786, 787, 788, 53] (by decide +kernel) (by decide +kernel)) gw_X10_swap
set_option maxRecDepth 100000 in
theorem gl_X9_ill : GoodIn lw_tbl (wsV RL 48 RX9 yX9_ill wsX9_ill) := goodIn_app (goodIn_r (big := lw_tbl) _ [357, 358, 359, 43] (by decide +kernel) (by decide +kernel)) gw_X9_ill
set_option maxRecDepth 100000 in
theorem gl_X10_ill : GoodIn lw_tbl (wsV RL 52 RX10 yX10_ill wsX10_ill) := goodIn_app (goodIn_r (big := lw_tbl) _ [794, 795, 796, 53] (by decide +kernel) (by decide +kernel)) gw_X10_ill
set_option maxRecDepth 100000 in
theorem gl_X9_knows : GoodIn lw_tbl (wsV RL 53 RX9 yX9_knows wsX9_knows) := goodIn_app (goodIn_r (big := lw_tbl) _ [365, 366, 367, 43] (by decide +kernel) (by decide +kernel)) gw_X9_knows
set_option maxRecDepth 100000 in
theorem gl_X10_knows : GoodIn lw_tbl (wsV RL 57 RX10 yX10_knows wsX10_knows) := goodIn_app (goodIn_r (big := lw_tbl) _ [798, 799, 800, 53] (by decide +kernel) (by decide +kernel)) gw_X10_knows
set_option maxRecDepth 100000 in
theorem gl_X9_lesson : GoodIn lw_tbl (wsV RL 58 RX9 yX9_lesson wsX9_lesson) := goodIn_app (goodIn_r (big := lw_tbl) _ [380, 381, 382, 43] (by decide +kernel) (by decide +kernel)) gw_X9_lesson
set_option maxRecDepth 100000 in
theorem gl_X10_lesson : GoodIn lw_tbl (wsV RL 61 RX10 yX10_lesson wsX10_lesson) := goodIn_app (goodIn_r (big := lw_tbl) _ [809, 810, 811, 53] (by decide +kernel) (by decide +kernel)) gw_X10_lesson
set_option maxRecDepth 100000 in
theorem gl_X9_summer : GoodIn lw_tbl (wsV RL 62 RX9 yX9_summer wsX9_summer) := goodIn_app (goodIn_r (big := lw_tbl) _ [434, 435, 436, 43] (by decide +kernel) (by decide +kernel)) gw_X9_summer
set_option maxRecDepth 100000 in
theorem gl_X10_summer : GoodIn lw_tbl (wsV RL 65 RX10 yX10_summer wsX10_summer) := goodIn_app (goodIn_r (big := lw_tbl) _ [828, 829, 830, 53] (by decide +kernel) (by decide +kernel)) gw_X10_summer
set_option maxRecDepth 100000 in
theorem gl_X9_wipe : GoodIn lw_tbl (wsV RL 66 RX9 yX9_wipe wsX9_wipe) := goodIn_app (goodIn_r (big := lw_tbl) _ [457, 458, 459, 43] (by decide +kernel) (by decide +kernel)) gw_X9_wipe
set_option maxRecDepth 100000 in
theorem gl_X10_wipe : GoodIn lw_tbl (wsV RL 69 RX10 yX10_wipe wsX10_wipe) := goodIn_app (goodIn_r (big := lw_tbl) _ [836, 837, 838, 53] (by decide +kernel) (by decide +kernel)) gw_X10_wipe
set_option maxRecDepth 100000 in
theorem gl_X9_order : GoodIn lw_tbl (wsV RL 70 RX9 yX9_order wsX9_order) := goodIn_app (goodIn_r (big := lw_tbl) _ [465, 466, 467, 43] (by decide +kernel) (by decide +kernel)) gw_X9_order
set_option maxRecDepth 100000 in
theorem gl_X10_order : GoodIn lw_tbl (wsV RL 73 RX10 yX10_order wsX10_order) := goodIn_app (goodIn_r (big := lw_tbl) _ [840, 841, 842, 53] (by decide +kernel) (by decide +kernel)) gw_X10_order
set_option maxRecDepth 100000 in
theorem gl_X9_songs : GoodIn lw_tbl (wsV RL 74 RX9 yX9_songs wsX9_songs) := goodIn_app (goodIn_r (big := lw_tbl) _ [520, 521, 522, 43] (by decide +kernel) (by decide +kernel)) gw_X9_songs
set_option maxRecDepth 100000 in
theorem gl_X10_songs : GoodIn lw_tbl (wsV RL 77 RX10 yX10_songs wsX10_songs) := goodIn_app (goodIn_r (big := lw_tbl) _ [871, 872, 873, 53] (by decide +kernel) (by decide +kernel)) gw_X10_songs
set_option maxRecDepth 100000 in
theorem gl_X9_asks : GoodIn lw_tbl (wsV RL 78 RX9 yX9_asks wsX9_asks) := goodIn_app (goodIn_r (big := lw_tbl) _ [549, 550, 551, 43] (by decide +kernel) (by decide +kernel)) gw_X9_asks
set_option maxRecDepth 100000 in
theorem gl_X10_asks : GoodIn lw_tbl (wsV RL 81 RX10 yX10_asks wsX10_asks) := goodIn_app (goodIn_r (big := lw_tbl) _ [891, 892, 893, 53] (by decide +kernel) (by decide +kernel)) gw_X10_asks
set_option maxRecDepth 100000 in
theorem gl_X9_orders : GoodIn lw_tbl (wsV RL 82 RX9 yX9_orders wsX9_orders) := goodIn_app (goodIn_r (big := lw_tbl) _ [557, 558, 559, 43] (by decide +kernel) (by decide +kernel)) gw_X9_orders
set_option maxRecDepth 100000 in
theorem gl_X10_orders : GoodIn lw_tbl (wsV RL 85 RX10 yX10_orders wsX10_orders) := goodIn_app (goodIn_r (big := lw_tbl) _ [899, 900, 901, 53] (by decide +kernel) (by decide +kernel)) gw_X10_orders
set_option maxRecDepth 100000 in
theorem gl_X9_tell : GoodIn lw_tbl (wsV RL 86 RX9 yX9_tell wsX9_tell) := goodIn_app (goodIn_r (big := lw_tbl) _ [565, 566, 567, 43] (by decide +kernel) (by decide +kernel)) gw_X9_tell
set_option maxRecDepth 100000 in
theorem gl_X10_tell : GoodIn lw_tbl (wsV RL 89 RX10 yX10_tell wsX10_tell) := goodIn_app (goodIn_r (big := lw_tbl) _ [907, 908, 909, 53] (by decide +kernel) (by decide +kernel)) gw_X10_tell
set_option maxRecDepth 100000 in
theorem gl_X9_sick : GoodIn lw_tbl (wsV RL 90 RX9 yX9_sick wsX9_sick) := goodIn_app (goodIn_r (big := lw_tbl) _ [573, 574, 575, 43] (by decide +kernel) (by decide +kernel)) gw_X9_sick
set_option maxRecDepth 100000 in
theorem gl_X10_sick : GoodIn lw_tbl (wsV RL 93 RX10 yX10_sick wsX10_sick) := goodIn_app (goodIn_r (big := lw_tbl) _ [911, 912, 913, 53] (by decide +kernel) (by decide +kernel)) gw_X10_sick
set_option maxRecDepth 100000 in
theorem gl_X9_years : GoodIn lw_tbl (wsV RL 94 RX9 yX9_years wsX9_years) := goodIn_app (goodIn_r (big := lw_tbl) _ [585, 586, 587, 43] (by decide +kernel) (by decide +kernel)) gw_X9_years
set_option maxRecDepth 100000 in
theorem gl_X10_years : GoodIn lw_tbl (wsV RL 97 RX10 yX10_years wsX10_years) := goodIn_app (goodIn_r (big := lw_tbl) _ [923, 924, 925, 53] (by decide +kernel) (by decide +kernel)) gw_X10_years
set_option maxRecDepth 100000 in
theorem gl_X9_image : GoodIn lw_tbl (wsV RL 98 RX9 yX9_image wsX9_image) := goodIn_app (goodIn_r (big := lw_tbl) _ [612, 613, 614, 43] (by decide +kernel) (by decide +kernel)) gw_X9_image
set_option maxRecDepth 100000 in
theorem gl_X10_image : GoodIn lw_tbl (wsV RL 101 RX10 yX10_image wsX10_image) := goodIn_app (goodIn_r (big := lw_tbl) _ [947, 948, 949, 53] (by decide +kernel) (by decide +kernel)) gw_X10_image
set_option maxRecDepth 100000 in
theorem gl_X9_restore : GoodIn lw_tbl (wsV RL 102 RX9 yX9_restore wsX9_restore) := goodIn_app (goodIn_r (big := lw_tbl) _ [616, 617, 618, 43] (by decide +kernel) (by decide +kernel)) gw_X9_restore
set_option maxRecDepth 100000 in
theorem gl_X10_restore : GoodIn lw_tbl (wsV RL 105 RX10 yX10_restore wsX10_restore) := goodIn_app (goodIn_r (big := lw_tbl) _ [951, 952, 953, 53] (by decide +kernel) (by decide +kernel)) gw_X10_restore
set_option maxRecDepth 100000 in
theorem gl_X9_count : GoodIn lw_tbl (wsV RL 106 RX9 yX9_count wsX9_count) := goodIn_app (goodIn_r (big := lw_tbl) _ [620, 621, 622, 43] (by decide +kernel) (by decide +kernel)) gw_X9_count
set_option maxRecDepth 100000 in
theorem gl_X10_count : GoodIn lw_tbl (wsV RL 109 RX10 yX10_count wsX10_count) := goodIn_app (goodIn_r (big := lw_tbl) _ [955, 956, 957, 53] (by decide +kernel) (by decide +kernel)) gw_X10_count
set_option maxRecDepth 100000 in
theorem gl_X9_digest : GoodIn lw_tbl (wsV RL 110 RX9 yX9_digest wsX9_digest) := goodIn_app (goodIn_r (big := lw_tbl) _ [628, 629, 630, 43] (by decide +kernel) (by decide +kernel)) gw_X9_digest
set_option maxRecDepth 100000 in
theorem gl_X10_digest : GoodIn lw_tbl (wsV RL 114 RX10 yX10_digest wsX10_digest) := goodIn_app (goodIn_r (big := lw_tbl) _ [963, 964, 965, 53] (by decide +kernel) (by decide +kernel)) gw_X10_digest
