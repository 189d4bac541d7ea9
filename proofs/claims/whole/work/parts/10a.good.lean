set_option maxRecDepth 100000 in
theorem gw_X9_letter : GoodIn lw_tbl wsX9_letter := goodIn_sub (by decide +kernel) (by decide +kernel)
set_option maxRecDepth 100000 in
theorem gw_X9_blank : GoodIn lw_tbl wsX9_blank := goodIn_sub (by decide +kernel) (by decide +kernel)
set_option maxRecDepth 100000 in
theorem gw_X9_fault : GoodIn lw_tbl wsX9_fault := goodIn_sub (by decide +kernel) (by decide +kernel)
set_option maxRecDepth 100000 in
theorem gw_X9_about : GoodIn lw_tbl wsX9_about := goodIn_sub (by decide +kernel) (by decide +kernel)
set_option maxRecDepth 100000 in
theorem gw_X9_as : GoodIn lw_tbl wsX9_as := goodIn_sub (by decide +kernel) (by decide +kernel)
set_option maxRecDepth 100000 in
theorem gw_X9_seat : GoodIn lw_tbl wsX9_seat := goodIn_sub (by decide +kernel) (by decide +kernel)
set_option maxRecDepth 100000 in
theorem gw_X9_swap : GoodIn lw_tbl wsX9_swap := goodIn_sub (by decide +kernel) (by decide +kernel)
set_option maxRecDepth 100000 in
theorem gw_X9_ill : GoodIn lw_tbl wsX9_ill := goodIn_sub (by decide +kernel) (by decide +kernel)
set_option maxRecDepth 100000 in
theorem gw_X9_knows : GoodIn lw_tbl wsX9_knows := goodIn_sub (by decide +kernel) (by decide +kernel)
set_option maxRecDepth 100000 in
theorem gw_X9_lesson : GoodIn lw_tbl wsX9_lesson := goodIn_sub (by decide +kernel) (by decide +kernel)
set_option maxRecDepth 100000 in
theorem gw_X9_summer : GoodIn lw_tbl wsX9_summer := goodIn_sub (by decide +kernel) (by decide +kernel)
set_option maxRecDepth 100000 in
theorem gw_X9_wipe : GoodIn lw_tbl wsX9_wipe := goodIn_sub (by decide +kernel) (by decide +kernel)
set_option maxRecDepth 100000 in
theorem gw_X9_asks : GoodIn lw_tbl wsX9_asks := goodIn_sub (by decide +kernel) (by decide +kernel)
set_option maxRecDepth 100000 in
theorem gw_X9_tell : GoodIn lw_tbl wsX9_tell := goodIn_sub (by decide +kernel) (by decide +kernel)
set_option maxRecDepth 100000 in
theorem gw_X9_sick : GoodIn lw_tbl wsX9_sick := goodIn_sub (by decide +kernel) (by decide +kernel)
set_option maxRecDepth 100000 in
theorem gw_X9_image : GoodIn lw_tbl wsX9_image := goodIn_sub (by decide +kernel) (by decide +kernel)
set_option maxRecDepth 100000 in
theorem gw_X9_restore : GoodIn lw_tbl wsX9_restore := goodIn_sub (by decide +kernel) (by decide +kernel)
set_option maxRecDepth 100000 in
theorem gw_X9_count : GoodIn lw_tbl wsX9_count := goodIn_sub (by decide +kernel) (by decide +kernel)
set_option maxRecDepth 100000 in
theorem gw_X10_letter : GoodIn lw_tbl wsX10_letter := goodIn_sub (by decide +kernel) (by decide +kernel)
set_option maxRecDepth 100000 in
theorem gw_X10_blank : GoodIn lw_tbl wsX10_blank := goodIn_sub (by decide +kernel) (by decide +kernel)
set_option maxRecDepth 100000 in
theorem gw_X10_fault : GoodIn lw_tbl wsX10_fault := goodIn_sub (by decide +kernel) (by decide +kernel)
set_option maxRecDepth 100000 in
theorem gw_X10_about : GoodIn lw_tbl wsX10_about := goodIn_sub (by decide +kernel) (by decide +kernel)
set_option maxRecDepth 100000 in
theorem gw_X10_as : GoodIn lw_tbl wsX10_as := goodIn_sub (by decide +kernel) (by decide +kernel)
set_option maxRecDepth 100000 in
theorem gw_X10_seat : GoodIn lw_tbl wsX10_seat := goodIn_sub (by decide +kernel) (by decide +kernel)
set_option maxRecDepth 100000 in
theorem gw_X10_swap : GoodIn lw_tbl wsX10_swap := goodIn_sub (by decide +kernel) (by decide +kernel)
set_option maxRecDepth 100000 in
theorem gw_X10_ill : GoodIn lw_tbl wsX10_ill := goodIn_sub (by decide +kernel) (by decide +kernel)
set_option maxRecDepth 100000 in
theorem gw_X10_knows : GoodIn lw_tbl wsX10_knows := goodIn_sub (by decide +kernel) (by decide +kernel)
set_option maxRecDepth 100000 in
theorem gw_X10_lesson : GoodIn lw_tbl wsX10_lesson := goodIn_sub (by decide +kernel) (by decide +kernel)
set_option maxRecDepth 100000 in
theorem gw_X10_summer : GoodIn lw_tbl wsX10_summer := goodIn_sub (by decide +kernel) (by decide +kernel)
set_option maxRecDepth 100000 in
theorem gw_X10_wipe : GoodIn lw_tbl wsX10_wipe := goodIn_sub (by decide +kernel) (by decide +kernel)
set_option maxRecDepth 100000 in
theorem gw_X10_asks : GoodIn lw_tbl wsX10_asks := goodIn_sub (by decide +kernel) (by decide +kernel)
set_option maxRecDepth 100000 in
theorem gw_X10_tell : GoodIn lw_tbl wsX10_tell := goodIn_sub (by decide +kernel) (by decide +kernel)
set_option maxRecDepth 100000 in
theorem gw_X10_sick : GoodIn lw_tbl wsX10_sick := goodIn_sub (by decide +kernel) (by decide +kernel)
set_option maxRecDepth 100000 in
theorem gw_X10_image : GoodIn lw_tbl wsX10_image := goodIn_sub (by decide +kernel) (by decide +kernel)
set_option maxRecDepth 100000 in
theorem gw_X10_restore : GoodIn lw_tbl wsX10_restore := goodIn_sub (by decide +kernel) (by decide +kernel)
set_option maxRecDepth 100000 in
theorem gw_X10_count : GoodIn lw_tbl wsX10_count := goodIn_sub (by decide +kernel) (by decide +kernel)
