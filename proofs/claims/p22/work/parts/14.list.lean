set_option maxRecDepth 16384 in
theorem rf_w_4_0 : ((tables_1_4).take 58).all rf_look = true := by decide +kernel
set_option maxRecDepth 16384 in
theorem rf_w_4_1 : (((tables_1_4).drop 58).take 58).all rf_look = true := by decide +kernel
set_option maxRecDepth 16384 in
theorem rf_w_4_2 : ((((tables_1_4).drop 58).drop 58).take 58).all rf_look = true := by decide +kernel
set_option maxRecDepth 16384 in
theorem rf_w_4_3 : ((((tables_1_4).drop 58).drop 58).drop 58).all rf_look = true := by decide +kernel
theorem rf_all_4 : tables_1_4.all rf_look = true := start1.su_all_split _ 58 (tables_1_4) rf_w_4_0 (start1.su_all_split _ 58 ((tables_1_4).drop 58) rf_w_4_1 (start1.su_all_split _ 58 (((tables_1_4).drop 58).drop 58) rf_w_4_2 (rf_w_4_3)))
