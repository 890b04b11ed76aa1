set_option maxRecDepth 16384 in
theorem rf_w_1_0 : ((tables_1_1).take 58).all rf_look = true := by decide +kernel
set_option maxRecDepth 16384 in
theorem rf_w_1_1 : (((tables_1_1).drop 58).take 58).all rf_look = true := by decide +kernel
set_option maxRecDepth 16384 in
theorem rf_w_1_2 : ((((tables_1_1).drop 58).drop 58).take 58).all rf_look = true := by decide +kernel
set_option maxRecDepth 16384 in
theorem rf_w_1_3 : ((((tables_1_1).drop 58).drop 58).drop 58).all rf_look = true := by decide +kernel
theorem rf_all_1 : tables_1_1.all rf_look = true := start1.su_all_split _ 58 (tables_1_1) rf_w_1_0 (start1.su_all_split _ 58 ((tables_1_1).drop 58) rf_w_1_1 (start1.su_all_split _ 58 (((tables_1_1).drop 58).drop 58) rf_w_1_2 (rf_w_1_3)))
