set_option maxRecDepth 16384 in
theorem rf_w_5_0 : ((tables_1_5).take 58).all rf_look = true := by decide +kernel
set_option maxRecDepth 16384 in
theorem rf_w_5_1 : (((tables_1_5).drop 58).take 58).all rf_look = true := by decide +kernel
set_option maxRecDepth 16384 in
theorem rf_w_5_2 : ((((tables_1_5).drop 58).drop 58).take 58).all rf_look = true := by decide +kernel
set_option maxRecDepth 16384 in
theorem rf_w_5_3 : ((((tables_1_5).drop 58).drop 58).drop 58).all rf_look = true := by decide +kernel
theorem rf_all_5 : tables_1_5.all rf_look = true := start1.su_all_split _ 58 (tables_1_5) rf_w_5_0 (start1.su_all_split _ 58 ((tables_1_5).drop 58) rf_w_5_1 (start1.su_all_split _ 58 (((tables_1_5).drop 58).drop 58) rf_w_5_2 (rf_w_5_3)))
