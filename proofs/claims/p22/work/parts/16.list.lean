set_option maxRecDepth 16384 in
theorem rf_w_6_0 : ((tables_1_6).take 58).all rf_look = true := by decide +kernel
set_option maxRecDepth 16384 in
theorem rf_w_6_1 : (((tables_1_6).drop 58).take 58).all rf_look = true := by decide +kernel
set_option maxRecDepth 16384 in
theorem rf_w_6_2 : ((((tables_1_6).drop 58).drop 58).take 58).all rf_look = true := by decide +kernel
set_option maxRecDepth 16384 in
theorem rf_w_6_3 : ((((tables_1_6).drop 58).drop 58).drop 58).all rf_look = true := by decide +kernel
theorem rf_all_6 : tables_1_6.all rf_look = true := start1.su_all_split _ 58 (tables_1_6) rf_w_6_0 (start1.su_all_split _ 58 ((tables_1_6).drop 58) rf_w_6_1 (start1.su_all_split _ 58 (((tables_1_6).drop 58).drop 58) rf_w_6_2 (rf_w_6_3)))
