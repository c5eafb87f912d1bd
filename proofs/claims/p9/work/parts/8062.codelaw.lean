/-! THE LAW'S CODE, its second half -/
set_option maxRecDepth 20000 in
theorem dkL_6 : ckP 190 768 tb_190_6 = true := dl_of (by decide +kernel)
set_option maxRecDepth 20000 in
theorem dkL_7 : ckP 190 896 tb_190_7 = true := dl_of (by decide +kernel)
set_option maxRecDepth 20000 in
theorem dkL_8 : ckP 190 1024 tb_190_8 = true := dl_of (by decide +kernel)
set_option maxRecDepth 20000 in
theorem dkL_9 : ckP 190 1152 tb_190_9 = true := dl_of (by decide +kernel)
set_option maxRecDepth 20000 in
theorem dkL_10 : ckP 190 1280 tb_190_10 = true := dl_of (by decide +kernel)
set_option maxRecDepth 20000 in
theorem dkL_11 : ckP 190 1408 tb_190_11 = true := dl_of (by decide +kernel)
