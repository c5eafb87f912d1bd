/-! THE LAW'S CODE -/
set_option maxRecDepth 20000 in
theorem dkL_0 : ckP 190 0 tb_190_0 = true := dl_of (by decide +kernel)
set_option maxRecDepth 20000 in
theorem dkL_1 : ckP 190 128 tb_190_1 = true := dl_of (by decide +kernel)
set_option maxRecDepth 20000 in
theorem dkL_2 : ckP 190 256 tb_190_2 = true := dl_of (by decide +kernel)
set_option maxRecDepth 20000 in
theorem dkL_3 : ckP 190 384 tb_190_3 = true := dl_of (by decide +kernel)
set_option maxRecDepth 20000 in
theorem dkL_4 : ckP 190 512 tb_190_4 = true := dl_of (by decide +kernel)
set_option maxRecDepth 20000 in
theorem dkL_5 : ckP 190 640 tb_190_5 = true := dl_of (by decide +kernel)
