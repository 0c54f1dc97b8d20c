/-! The code tables against the bytes. -/
set_option maxRecDepth 100000 in
theorem xt_k154 : xt_c154.all (xt_ck 154) = true := by decide +kernel
set_option maxRecDepth 100000 in
theorem xt_k155 : xt_c155.all (xt_ck 155) = true := by decide +kernel
set_option maxRecDepth 100000 in
theorem xt_k156 : xt_c156.all (xt_ck 156) = true := by decide +kernel
set_option maxRecDepth 100000 in
theorem xt_k157 : xt_c157.all (xt_ck 157) = true := by decide +kernel
set_option maxRecDepth 100000 in
theorem xt_k158 : xt_c158.all (xt_ck 158) = true := by decide +kernel
set_option maxRecDepth 100000 in
theorem xt_k159 : xt_c159.all (xt_ck 159) = true := by decide +kernel
set_option maxRecDepth 100000 in
theorem xt_k160 : xt_c160.all (xt_ck 160) = true := by decide +kernel
set_option maxRecDepth 100000 in
theorem xt_k161 : xt_c161.all (xt_ck 161) = true := by decide +kernel
set_option maxRecDepth 100000 in
theorem xt_k162 : xt_c162.all (xt_ck 162) = true := by decide +kernel
set_option maxRecDepth 100000 in
theorem xt_k163 : xt_c163.all (xt_ck 163) = true := by decide +kernel
set_option maxRecDepth 100000 in
theorem xt_k164 : xt_c164.all (xt_ck 164) = true := by decide +kernel
