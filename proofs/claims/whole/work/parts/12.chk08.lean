/-! The code tables against the bytes. -/
set_option maxRecDepth 100000 in
theorem xt_k139 : xt_c139.all (xt_ck 139) = true := by decide +kernel
set_option maxRecDepth 100000 in
theorem xt_k140 : xt_c140.all (xt_ck 140) = true := by decide +kernel
set_option maxRecDepth 100000 in
theorem xt_k141 : xt_c141.all (xt_ck 141) = true := by decide +kernel
set_option maxRecDepth 100000 in
theorem xt_k142 : xt_c142.all (xt_ck 142) = true := by decide +kernel
set_option maxRecDepth 100000 in
theorem xt_k143 : xt_c143.all (xt_ck 143) = true := by decide +kernel
set_option maxRecDepth 100000 in
theorem xt_k144 : xt_c144.all (xt_ck 144) = true := by decide +kernel
set_option maxRecDepth 100000 in
theorem xt_k145 : xt_c145.all (xt_ck 145) = true := by decide +kernel
