/-! The code tables against the bytes. -/
set_option maxRecDepth 100000 in
theorem xt_k146 : xt_c146.all (xt_ck 146) = true := by decide +kernel
set_option maxRecDepth 100000 in
theorem xt_k147 : xt_c147.all (xt_ck 147) = true := by decide +kernel
set_option maxRecDepth 100000 in
theorem xt_k148 : xt_c148.all (xt_ck 148) = true := by decide +kernel
set_option maxRecDepth 100000 in
theorem xt_k149 : xt_c149.all (xt_ck 149) = true := by decide +kernel
set_option maxRecDepth 100000 in
theorem xt_k150 : xt_c150.all (xt_ck 150) = true := by decide +kernel
set_option maxRecDepth 100000 in
theorem xt_k151 : xt_c151.all (xt_ck 151) = true := by decide +kernel
set_option maxRecDepth 100000 in
theorem xt_k152 : xt_c152.all (xt_ck 152) = true := by decide +kernel
set_option maxRecDepth 100000 in
theorem xt_k153 : xt_c153.all (xt_ck 153) = true := by decide +kernel
