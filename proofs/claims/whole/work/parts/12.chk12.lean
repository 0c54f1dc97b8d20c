/-! The code tables against the bytes. -/
set_option maxRecDepth 100000 in
theorem xt_k172 : xt_c172.all (xt_ck 172) = true := by decide +kernel
set_option maxRecDepth 100000 in
theorem xt_k173 : xt_c173.all (xt_ck 173) = true := by decide +kernel
set_option maxRecDepth 100000 in
theorem xt_k174 : xt_c174.all (xt_ck 174) = true := by decide +kernel
set_option maxRecDepth 100000 in
theorem xt_k175 : xt_c175.all (xt_ck 175) = true := by decide +kernel
set_option maxRecDepth 100000 in
theorem xt_k176 : xt_c176.all (xt_ck 176) = true := by decide +kernel
