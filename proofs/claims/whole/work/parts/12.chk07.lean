/-! The code tables against the bytes. -/
set_option maxRecDepth 100000 in
theorem xt_k125 : xt_c125.all (xt_ck 125) = true := by decide +kernel
set_option maxRecDepth 100000 in
theorem xt_k126 : xt_c126.all (xt_ck 126) = true := by decide +kernel
set_option maxRecDepth 100000 in
theorem xt_k127 : xt_c127.all (xt_ck 127) = true := by decide +kernel
set_option maxRecDepth 100000 in
theorem xt_k128 : xt_c128.all (xt_ck 128) = true := by decide +kernel
set_option maxRecDepth 100000 in
theorem xt_k129 : xt_c129.all (xt_ck 129) = true := by decide +kernel
set_option maxRecDepth 100000 in
theorem xt_k130 : xt_c130.all (xt_ck 130) = true := by decide +kernel
set_option maxRecDepth 100000 in
theorem xt_k131 : xt_c131.all (xt_ck 131) = true := by decide +kernel
set_option maxRecDepth 100000 in
theorem xt_k132 : xt_c132.all (xt_ck 132) = true := by decide +kernel
set_option maxRecDepth 100000 in
theorem xt_k133 : xt_c133.all (xt_ck 133) = true := by decide +kernel
set_option maxRecDepth 100000 in
theorem xt_k134 : xt_c134.all (xt_ck 134) = true := by decide +kernel
set_option maxRecDepth 100000 in
theorem xt_k135 : xt_c135.all (xt_ck 135) = true := by decide +kernel
set_option maxRecDepth 100000 in
theorem xt_k136 : xt_c136.all (xt_ck 136) = true := by decide +kernel
set_option maxRecDepth 100000 in
theorem xt_k137 : xt_c137.all (xt_ck 137) = true := by decide +kernel
set_option maxRecDepth 100000 in
theorem xt_k138 : xt_c138.all (xt_ck 138) = true := by decide +kernel
