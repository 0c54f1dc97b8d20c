/-! The code tables against the bytes. -/
set_option maxRecDepth 100000 in
theorem xt_k80 : xt_c80.all (xt_ck 80) = true := by decide +kernel
set_option maxRecDepth 100000 in
theorem xt_k81 : xt_c81.all (xt_ck 81) = true := by decide +kernel
set_option maxRecDepth 100000 in
theorem xt_k82 : xt_c82.all (xt_ck 82) = true := by decide +kernel
set_option maxRecDepth 100000 in
theorem xt_k83 : xt_c83.all (xt_ck 83) = true := by decide +kernel
set_option maxRecDepth 100000 in
theorem xt_k84 : xt_c84.all (xt_ck 84) = true := by decide +kernel
set_option maxRecDepth 100000 in
theorem xt_k85 : xt_c85.all (xt_ck 85) = true := by decide +kernel
set_option maxRecDepth 100000 in
theorem xt_k86 : xt_c86.all (xt_ck 86) = true := by decide +kernel
set_option maxRecDepth 100000 in
theorem xt_k87 : xt_c87.all (xt_ck 87) = true := by decide +kernel
set_option maxRecDepth 100000 in
theorem xt_k88 : xt_c88.all (xt_ck 88) = true := by decide +kernel
set_option maxRecDepth 100000 in
theorem xt_k89 : xt_c89.all (xt_ck 89) = true := by decide +kernel
set_option maxRecDepth 100000 in
theorem xt_k90 : xt_c90.all (xt_ck 90) = true := by decide +kernel
set_option maxRecDepth 100000 in
theorem xt_k91 : xt_c91.all (xt_ck 91) = true := by decide +kernel
set_option maxRecDepth 100000 in
theorem xt_k92 : xt_c92.all (xt_ck 92) = true := by decide +kernel
set_option maxRecDepth 100000 in
theorem xt_k93 : xt_c93.all (xt_ck 93) = true := by decide +kernel
set_option maxRecDepth 100000 in
theorem xt_k94 : xt_c94.all (xt_ck 94) = true := by decide +kernel
