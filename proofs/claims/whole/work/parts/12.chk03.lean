/-! The code tables against the bytes. -/
set_option maxRecDepth 100000 in
theorem xt_k57 : xt_c57.all (xt_ck 57) = true := by decide +kernel
set_option maxRecDepth 100000 in
theorem xt_k58 : xt_c58.all (xt_ck 58) = true := by decide +kernel
set_option maxRecDepth 100000 in
theorem xt_k59 : xt_c59.all (xt_ck 59) = true := by decide +kernel
set_option maxRecDepth 100000 in
theorem xt_k60 : xt_c60.all (xt_ck 60) = true := by decide +kernel
set_option maxRecDepth 100000 in
theorem xt_k61 : xt_c61.all (xt_ck 61) = true := by decide +kernel
set_option maxRecDepth 100000 in
theorem xt_k62 : xt_c62.all (xt_ck 62) = true := by decide +kernel
set_option maxRecDepth 100000 in
theorem xt_k63 : xt_c63.all (xt_ck 63) = true := by decide +kernel
set_option maxRecDepth 100000 in
theorem xt_k64 : xt_c64.all (xt_ck 64) = true := by decide +kernel
set_option maxRecDepth 100000 in
theorem xt_k65 : xt_c65.all (xt_ck 65) = true := by decide +kernel
set_option maxRecDepth 100000 in
theorem xt_k66 : xt_c66.all (xt_ck 66) = true := by decide +kernel
set_option maxRecDepth 100000 in
theorem xt_k67 : xt_c67.all (xt_ck 67) = true := by decide +kernel
set_option maxRecDepth 100000 in
theorem xt_k68 : xt_c68.all (xt_ck 68) = true := by decide +kernel
set_option maxRecDepth 100000 in
theorem xt_k69 : xt_c69.all (xt_ck 69) = true := by decide +kernel
set_option maxRecDepth 100000 in
theorem xt_k70 : xt_c70.all (xt_ck 70) = true := by decide +kernel
set_option maxRecDepth 100000 in
theorem xt_k71 : xt_c71.all (xt_ck 71) = true := by decide +kernel
set_option maxRecDepth 100000 in
theorem xt_k72 : xt_c72.all (xt_ck 72) = true := by decide +kernel
set_option maxRecDepth 100000 in
theorem xt_k73 : xt_c73.all (xt_ck 73) = true := by decide +kernel
set_option maxRecDepth 100000 in
theorem xt_k74 : xt_c74.all (xt_ck 74) = true := by decide +kernel
set_option maxRecDepth 100000 in
theorem xt_k75 : xt_c75.all (xt_ck 75) = true := by decide +kernel
set_option maxRecDepth 100000 in
theorem xt_k76 : xt_c76.all (xt_ck 76) = true := by decide +kernel
set_option maxRecDepth 100000 in
theorem xt_k77 : xt_c77.all (xt_ck 77) = true := by decide +kernel
set_option maxRecDepth 100000 in
theorem xt_k78 : xt_c78.all (xt_ck 78) = true := by decide +kernel
set_option maxRecDepth 100000 in
theorem xt_k79 : xt_c79.all (xt_ck 79) = true := by decide +kernel
