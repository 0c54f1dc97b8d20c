/-! The code tables against the bytes. -/
set_option maxRecDepth 100000 in
theorem xt_k112 : xt_c112.all (xt_ck 112) = true := by decide +kernel
set_option maxRecDepth 100000 in
theorem xt_k113 : xt_c113.all (xt_ck 113) = true := by decide +kernel
set_option maxRecDepth 100000 in
theorem xt_k114 : xt_c114.all (xt_ck 114) = true := by decide +kernel
set_option maxRecDepth 100000 in
theorem xt_k115 : xt_c115.all (xt_ck 115) = true := by decide +kernel
set_option maxRecDepth 100000 in
theorem xt_k116 : xt_c116.all (xt_ck 116) = true := by decide +kernel
set_option maxRecDepth 100000 in
theorem xt_k117 : xt_c117.all (xt_ck 117) = true := by decide +kernel
set_option maxRecDepth 100000 in
theorem xt_k118 : xt_c118.all (xt_ck 118) = true := by decide +kernel
set_option maxRecDepth 100000 in
theorem xt_k119 : xt_c119.all (xt_ck 119) = true := by decide +kernel
set_option maxRecDepth 100000 in
theorem xt_k120 : xt_c120.all (xt_ck 120) = true := by decide +kernel
set_option maxRecDepth 100000 in
theorem xt_k121 : xt_c121.all (xt_ck 121) = true := by decide +kernel
set_option maxRecDepth 100000 in
theorem xt_k122 : xt_c122.all (xt_ck 122) = true := by decide +kernel
set_option maxRecDepth 100000 in
theorem xt_k123 : xt_c123.all (xt_ck 123) = true := by decide +kernel
set_option maxRecDepth 100000 in
theorem xt_k124 : xt_c124.all (xt_ck 124) = true := by decide +kernel
