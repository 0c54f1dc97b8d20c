/-! The code tables against the bytes. -/
set_option maxRecDepth 100000 in
theorem xt_k95 : xt_c95.all (xt_ck 95) = true := by decide +kernel
set_option maxRecDepth 100000 in
theorem xt_k96 : xt_c96.all (xt_ck 96) = true := by decide +kernel
set_option maxRecDepth 100000 in
theorem xt_k97 : xt_c97.all (xt_ck 97) = true := by decide +kernel
set_option maxRecDepth 100000 in
theorem xt_k98 : xt_c98.all (xt_ck 98) = true := by decide +kernel
set_option maxRecDepth 100000 in
theorem xt_k99 : xt_c99.all (xt_ck 99) = true := by decide +kernel
set_option maxRecDepth 100000 in
theorem xt_k100 : xt_c100.all (xt_ck 100) = true := by decide +kernel
set_option maxRecDepth 100000 in
theorem xt_k101 : xt_c101.all (xt_ck 101) = true := by decide +kernel
set_option maxRecDepth 100000 in
theorem xt_k102 : xt_c102.all (xt_ck 102) = true := by decide +kernel
set_option maxRecDepth 100000 in
theorem xt_k103 : xt_c103.all (xt_ck 103) = true := by decide +kernel
set_option maxRecDepth 100000 in
theorem xt_k104 : xt_c104.all (xt_ck 104) = true := by decide +kernel
set_option maxRecDepth 100000 in
theorem xt_k105 : xt_c105.all (xt_ck 105) = true := by decide +kernel
set_option maxRecDepth 100000 in
theorem xt_k106 : xt_c106.all (xt_ck 106) = true := by decide +kernel
set_option maxRecDepth 100000 in
theorem xt_k107 : xt_c107.all (xt_ck 107) = true := by decide +kernel
set_option maxRecDepth 100000 in
theorem xt_k108 : xt_c108.all (xt_ck 108) = true := by decide +kernel
set_option maxRecDepth 100000 in
theorem xt_k109 : xt_c109.all (xt_ck 109) = true := by decide +kernel
set_option maxRecDepth 100000 in
theorem xt_k110 : xt_c110.all (xt_ck 110) = true := by decide +kernel
set_option maxRecDepth 100000 in
theorem xt_k111 : xt_c111.all (xt_ck 111) = true := by decide +kernel
