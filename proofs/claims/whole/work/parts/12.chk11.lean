/-! The code tables against the bytes. -/
set_option maxRecDepth 100000 in
theorem xt_k165 : xt_c165.all (xt_ck 165) = true := by decide +kernel
set_option maxRecDepth 100000 in
theorem xt_k166 : xt_c166.all (xt_ck 166) = true := by decide +kernel
set_option maxRecDepth 100000 in
theorem xt_k167 : xt_c167.all (xt_ck 167) = true := by decide +kernel
set_option maxRecDepth 100000 in
theorem xt_k168 : xt_c168.all (xt_ck 168) = true := by decide +kernel
set_option maxRecDepth 100000 in
theorem xt_k169 : xt_c169.all (xt_ck 169) = true := by decide +kernel
set_option maxRecDepth 100000 in
theorem xt_k170 : xt_c170.all (xt_ck 170) = true := by decide +kernel
set_option maxRecDepth 100000 in
theorem xt_k171 : xt_c171.all (xt_ck 171) = true := by decide +kernel
