/-! The code tables against the bytes. -/
set_option maxRecDepth 100000 in
theorem xt_k29 : xt_c29.all (xt_ck 29) = true := by decide +kernel
set_option maxRecDepth 100000 in
theorem xt_k30 : xt_c30.all (xt_ck 30) = true := by decide +kernel
set_option maxRecDepth 100000 in
theorem xt_k31 : xt_c31.all (xt_ck 31) = true := by decide +kernel
set_option maxRecDepth 100000 in
theorem xt_k32 : xt_c32.all (xt_ck 32) = true := by decide +kernel
set_option maxRecDepth 100000 in
theorem xt_k33 : xt_c33.all (xt_ck 33) = true := by decide +kernel
set_option maxRecDepth 100000 in
theorem xt_k34 : xt_c34.all (xt_ck 34) = true := by decide +kernel
set_option maxRecDepth 100000 in
theorem xt_k35 : xt_c35.all (xt_ck 35) = true := by decide +kernel
set_option maxRecDepth 100000 in
theorem xt_k36 : xt_c36.all (xt_ck 36) = true := by decide +kernel
set_option maxRecDepth 100000 in
theorem xt_k37 : xt_c37.all (xt_ck 37) = true := by decide +kernel
set_option maxRecDepth 100000 in
theorem xt_k38 : xt_c38.all (xt_ck 38) = true := by decide +kernel
set_option maxRecDepth 100000 in
theorem xt_k39 : xt_c39.all (xt_ck 39) = true := by decide +kernel
set_option maxRecDepth 100000 in
theorem xt_k40 : xt_c40.all (xt_ck 40) = true := by decide +kernel
set_option maxRecDepth 100000 in
theorem xt_k41 : xt_c41.all (xt_ck 41) = true := by decide +kernel
set_option maxRecDepth 100000 in
theorem xt_k42 : xt_c42.all (xt_ck 42) = true := by decide +kernel
set_option maxRecDepth 100000 in
theorem xt_k43 : xt_c43.all (xt_ck 43) = true := by decide +kernel
set_option maxRecDepth 100000 in
theorem xt_k44 : xt_c44.all (xt_ck 44) = true := by decide +kernel
set_option maxRecDepth 100000 in
theorem xt_k45 : xt_c45.all (xt_ck 45) = true := by decide +kernel
set_option maxRecDepth 100000 in
theorem xt_k46 : xt_c46.all (xt_ck 46) = true := by decide +kernel
set_option maxRecDepth 100000 in
theorem xt_k47 : xt_c47.all (xt_ck 47) = true := by decide +kernel
set_option maxRecDepth 100000 in
theorem xt_k48 : xt_c48.all (xt_ck 48) = true := by decide +kernel
set_option maxRecDepth 100000 in
theorem xt_k49 : xt_c49.all (xt_ck 49) = true := by decide +kernel
set_option maxRecDepth 100000 in
theorem xt_k50 : xt_c50.all (xt_ck 50) = true := by decide +kernel
set_option maxRecDepth 100000 in
theorem xt_k51 : xt_c51.all (xt_ck 51) = true := by decide +kernel
set_option maxRecDepth 100000 in
theorem xt_k52 : xt_c52.all (xt_ck 52) = true := by decide +kernel
set_option maxRecDepth 100000 in
theorem xt_k53 : xt_c53.all (xt_ck 53) = true := by decide +kernel
set_option maxRecDepth 100000 in
theorem xt_k54 : xt_c54.all (xt_ck 54) = true := by decide +kernel
set_option maxRecDepth 100000 in
theorem xt_k55 : xt_c55.all (xt_ck 55) = true := by decide +kernel
set_option maxRecDepth 100000 in
theorem xt_k56 : xt_c56.all (xt_ck 56) = true := by decide +kernel
