/-! The code tables against the bytes. -/
set_option maxRecDepth 100000 in
theorem xt_k0 : xt_c0.all (xt_ck 0) = true := by decide +kernel
set_option maxRecDepth 100000 in
theorem xt_k1 : xt_c1.all (xt_ck 1) = true := by decide +kernel
set_option maxRecDepth 100000 in
theorem xt_k2 : xt_c2.all (xt_ck 2) = true := by decide +kernel
set_option maxRecDepth 100000 in
theorem xt_k3 : xt_c3.all (xt_ck 3) = true := by decide +kernel
set_option maxRecDepth 100000 in
theorem xt_k4 : xt_c4.all (xt_ck 4) = true := by decide +kernel
set_option maxRecDepth 100000 in
theorem xt_k5 : xt_c5.all (xt_ck 5) = true := by decide +kernel
set_option maxRecDepth 100000 in
theorem xt_k6 : xt_c6.all (xt_ck 6) = true := by decide +kernel
set_option maxRecDepth 100000 in
theorem xt_k7 : xt_c7.all (xt_ck 7) = true := by decide +kernel
set_option maxRecDepth 100000 in
theorem xt_k8 : xt_c8.all (xt_ck 8) = true := by decide +kernel
set_option maxRecDepth 100000 in
theorem xt_k9 : xt_c9.all (xt_ck 9) = true := by decide +kernel
set_option maxRecDepth 100000 in
theorem xt_k10 : xt_c10.all (xt_ck 10) = true := by decide +kernel
set_option maxRecDepth 100000 in
theorem xt_k11 : xt_c11.all (xt_ck 11) = true := by decide +kernel
set_option maxRecDepth 100000 in
theorem xt_k12 : xt_c12.all (xt_ck 12) = true := by decide +kernel
set_option maxRecDepth 100000 in
theorem xt_k13 : xt_c13.all (xt_ck 13) = true := by decide +kernel
set_option maxRecDepth 100000 in
theorem xt_k14 : xt_c14.all (xt_ck 14) = true := by decide +kernel
set_option maxRecDepth 100000 in
theorem xt_k15 : xt_c15.all (xt_ck 15) = true := by decide +kernel
set_option maxRecDepth 100000 in
theorem xt_k16 : xt_c16.all (xt_ck 16) = true := by decide +kernel
set_option maxRecDepth 100000 in
theorem xt_k17 : xt_c17.all (xt_ck 17) = true := by decide +kernel
set_option maxRecDepth 100000 in
theorem xt_k18 : xt_c18.all (xt_ck 18) = true := by decide +kernel
set_option maxRecDepth 100000 in
theorem xt_k19 : xt_c19.all (xt_ck 19) = true := by decide +kernel
set_option maxRecDepth 100000 in
theorem xt_k20 : xt_c20.all (xt_ck 20) = true := by decide +kernel
set_option maxRecDepth 100000 in
theorem xt_k21 : xt_c21.all (xt_ck 21) = true := by decide +kernel
set_option maxRecDepth 100000 in
theorem xt_k22 : xt_c22.all (xt_ck 22) = true := by decide +kernel
set_option maxRecDepth 100000 in
theorem xt_k23 : xt_c23.all (xt_ck 23) = true := by decide +kernel
set_option maxRecDepth 100000 in
theorem xt_k24 : xt_c24.all (xt_ck 24) = true := by decide +kernel
set_option maxRecDepth 100000 in
theorem xt_k25 : xt_c25.all (xt_ck 25) = true := by decide +kernel
set_option maxRecDepth 100000 in
theorem xt_k26 : xt_c26.all (xt_ck 26) = true := by decide +kernel
set_option maxRecDepth 100000 in
theorem xt_k27 : xt_c27.all (xt_ck 27) = true := by decide +kernel
set_option maxRecDepth 100000 in
theorem xt_k28 : xt_c28.all (xt_ck 28) = true := by decide +kernel
