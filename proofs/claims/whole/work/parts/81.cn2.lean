/-! The class's constructors over the list memory. Written by prog/gen_ctor.py. -/
section CN
variable {L : Nat} {xs : Nat → Int32} {d : Nat} {a1 a2 a3 : Int32} {Q : Option (xm_V Nat) → List ml_C → Prop}
set_option maxHeartbeats 4000000 in
set_option maxRecDepth 100000 in
theorem cn_c25 (h : Q none (mh_c48 a1 a2 a3)) : xm_MW (ml_I L xs) (d + 1) 73 [.inr (some 44)] (mh_c47 a1 a2 a3) Q := by
  refine xq_in [some (.inr (some 44))] rfl ?_
  refine xq_go 6 (mc' := 0) (ms' := 0) (pc' := 12) (ls' := [some (.inr (some 44))]) (st' := []) (s' := (mh_c48 a1 a2 a3)) rfl ?_
  exact xq_rt (v := none) rfl h
set_option maxHeartbeats 4000000 in
set_option maxRecDepth 100000 in
theorem cn_c26 (h : Q none (mh_c50 a1 a2 a3)) : xm_MW (ml_I L xs) (d + 1) 73 [.inr (some 46)] (mh_c49 a1 a2 a3) Q := by
  refine xq_in [some (.inr (some 46))] rfl ?_
  refine xq_go 6 (mc' := 0) (ms' := 0) (pc' := 12) (ls' := [some (.inr (some 46))]) (st' := []) (s' := (mh_c50 a1 a2 a3)) rfl ?_
  exact xq_rt (v := none) rfl h
set_option maxHeartbeats 4000000 in
set_option maxRecDepth 100000 in
theorem cn_c27 (h : Q none (mh_c52 a1 a2 a3)) : xm_MW (ml_I L xs) (d + 1) 73 [.inr (some 48)] (mh_c51 a1 a2 a3) Q := by
  refine xq_in [some (.inr (some 48))] rfl ?_
  refine xq_go 6 (mc' := 0) (ms' := 0) (pc' := 12) (ls' := [some (.inr (some 48))]) (st' := []) (s' := (mh_c52 a1 a2 a3)) rfl ?_
  exact xq_rt (v := none) rfl h
set_option maxHeartbeats 4000000 in
set_option maxRecDepth 100000 in
theorem cn_c28 (h : Q none (mh_c54 a1 a2 a3)) : xm_MW (ml_I L xs) (d + 1) 73 [.inr (some 50)] (mh_c53 a1 a2 a3) Q := by
  refine xq_in [some (.inr (some 50))] rfl ?_
  refine xq_go 6 (mc' := 0) (ms' := 0) (pc' := 12) (ls' := [some (.inr (some 50))]) (st' := []) (s' := (mh_c54 a1 a2 a3)) rfl ?_
  exact xq_rt (v := none) rfl h
set_option maxHeartbeats 4000000 in
set_option maxRecDepth 100000 in
theorem cn_c29 (h : Q none (mh_c56 a1 a2 a3)) : xm_MW (ml_I L xs) (d + 1) 73 [.inr (some 52)] (mh_c55 a1 a2 a3) Q := by
  refine xq_in [some (.inr (some 52))] rfl ?_
  refine xq_go 6 (mc' := 0) (ms' := 0) (pc' := 12) (ls' := [some (.inr (some 52))]) (st' := []) (s' := (mh_c56 a1 a2 a3)) rfl ?_
  exact xq_rt (v := none) rfl h
set_option maxHeartbeats 4000000 in
set_option maxRecDepth 100000 in
theorem cn_c30 (h : Q none (mh_c58 a1 a2 a3)) : xm_MW (ml_I L xs) (d + 1) 73 [.inr (some 54)] (mh_c57 a1 a2 a3) Q := by
  refine xq_in [some (.inr (some 54))] rfl ?_
  refine xq_go 6 (mc' := 0) (ms' := 0) (pc' := 12) (ls' := [some (.inr (some 54))]) (st' := []) (s' := (mh_c58 a1 a2 a3)) rfl ?_
  exact xq_rt (v := none) rfl h
set_option maxHeartbeats 4000000 in
set_option maxRecDepth 100000 in
theorem cn_c31 (h : Q none (mh_c60 a1 a2 a3)) : xm_MW (ml_I L xs) (d + 1) 73 [.inr (some 56)] (mh_c59 a1 a2 a3) Q := by
  refine xq_in [some (.inr (some 56))] rfl ?_
  refine xq_go 6 (mc' := 0) (ms' := 0) (pc' := 12) (ls' := [some (.inr (some 56))]) (st' := []) (s' := (mh_c60 a1 a2 a3)) rfl ?_
  exact xq_rt (v := none) rfl h
set_option maxHeartbeats 4000000 in
set_option maxRecDepth 100000 in
theorem cn_c32 (h : Q none (mh_c62 a1 a2 a3)) : xm_MW (ml_I L xs) (d + 1) 73 [.inr (some 58)] (mh_c61 a1 a2 a3) Q := by
  refine xq_in [some (.inr (some 58))] rfl ?_
  refine xq_go 6 (mc' := 0) (ms' := 0) (pc' := 12) (ls' := [some (.inr (some 58))]) (st' := []) (s' := (mh_c62 a1 a2 a3)) rfl ?_
  exact xq_rt (v := none) rfl h
set_option maxHeartbeats 4000000 in
set_option maxRecDepth 100000 in
theorem cn_c33 (h : Q none (mh_c64 a1 a2 a3)) : xm_MW (ml_I L xs) (d + 1) 73 [.inr (some 60)] (mh_c63 a1 a2 a3) Q := by
  refine xq_in [some (.inr (some 60))] rfl ?_
  refine xq_go 6 (mc' := 0) (ms' := 0) (pc' := 12) (ls' := [some (.inr (some 60))]) (st' := []) (s' := (mh_c64 a1 a2 a3)) rfl ?_
  exact xq_rt (v := none) rfl h
set_option maxHeartbeats 4000000 in
set_option maxRecDepth 100000 in
theorem cn_c34 (h : Q none (mh_c66 a1 a2 a3)) : xm_MW (ml_I L xs) (d + 1) 73 [.inr (some 62)] (mh_c65 a1 a2 a3) Q := by
  refine xq_in [some (.inr (some 62))] rfl ?_
  refine xq_go 6 (mc' := 0) (ms' := 0) (pc' := 12) (ls' := [some (.inr (some 62))]) (st' := []) (s' := (mh_c66 a1 a2 a3)) rfl ?_
  exact xq_rt (v := none) rfl h
set_option maxHeartbeats 4000000 in
set_option maxRecDepth 100000 in
theorem cn_c35 (h : Q none (mh_c68 a1 a2 a3)) : xm_MW (ml_I L xs) (d + 1) 73 [.inr (some 64)] (mh_c67 a1 a2 a3) Q := by
  refine xq_in [some (.inr (some 64))] rfl ?_
  refine xq_go 6 (mc' := 0) (ms' := 0) (pc' := 12) (ls' := [some (.inr (some 64))]) (st' := []) (s' := (mh_c68 a1 a2 a3)) rfl ?_
  exact xq_rt (v := none) rfl h
set_option maxHeartbeats 4000000 in
set_option maxRecDepth 100000 in
theorem cn_c36 (h : Q none (mh_c70 a1 a2 a3)) : xm_MW (ml_I L xs) (d + 1) 73 [.inr (some 66)] (mh_c69 a1 a2 a3) Q := by
  refine xq_in [some (.inr (some 66))] rfl ?_
  refine xq_go 6 (mc' := 0) (ms' := 0) (pc' := 12) (ls' := [some (.inr (some 66))]) (st' := []) (s' := (mh_c70 a1 a2 a3)) rfl ?_
  exact xq_rt (v := none) rfl h
set_option maxHeartbeats 4000000 in
set_option maxRecDepth 100000 in
theorem cn_c37 (h : Q none (mh_c72 a1 a2 a3)) : xm_MW (ml_I L xs) (d + 1) 73 [.inr (some 68)] (mh_c71 a1 a2 a3) Q := by
  refine xq_in [some (.inr (some 68))] rfl ?_
  refine xq_go 6 (mc' := 0) (ms' := 0) (pc' := 12) (ls' := [some (.inr (some 68))]) (st' := []) (s' := (mh_c72 a1 a2 a3)) rfl ?_
  exact xq_rt (v := none) rfl h
set_option maxHeartbeats 4000000 in
set_option maxRecDepth 100000 in
theorem cn_c38 (h : Q none (mh_c74 a1 a2 a3)) : xm_MW (ml_I L xs) (d + 1) 73 [.inr (some 70)] (mh_c73 a1 a2 a3) Q := by
  refine xq_in [some (.inr (some 70))] rfl ?_
  refine xq_go 6 (mc' := 0) (ms' := 0) (pc' := 12) (ls' := [some (.inr (some 70))]) (st' := []) (s' := (mh_c74 a1 a2 a3)) rfl ?_
  exact xq_rt (v := none) rfl h
set_option maxHeartbeats 4000000 in
set_option maxRecDepth 100000 in
theorem cn_c39 (h : Q none (mh_c75 a1 a2 a3)) : xm_MW (ml_I L xs) (d + 2) 115 [.inr (some 2)] (mh_c6 a1 a2 a3) Q := by
  refine xq_in [some (.inr (some 2)), none] rfl ?_
  refine xq_go 9 (mc' := 67) (ms' := 672) (pc' := 18) (ls' := [some (.inr (some 2)), none]) (st' := [.inr (some 4), .inr (some 4), .inr (some 2)]) (s' := (mh_c7 a1 a2 a3)) rfl ?_
  refine xq_cl (y' := 73) (as := [.inr (some 4)]) (r := [.inr (some 4), .inr (some 2)]) rfl rfl ?_
  refine cn_c5 (d := d + 0) ?_
  show xq_t (ml_I L xs) (d + 1) 115 66 660 21 [some (.inr (some 2)), none] [.inr (some 4), .inr (some 2)] (mh_c8 a1 a2 a3) Q
  refine xq_go 4 (mc' := 65) (ms' := 652) (pc' := 29) (ls' := [some (.inr (some 2)), none]) (st' := [.inr (some 6), .inr (some 6), .inr (some 2)]) (s' := (mh_c9 a1 a2 a3)) rfl ?_
  refine xq_cl (y' := 73) (as := [.inr (some 6)]) (r := [.inr (some 6), .inr (some 2)]) rfl rfl ?_
  refine cn_c6 (d := d + 0) ?_
  show xq_t (ml_I L xs) (d + 1) 115 64 640 32 [some (.inr (some 2)), none] [.inr (some 6), .inr (some 2)] (mh_c10 a1 a2 a3) Q
  refine xq_go 11 (mc' := 63) (ms' := 632) (pc' := 52) (ls' := [some (.inr (some 2)), some (.inl 0)]) (st' := [.inr (some 8), .inr (some 8), .inl 0, .inr (some 3)]) (s' := (mh_c11 a1 a2 a3)) rfl ?_
  refine xq_cl (y' := 73) (as := [.inr (some 8)]) (r := [.inr (some 8), .inl 0, .inr (some 3)]) rfl rfl ?_
  refine cn_c7 (d := d + 0) ?_
  show xq_t (ml_I L xs) (d + 1) 115 62 620 55 [some (.inr (some 2)), some (.inl 0)] [.inr (some 8), .inl 0, .inr (some 3)] (mh_c12 a1 a2 a3) Q
  refine xq_go 11 (mc' := 61) (ms' := 612) (pc' := 52) (ls' := [some (.inr (some 2)), some (.inl 1)]) (st' := [.inr (some 10), .inr (some 10), .inl 1, .inr (some 3)]) (s' := (mh_c13 a1 a2 a3)) rfl ?_
  refine xq_cl (y' := 73) (as := [.inr (some 10)]) (r := [.inr (some 10), .inl 1, .inr (some 3)]) rfl rfl ?_
  refine cn_c8 (d := d + 0) ?_
  show xq_t (ml_I L xs) (d + 1) 115 60 600 55 [some (.inr (some 2)), some (.inl 1)] [.inr (some 10), .inl 1, .inr (some 3)] (mh_c14 a1 a2 a3) Q
  refine xq_go 11 (mc' := 59) (ms' := 592) (pc' := 52) (ls' := [some (.inr (some 2)), some (.inl 2)]) (st' := [.inr (some 12), .inr (some 12), .inl 2, .inr (some 3)]) (s' := (mh_c15 a1 a2 a3)) rfl ?_
  refine xq_cl (y' := 73) (as := [.inr (some 12)]) (r := [.inr (some 12), .inl 2, .inr (some 3)]) rfl rfl ?_
  refine cn_c9 (d := d + 0) ?_
  show xq_t (ml_I L xs) (d + 1) 115 58 580 55 [some (.inr (some 2)), some (.inl 2)] [.inr (some 12), .inl 2, .inr (some 3)] (mh_c16 a1 a2 a3) Q
  refine xq_go 11 (mc' := 57) (ms' := 572) (pc' := 52) (ls' := [some (.inr (some 2)), some (.inl 3)]) (st' := [.inr (some 14), .inr (some 14), .inl 3, .inr (some 3)]) (s' := (mh_c17 a1 a2 a3)) rfl ?_
  refine xq_cl (y' := 73) (as := [.inr (some 14)]) (r := [.inr (some 14), .inl 3, .inr (some 3)]) rfl rfl ?_
  refine cn_c10 (d := d + 0) ?_
  show xq_t (ml_I L xs) (d + 1) 115 56 560 55 [some (.inr (some 2)), some (.inl 3)] [.inr (some 14), .inl 3, .inr (some 3)] (mh_c18 a1 a2 a3) Q
  refine xq_go 11 (mc' := 55) (ms' := 552) (pc' := 52) (ls' := [some (.inr (some 2)), some (.inl 4)]) (st' := [.inr (some 16), .inr (some 16), .inl 4, .inr (some 3)]) (s' := (mh_c19 a1 a2 a3)) rfl ?_
  refine xq_cl (y' := 73) (as := [.inr (some 16)]) (r := [.inr (some 16), .inl 4, .inr (some 3)]) rfl rfl ?_
  refine cn_c11 (d := d + 0) ?_
  show xq_t (ml_I L xs) (d + 1) 115 54 540 55 [some (.inr (some 2)), some (.inl 4)] [.inr (some 16), .inl 4, .inr (some 3)] (mh_c20 a1 a2 a3) Q
  refine xq_go 11 (mc' := 53) (ms' := 532) (pc' := 52) (ls' := [some (.inr (some 2)), some (.inl 5)]) (st' := [.inr (some 18), .inr (some 18), .inl 5, .inr (some 3)]) (s' := (mh_c21 a1 a2 a3)) rfl ?_
  refine xq_cl (y' := 73) (as := [.inr (some 18)]) (r := [.inr (some 18), .inl 5, .inr (some 3)]) rfl rfl ?_
  refine cn_c12 (d := d + 0) ?_
  show xq_t (ml_I L xs) (d + 1) 115 52 520 55 [some (.inr (some 2)), some (.inl 5)] [.inr (some 18), .inl 5, .inr (some 3)] (mh_c22 a1 a2 a3) Q
  refine xq_go 11 (mc' := 51) (ms' := 512) (pc' := 52) (ls' := [some (.inr (some 2)), some (.inl 6)]) (st' := [.inr (some 20), .inr (some 20), .inl 6, .inr (some 3)]) (s' := (mh_c23 a1 a2 a3)) rfl ?_
  refine xq_cl (y' := 73) (as := [.inr (some 20)]) (r := [.inr (some 20), .inl 6, .inr (some 3)]) rfl rfl ?_
  refine cn_c13 (d := d + 0) ?_
  show xq_t (ml_I L xs) (d + 1) 115 50 500 55 [some (.inr (some 2)), some (.inl 6)] [.inr (some 20), .inl 6, .inr (some 3)] (mh_c24 a1 a2 a3) Q
  refine xq_go 11 (mc' := 49) (ms' := 492) (pc' := 52) (ls' := [some (.inr (some 2)), some (.inl 7)]) (st' := [.inr (some 22), .inr (some 22), .inl 7, .inr (some 3)]) (s' := (mh_c25 a1 a2 a3)) rfl ?_
  refine xq_cl (y' := 73) (as := [.inr (some 22)]) (r := [.inr (some 22), .inl 7, .inr (some 3)]) rfl rfl ?_
  refine cn_c14 (d := d + 0) ?_
  show xq_t (ml_I L xs) (d + 1) 115 48 480 55 [some (.inr (some 2)), some (.inl 7)] [.inr (some 22), .inl 7, .inr (some 3)] (mh_c26 a1 a2 a3) Q
  refine xq_go 11 (mc' := 47) (ms' := 472) (pc' := 52) (ls' := [some (.inr (some 2)), some (.inl 8)]) (st' := [.inr (some 24), .inr (some 24), .inl 8, .inr (some 3)]) (s' := (mh_c27 a1 a2 a3)) rfl ?_
  refine xq_cl (y' := 73) (as := [.inr (some 24)]) (r := [.inr (some 24), .inl 8, .inr (some 3)]) rfl rfl ?_
  refine cn_c15 (d := d + 0) ?_
  show xq_t (ml_I L xs) (d + 1) 115 46 460 55 [some (.inr (some 2)), some (.inl 8)] [.inr (some 24), .inl 8, .inr (some 3)] (mh_c28 a1 a2 a3) Q
  refine xq_go 11 (mc' := 45) (ms' := 452) (pc' := 52) (ls' := [some (.inr (some 2)), some (.inl 9)]) (st' := [.inr (some 26), .inr (some 26), .inl 9, .inr (some 3)]) (s' := (mh_c29 a1 a2 a3)) rfl ?_
  refine xq_cl (y' := 73) (as := [.inr (some 26)]) (r := [.inr (some 26), .inl 9, .inr (some 3)]) rfl rfl ?_
  refine cn_c16 (d := d + 0) ?_
  show xq_t (ml_I L xs) (d + 1) 115 44 440 55 [some (.inr (some 2)), some (.inl 9)] [.inr (some 26), .inl 9, .inr (some 3)] (mh_c30 a1 a2 a3) Q
  refine xq_go 11 (mc' := 43) (ms' := 432) (pc' := 52) (ls' := [some (.inr (some 2)), some (.inl 10)]) (st' := [.inr (some 28), .inr (some 28), .inl 10, .inr (some 3)]) (s' := (mh_c31 a1 a2 a3)) rfl ?_
  refine xq_cl (y' := 73) (as := [.inr (some 28)]) (r := [.inr (some 28), .inl 10, .inr (some 3)]) rfl rfl ?_
  refine cn_c17 (d := d + 0) ?_
  show xq_t (ml_I L xs) (d + 1) 115 42 420 55 [some (.inr (some 2)), some (.inl 10)] [.inr (some 28), .inl 10, .inr (some 3)] (mh_c32 a1 a2 a3) Q
  refine xq_go 11 (mc' := 41) (ms' := 412) (pc' := 52) (ls' := [some (.inr (some 2)), some (.inl 11)]) (st' := [.inr (some 30), .inr (some 30), .inl 11, .inr (some 3)]) (s' := (mh_c33 a1 a2 a3)) rfl ?_
  refine xq_cl (y' := 73) (as := [.inr (some 30)]) (r := [.inr (some 30), .inl 11, .inr (some 3)]) rfl rfl ?_
  refine cn_c18 (d := d + 0) ?_
  show xq_t (ml_I L xs) (d + 1) 115 40 400 55 [some (.inr (some 2)), some (.inl 11)] [.inr (some 30), .inl 11, .inr (some 3)] (mh_c34 a1 a2 a3) Q
  refine xq_go 11 (mc' := 39) (ms' := 392) (pc' := 52) (ls' := [some (.inr (some 2)), some (.inl 12)]) (st' := [.inr (some 32), .inr (some 32), .inl 12, .inr (some 3)]) (s' := (mh_c35 a1 a2 a3)) rfl ?_
  refine xq_cl (y' := 73) (as := [.inr (some 32)]) (r := [.inr (some 32), .inl 12, .inr (some 3)]) rfl rfl ?_
  refine cn_c19 (d := d + 0) ?_
  show xq_t (ml_I L xs) (d + 1) 115 38 380 55 [some (.inr (some 2)), some (.inl 12)] [.inr (some 32), .inl 12, .inr (some 3)] (mh_c36 a1 a2 a3) Q
  refine xq_go 11 (mc' := 37) (ms' := 372) (pc' := 52) (ls' := [some (.inr (some 2)), some (.inl 13)]) (st' := [.inr (some 34), .inr (some 34), .inl 13, .inr (some 3)]) (s' := (mh_c37 a1 a2 a3)) rfl ?_
  refine xq_cl (y' := 73) (as := [.inr (some 34)]) (r := [.inr (some 34), .inl 13, .inr (some 3)]) rfl rfl ?_
  refine cn_c20 (d := d + 0) ?_
  show xq_t (ml_I L xs) (d + 1) 115 36 360 55 [some (.inr (some 2)), some (.inl 13)] [.inr (some 34), .inl 13, .inr (some 3)] (mh_c38 a1 a2 a3) Q
  refine xq_go 11 (mc' := 35) (ms' := 352) (pc' := 52) (ls' := [some (.inr (some 2)), some (.inl 14)]) (st' := [.inr (some 36), .inr (some 36), .inl 14, .inr (some 3)]) (s' := (mh_c39 a1 a2 a3)) rfl ?_
  refine xq_cl (y' := 73) (as := [.inr (some 36)]) (r := [.inr (some 36), .inl 14, .inr (some 3)]) rfl rfl ?_
  refine cn_c21 (d := d + 0) ?_
  show xq_t (ml_I L xs) (d + 1) 115 34 340 55 [some (.inr (some 2)), some (.inl 14)] [.inr (some 36), .inl 14, .inr (some 3)] (mh_c40 a1 a2 a3) Q
  refine xq_go 11 (mc' := 33) (ms' := 332) (pc' := 52) (ls' := [some (.inr (some 2)), some (.inl 15)]) (st' := [.inr (some 38), .inr (some 38), .inl 15, .inr (some 3)]) (s' := (mh_c41 a1 a2 a3)) rfl ?_
  refine xq_cl (y' := 73) (as := [.inr (some 38)]) (r := [.inr (some 38), .inl 15, .inr (some 3)]) rfl rfl ?_
  refine cn_c22 (d := d + 0) ?_
  show xq_t (ml_I L xs) (d + 1) 115 32 320 55 [some (.inr (some 2)), some (.inl 15)] [.inr (some 38), .inl 15, .inr (some 3)] (mh_c42 a1 a2 a3) Q
  refine xq_go 11 (mc' := 31) (ms' := 312) (pc' := 52) (ls' := [some (.inr (some 2)), some (.inl 16)]) (st' := [.inr (some 40), .inr (some 40), .inl 16, .inr (some 3)]) (s' := (mh_c43 a1 a2 a3)) rfl ?_
  refine xq_cl (y' := 73) (as := [.inr (some 40)]) (r := [.inr (some 40), .inl 16, .inr (some 3)]) rfl rfl ?_
  refine cn_c23 (d := d + 0) ?_
  show xq_t (ml_I L xs) (d + 1) 115 30 300 55 [some (.inr (some 2)), some (.inl 16)] [.inr (some 40), .inl 16, .inr (some 3)] (mh_c44 a1 a2 a3) Q
  refine xq_go 11 (mc' := 29) (ms' := 292) (pc' := 52) (ls' := [some (.inr (some 2)), some (.inl 17)]) (st' := [.inr (some 42), .inr (some 42), .inl 17, .inr (some 3)]) (s' := (mh_c45 a1 a2 a3)) rfl ?_
  refine xq_cl (y' := 73) (as := [.inr (some 42)]) (r := [.inr (some 42), .inl 17, .inr (some 3)]) rfl rfl ?_
  refine cn_c24 (d := d + 0) ?_
  show xq_t (ml_I L xs) (d + 1) 115 28 280 55 [some (.inr (some 2)), some (.inl 17)] [.inr (some 42), .inl 17, .inr (some 3)] (mh_c46 a1 a2 a3) Q
  refine xq_go 11 (mc' := 27) (ms' := 272) (pc' := 52) (ls' := [some (.inr (some 2)), some (.inl 18)]) (st' := [.inr (some 44), .inr (some 44), .inl 18, .inr (some 3)]) (s' := (mh_c47 a1 a2 a3)) rfl ?_
  refine xq_cl (y' := 73) (as := [.inr (some 44)]) (r := [.inr (some 44), .inl 18, .inr (some 3)]) rfl rfl ?_
  refine cn_c25 (d := d + 0) ?_
  show xq_t (ml_I L xs) (d + 1) 115 26 260 55 [some (.inr (some 2)), some (.inl 18)] [.inr (some 44), .inl 18, .inr (some 3)] (mh_c48 a1 a2 a3) Q
  refine xq_go 11 (mc' := 25) (ms' := 252) (pc' := 52) (ls' := [some (.inr (some 2)), some (.inl 19)]) (st' := [.inr (some 46), .inr (some 46), .inl 19, .inr (some 3)]) (s' := (mh_c49 a1 a2 a3)) rfl ?_
  refine xq_cl (y' := 73) (as := [.inr (some 46)]) (r := [.inr (some 46), .inl 19, .inr (some 3)]) rfl rfl ?_
  refine cn_c26 (d := d + 0) ?_
  show xq_t (ml_I L xs) (d + 1) 115 24 240 55 [some (.inr (some 2)), some (.inl 19)] [.inr (some 46), .inl 19, .inr (some 3)] (mh_c50 a1 a2 a3) Q
  refine xq_go 11 (mc' := 23) (ms' := 232) (pc' := 52) (ls' := [some (.inr (some 2)), some (.inl 20)]) (st' := [.inr (some 48), .inr (some 48), .inl 20, .inr (some 3)]) (s' := (mh_c51 a1 a2 a3)) rfl ?_
  refine xq_cl (y' := 73) (as := [.inr (some 48)]) (r := [.inr (some 48), .inl 20, .inr (some 3)]) rfl rfl ?_
  refine cn_c27 (d := d + 0) ?_
  show xq_t (ml_I L xs) (d + 1) 115 22 220 55 [some (.inr (some 2)), some (.inl 20)] [.inr (some 48), .inl 20, .inr (some 3)] (mh_c52 a1 a2 a3) Q
  refine xq_go 11 (mc' := 21) (ms' := 212) (pc' := 52) (ls' := [some (.inr (some 2)), some (.inl 21)]) (st' := [.inr (some 50), .inr (some 50), .inl 21, .inr (some 3)]) (s' := (mh_c53 a1 a2 a3)) rfl ?_
  refine xq_cl (y' := 73) (as := [.inr (some 50)]) (r := [.inr (some 50), .inl 21, .inr (some 3)]) rfl rfl ?_
  refine cn_c28 (d := d + 0) ?_
  show xq_t (ml_I L xs) (d + 1) 115 20 200 55 [some (.inr (some 2)), some (.inl 21)] [.inr (some 50), .inl 21, .inr (some 3)] (mh_c54 a1 a2 a3) Q
  refine xq_go 11 (mc' := 19) (ms' := 192) (pc' := 52) (ls' := [some (.inr (some 2)), some (.inl 22)]) (st' := [.inr (some 52), .inr (some 52), .inl 22, .inr (some 3)]) (s' := (mh_c55 a1 a2 a3)) rfl ?_
  refine xq_cl (y' := 73) (as := [.inr (some 52)]) (r := [.inr (some 52), .inl 22, .inr (some 3)]) rfl rfl ?_
  refine cn_c29 (d := d + 0) ?_
  show xq_t (ml_I L xs) (d + 1) 115 18 180 55 [some (.inr (some 2)), some (.inl 22)] [.inr (some 52), .inl 22, .inr (some 3)] (mh_c56 a1 a2 a3) Q
  refine xq_go 11 (mc' := 17) (ms' := 172) (pc' := 52) (ls' := [some (.inr (some 2)), some (.inl 23)]) (st' := [.inr (some 54), .inr (some 54), .inl 23, .inr (some 3)]) (s' := (mh_c57 a1 a2 a3)) rfl ?_
  refine xq_cl (y' := 73) (as := [.inr (some 54)]) (r := [.inr (some 54), .inl 23, .inr (some 3)]) rfl rfl ?_
  refine cn_c30 (d := d + 0) ?_
  show xq_t (ml_I L xs) (d + 1) 115 16 160 55 [some (.inr (some 2)), some (.inl 23)] [.inr (some 54), .inl 23, .inr (some 3)] (mh_c58 a1 a2 a3) Q
  refine xq_go 11 (mc' := 15) (ms' := 152) (pc' := 52) (ls' := [some (.inr (some 2)), some (.inl 24)]) (st' := [.inr (some 56), .inr (some 56), .inl 24, .inr (some 3)]) (s' := (mh_c59 a1 a2 a3)) rfl ?_
  refine xq_cl (y' := 73) (as := [.inr (some 56)]) (r := [.inr (some 56), .inl 24, .inr (some 3)]) rfl rfl ?_
  refine cn_c31 (d := d + 0) ?_
  show xq_t (ml_I L xs) (d + 1) 115 14 140 55 [some (.inr (some 2)), some (.inl 24)] [.inr (some 56), .inl 24, .inr (some 3)] (mh_c60 a1 a2 a3) Q
  refine xq_go 11 (mc' := 13) (ms' := 132) (pc' := 52) (ls' := [some (.inr (some 2)), some (.inl 25)]) (st' := [.inr (some 58), .inr (some 58), .inl 25, .inr (some 3)]) (s' := (mh_c61 a1 a2 a3)) rfl ?_
  refine xq_cl (y' := 73) (as := [.inr (some 58)]) (r := [.inr (some 58), .inl 25, .inr (some 3)]) rfl rfl ?_
  refine cn_c32 (d := d + 0) ?_
  show xq_t (ml_I L xs) (d + 1) 115 12 120 55 [some (.inr (some 2)), some (.inl 25)] [.inr (some 58), .inl 25, .inr (some 3)] (mh_c62 a1 a2 a3) Q
  refine xq_go 11 (mc' := 11) (ms' := 112) (pc' := 52) (ls' := [some (.inr (some 2)), some (.inl 26)]) (st' := [.inr (some 60), .inr (some 60), .inl 26, .inr (some 3)]) (s' := (mh_c63 a1 a2 a3)) rfl ?_
  refine xq_cl (y' := 73) (as := [.inr (some 60)]) (r := [.inr (some 60), .inl 26, .inr (some 3)]) rfl rfl ?_
  refine cn_c33 (d := d + 0) ?_
  show xq_t (ml_I L xs) (d + 1) 115 10 100 55 [some (.inr (some 2)), some (.inl 26)] [.inr (some 60), .inl 26, .inr (some 3)] (mh_c64 a1 a2 a3) Q
  refine xq_go 11 (mc' := 9) (ms' := 92) (pc' := 52) (ls' := [some (.inr (some 2)), some (.inl 27)]) (st' := [.inr (some 62), .inr (some 62), .inl 27, .inr (some 3)]) (s' := (mh_c65 a1 a2 a3)) rfl ?_
  refine xq_cl (y' := 73) (as := [.inr (some 62)]) (r := [.inr (some 62), .inl 27, .inr (some 3)]) rfl rfl ?_
  refine cn_c34 (d := d + 0) ?_
  show xq_t (ml_I L xs) (d + 1) 115 8 80 55 [some (.inr (some 2)), some (.inl 27)] [.inr (some 62), .inl 27, .inr (some 3)] (mh_c66 a1 a2 a3) Q
  refine xq_go 11 (mc' := 7) (ms' := 72) (pc' := 52) (ls' := [some (.inr (some 2)), some (.inl 28)]) (st' := [.inr (some 64), .inr (some 64), .inl 28, .inr (some 3)]) (s' := (mh_c67 a1 a2 a3)) rfl ?_
  refine xq_cl (y' := 73) (as := [.inr (some 64)]) (r := [.inr (some 64), .inl 28, .inr (some 3)]) rfl rfl ?_
  refine cn_c35 (d := d + 0) ?_
  show xq_t (ml_I L xs) (d + 1) 115 6 60 55 [some (.inr (some 2)), some (.inl 28)] [.inr (some 64), .inl 28, .inr (some 3)] (mh_c68 a1 a2 a3) Q
  refine xq_go 11 (mc' := 5) (ms' := 52) (pc' := 52) (ls' := [some (.inr (some 2)), some (.inl 29)]) (st' := [.inr (some 66), .inr (some 66), .inl 29, .inr (some 3)]) (s' := (mh_c69 a1 a2 a3)) rfl ?_
  refine xq_cl (y' := 73) (as := [.inr (some 66)]) (r := [.inr (some 66), .inl 29, .inr (some 3)]) rfl rfl ?_
  refine cn_c36 (d := d + 0) ?_
  show xq_t (ml_I L xs) (d + 1) 115 4 40 55 [some (.inr (some 2)), some (.inl 29)] [.inr (some 66), .inl 29, .inr (some 3)] (mh_c70 a1 a2 a3) Q
  refine xq_go 11 (mc' := 3) (ms' := 32) (pc' := 52) (ls' := [some (.inr (some 2)), some (.inl 30)]) (st' := [.inr (some 68), .inr (some 68), .inl 30, .inr (some 3)]) (s' := (mh_c71 a1 a2 a3)) rfl ?_
  refine xq_cl (y' := 73) (as := [.inr (some 68)]) (r := [.inr (some 68), .inl 30, .inr (some 3)]) rfl rfl ?_
  refine cn_c37 (d := d + 0) ?_
  show xq_t (ml_I L xs) (d + 1) 115 2 20 55 [some (.inr (some 2)), some (.inl 30)] [.inr (some 68), .inl 30, .inr (some 3)] (mh_c72 a1 a2 a3) Q
  refine xq_go 11 (mc' := 1) (ms' := 12) (pc' := 52) (ls' := [some (.inr (some 2)), some (.inl 31)]) (st' := [.inr (some 70), .inr (some 70), .inl 31, .inr (some 3)]) (s' := (mh_c73 a1 a2 a3)) rfl ?_
  refine xq_cl (y' := 73) (as := [.inr (some 70)]) (r := [.inr (some 70), .inl 31, .inr (some 3)]) rfl rfl ?_
  refine cn_c38 (d := d + 0) ?_
  show xq_t (ml_I L xs) (d + 1) 115 0 0 55 [some (.inr (some 2)), some (.inl 31)] [.inr (some 70), .inl 31, .inr (some 3)] (mh_c74 a1 a2 a3) Q
  refine xq_go 6 (mc' := 0) (ms' := 0) (pc' := 62) (ls' := [some (.inr (some 2)), some (.inl 32)]) (st' := []) (s' := (mh_c75 a1 a2 a3)) rfl ?_
  exact xq_rt (v := none) rfl h
set_option maxHeartbeats 4000000 in
set_option maxRecDepth 100000 in
theorem cn_c40 (h : Q none (mh_c79 a1 a2 a3)) : xm_MW (ml_I L xs) (d + 1) 174 [.inr (some 76), .inl (-1)] (mh_c78 a1 a2 a3) Q := by
  refine xq_in [some (.inr (some 76)), some (.inl (-1)), none, none] rfl ?_
  refine xq_go 5 (mc' := 0) (ms' := 0) (pc' := 5) (ls' := [some (.inr (some 76)), some (.inl (-1)), some (.inl 0), some (.inl 30)]) (st' := []) (s' := (mh_cf1 0 a1 a2 a3)) rfl ?_
  refine xq_go 9 (mc' := 0) (ms' := 0) (pc' := 5) (ls' := [some (.inr (some 76)), some (.inl (-1)), some (.inl 1), some (.inl 30)]) (st' := []) (s' := (mh_cf1 1 a1 a2 a3)) rfl ?_
  refine xq_go 9 (mc' := 0) (ms' := 0) (pc' := 5) (ls' := [some (.inr (some 76)), some (.inl (-1)), some (.inl 2), some (.inl 30)]) (st' := []) (s' := (mh_cf1 2 a1 a2 a3)) rfl ?_
  refine xq_go 9 (mc' := 0) (ms' := 0) (pc' := 5) (ls' := [some (.inr (some 76)), some (.inl (-1)), some (.inl 3), some (.inl 30)]) (st' := []) (s' := (mh_cf1 3 a1 a2 a3)) rfl ?_
  refine xq_go 9 (mc' := 0) (ms' := 0) (pc' := 5) (ls' := [some (.inr (some 76)), some (.inl (-1)), some (.inl 4), some (.inl 30)]) (st' := []) (s' := (mh_cf1 4 a1 a2 a3)) rfl ?_
  refine xq_go 9 (mc' := 0) (ms' := 0) (pc' := 5) (ls' := [some (.inr (some 76)), some (.inl (-1)), some (.inl 5), some (.inl 30)]) (st' := []) (s' := (mh_cf1 5 a1 a2 a3)) rfl ?_
  refine xq_go 9 (mc' := 0) (ms' := 0) (pc' := 5) (ls' := [some (.inr (some 76)), some (.inl (-1)), some (.inl 6), some (.inl 30)]) (st' := []) (s' := (mh_cf1 6 a1 a2 a3)) rfl ?_
  refine xq_go 9 (mc' := 0) (ms' := 0) (pc' := 5) (ls' := [some (.inr (some 76)), some (.inl (-1)), some (.inl 7), some (.inl 30)]) (st' := []) (s' := (mh_cf1 7 a1 a2 a3)) rfl ?_
  refine xq_go 9 (mc' := 0) (ms' := 0) (pc' := 5) (ls' := [some (.inr (some 76)), some (.inl (-1)), some (.inl 8), some (.inl 30)]) (st' := []) (s' := (mh_cf1 8 a1 a2 a3)) rfl ?_
  refine xq_go 9 (mc' := 0) (ms' := 0) (pc' := 5) (ls' := [some (.inr (some 76)), some (.inl (-1)), some (.inl 9), some (.inl 30)]) (st' := []) (s' := (mh_cf1 9 a1 a2 a3)) rfl ?_
  refine xq_go 9 (mc' := 0) (ms' := 0) (pc' := 5) (ls' := [some (.inr (some 76)), some (.inl (-1)), some (.inl 10), some (.inl 30)]) (st' := []) (s' := (mh_cf1 10 a1 a2 a3)) rfl ?_
  refine xq_go 9 (mc' := 0) (ms' := 0) (pc' := 5) (ls' := [some (.inr (some 76)), some (.inl (-1)), some (.inl 11), some (.inl 30)]) (st' := []) (s' := (mh_cf1 11 a1 a2 a3)) rfl ?_
  refine xq_go 9 (mc' := 0) (ms' := 0) (pc' := 5) (ls' := [some (.inr (some 76)), some (.inl (-1)), some (.inl 12), some (.inl 30)]) (st' := []) (s' := (mh_cf1 12 a1 a2 a3)) rfl ?_
  refine xq_go 9 (mc' := 0) (ms' := 0) (pc' := 5) (ls' := [some (.inr (some 76)), some (.inl (-1)), some (.inl 13), some (.inl 30)]) (st' := []) (s' := (mh_cf1 13 a1 a2 a3)) rfl ?_
  refine xq_go 9 (mc' := 0) (ms' := 0) (pc' := 5) (ls' := [some (.inr (some 76)), some (.inl (-1)), some (.inl 14), some (.inl 30)]) (st' := []) (s' := (mh_cf1 14 a1 a2 a3)) rfl ?_
  refine xq_go 9 (mc' := 0) (ms' := 0) (pc' := 5) (ls' := [some (.inr (some 76)), some (.inl (-1)), some (.inl 15), some (.inl 30)]) (st' := []) (s' := (mh_cf1 15 a1 a2 a3)) rfl ?_
  refine xq_go 9 (mc' := 0) (ms' := 0) (pc' := 5) (ls' := [some (.inr (some 76)), some (.inl (-1)), some (.inl 16), some (.inl 30)]) (st' := []) (s' := (mh_cf1 16 a1 a2 a3)) rfl ?_
  refine xq_go 9 (mc' := 0) (ms' := 0) (pc' := 5) (ls' := [some (.inr (some 76)), some (.inl (-1)), some (.inl 17), some (.inl 30)]) (st' := []) (s' := (mh_cf1 17 a1 a2 a3)) rfl ?_
  refine xq_go 9 (mc' := 0) (ms' := 0) (pc' := 5) (ls' := [some (.inr (some 76)), some (.inl (-1)), some (.inl 18), some (.inl 30)]) (st' := []) (s' := (mh_cf1 18 a1 a2 a3)) rfl ?_
  refine xq_go 9 (mc' := 0) (ms' := 0) (pc' := 5) (ls' := [some (.inr (some 76)), some (.inl (-1)), some (.inl 19), some (.inl 30)]) (st' := []) (s' := (mh_cf1 19 a1 a2 a3)) rfl ?_
  refine xq_go 9 (mc' := 0) (ms' := 0) (pc' := 5) (ls' := [some (.inr (some 76)), some (.inl (-1)), some (.inl 20), some (.inl 30)]) (st' := []) (s' := (mh_cf1 20 a1 a2 a3)) rfl ?_
  refine xq_go 9 (mc' := 0) (ms' := 0) (pc' := 5) (ls' := [some (.inr (some 76)), some (.inl (-1)), some (.inl 21), some (.inl 30)]) (st' := []) (s' := (mh_cf1 21 a1 a2 a3)) rfl ?_
  refine xq_go 9 (mc' := 0) (ms' := 0) (pc' := 5) (ls' := [some (.inr (some 76)), some (.inl (-1)), some (.inl 22), some (.inl 30)]) (st' := []) (s' := (mh_cf1 22 a1 a2 a3)) rfl ?_
  refine xq_go 9 (mc' := 0) (ms' := 0) (pc' := 5) (ls' := [some (.inr (some 76)), some (.inl (-1)), some (.inl 23), some (.inl 30)]) (st' := []) (s' := (mh_cf1 23 a1 a2 a3)) rfl ?_
  refine xq_go 9 (mc' := 0) (ms' := 0) (pc' := 5) (ls' := [some (.inr (some 76)), some (.inl (-1)), some (.inl 24), some (.inl 30)]) (st' := []) (s' := (mh_cf1 24 a1 a2 a3)) rfl ?_
  refine xq_go 9 (mc' := 0) (ms' := 0) (pc' := 5) (ls' := [some (.inr (some 76)), some (.inl (-1)), some (.inl 25), some (.inl 30)]) (st' := []) (s' := (mh_cf1 25 a1 a2 a3)) rfl ?_
  refine xq_go 9 (mc' := 0) (ms' := 0) (pc' := 5) (ls' := [some (.inr (some 76)), some (.inl (-1)), some (.inl 26), some (.inl 30)]) (st' := []) (s' := (mh_cf1 26 a1 a2 a3)) rfl ?_
  refine xq_go 9 (mc' := 0) (ms' := 0) (pc' := 5) (ls' := [some (.inr (some 76)), some (.inl (-1)), some (.inl 27), some (.inl 30)]) (st' := []) (s' := (mh_cf1 27 a1 a2 a3)) rfl ?_
  refine xq_go 9 (mc' := 0) (ms' := 0) (pc' := 5) (ls' := [some (.inr (some 76)), some (.inl (-1)), some (.inl 28), some (.inl 30)]) (st' := []) (s' := (mh_cf1 28 a1 a2 a3)) rfl ?_
  refine xq_go 9 (mc' := 0) (ms' := 0) (pc' := 5) (ls' := [some (.inr (some 76)), some (.inl (-1)), some (.inl 29), some (.inl 30)]) (st' := []) (s' := (mh_cf1 29 a1 a2 a3)) rfl ?_
  refine xq_go 9 (mc' := 0) (ms' := 0) (pc' := 5) (ls' := [some (.inr (some 76)), some (.inl (-1)), some (.inl 30), some (.inl 30)]) (st' := []) (s' := (mh_cf1 30 a1 a2 a3)) rfl ?_
  refine xq_go 3 (mc' := 0) (ms' := 0) (pc' := 20) (ls' := [some (.inr (some 76)), some (.inl (-1)), some (.inl 30), some (.inl 30)]) (st' := []) (s' := (mh_cf1 30 a1 a2 a3)) rfl ?_
  exact xq_rt (v := none) rfl h
set_option maxHeartbeats 4000000 in
set_option maxRecDepth 100000 in
theorem cn_c41 (h : Q none (mh_c79 a1 a2 a3)) : xm_MW (ml_I L xs) (d + 2) 35 [.inr (some 72)] (mh_c76 a1 a2 a3) Q := by
  refine xq_in [some (.inr (some 72))] rfl ?_
  refine xq_go 14 (mc' := 2) (ms' := 60) (pc' := 26) (ls' := [some (.inr (some 72))]) (st' := []) (s' := (mh_c77 a1 a2 a3)) rfl ?_
  refine xq_go 11 (mc' := 0) (ms' := 0) (pc' := 47) (ls' := [some (.inr (some 72))]) (st' := [.inl (-1), .inr (some 76)]) (s' := (mh_c78 a1 a2 a3)) rfl ?_
  refine xq_cl (y' := 174) (as := [.inr (some 76), .inl (-1)]) (r := []) rfl rfl ?_
  refine cn_c40 (d := d + 0) ?_
  show xq_t (ml_I L xs) (d + 1) 35 0 0 50 [some (.inr (some 72))] [] (mh_c79 a1 a2 a3) Q
  exact xq_rt (v := none) rfl h
set_option maxHeartbeats 4000000 in
set_option maxRecDepth 100000 in
theorem cn_c42 (h : Q none (mh_c82 a1 a2 a3)) : xm_MW (ml_I L xs) (d + 1) 50 [.inr (some 78)] (mh_c80 a1 a2 a3) Q := by
  refine xq_in [some (.inr (some 78))] rfl ?_
  refine xq_go 14 (mc' := 2) (ms' := 8) (pc' := 26) (ls' := [some (.inr (some 78))]) (st' := [.inr (some 85), .inr (some 78)]) (s' := (mh_c81 a1 a2 a3)) rfl ?_
  refine xq_go 9 (mc' := 0) (ms' := 0) (pc' := 43) (ls' := [some (.inr (some 78))]) (st' := []) (s' := (mh_c82 a1 a2 a3)) rfl ?_
  exact xq_rt (v := none) rfl h
set_option maxHeartbeats 4000000 in
set_option maxRecDepth 100000 in
theorem cn_c43 (h : Q none (mh_c85 a1 a2 a3)) : xm_MW (ml_I L xs) (d + 1) 77 [.inr (some 90)] (mh_c84 a1 a2 a3) Q := by
  refine xq_in [some (.inr (some 90))] rfl ?_
  refine xq_go 14 (mc' := 0) (ms' := 0) (pc' := 28) (ls' := [some (.inr (some 90))]) (st' := []) (s' := (mh_c85 a1 a2 a3)) rfl ?_
  exact xq_rt (v := none) rfl h
set_option maxHeartbeats 4000000 in
set_option maxRecDepth 100000 in
theorem cn_c44 (h : Q none (mh_c89 a1 a2 a3)) : xm_MW (ml_I L xs) (d + 1) 21 [.inr (some 94), .inr (some 1), .inr (some 72)] (mh_c87 a1 a2 a3) Q := by
  refine xq_in [some (.inr (some 94)), some (.inr (some 1)), some (.inr (some 72))] rfl ?_
  refine xq_go 14 (mc' := 2) (ms' := 60) (pc' := 28) (ls' := [some (.inr (some 94)), some (.inr (some 1)), some (.inr (some 72))]) (st' := []) (s' := (mh_c88 a1 a2 a3)) rfl ?_
  refine xq_go 14 (mc' := 0) (ms' := 0) (pc' := 54) (ls' := [some (.inr (some 94)), some (.inr (some 1)), some (.inr (some 72))]) (st' := []) (s' := (mh_c89 a1 a2 a3)) rfl ?_
  exact xq_rt (v := none) rfl h
set_option maxHeartbeats 4000000 in
set_option maxRecDepth 100000 in
theorem cn_c45 (h : Q none (mh_c90 a1 a2 a3)) : xm_MW (ml_I L xs) (d + 1) 114 [.inr (some 100)] (mh_c90 a1 a2 a3) Q := by
  refine xq_in [some (.inr (some 100))] rfl ?_
  refine xq_go 2 (mc' := 0) (ms' := 0) (pc' := 4) (ls' := [some (.inr (some 100))]) (st' := []) (s' := (mh_c90 a1 a2 a3)) rfl ?_
  exact xq_rt (v := none) rfl h
set_option maxHeartbeats 4000000 in
set_option maxRecDepth 100000 in
theorem cn_c46 (h : Q none (mh_c91 a1 a2 a3)) : xm_MW (ml_I L xs) (d + 1) 114 [.inr (some 101)] (mh_c91 a1 a2 a3) Q := by
  refine xq_in [some (.inr (some 101))] rfl ?_
  refine xq_go 2 (mc' := 0) (ms' := 0) (pc' := 4) (ls' := [some (.inr (some 101))]) (st' := []) (s' := (mh_c91 a1 a2 a3)) rfl ?_
  exact xq_rt (v := none) rfl h
set_option maxHeartbeats 4000000 in
set_option maxRecDepth 100000 in
theorem cn_c47 (h : Q none (mh_c92 a1 a2 a3)) : xm_MW (ml_I L xs) (d + 1) 114 [.inr (some 102)] (mh_c92 a1 a2 a3) Q := by
  refine xq_in [some (.inr (some 102))] rfl ?_
  refine xq_go 2 (mc' := 0) (ms' := 0) (pc' := 4) (ls' := [some (.inr (some 102))]) (st' := []) (s' := (mh_c92 a1 a2 a3)) rfl ?_
  exact xq_rt (v := none) rfl h
set_option maxHeartbeats 4000000 in
set_option maxRecDepth 100000 in
theorem cn_c48 (h : Q none (mh_c93 a1 a2 a3)) : xm_MW (ml_I L xs) (d + 1) 114 [.inr (some 103)] (mh_c93 a1 a2 a3) Q := by
  refine xq_in [some (.inr (some 103))] rfl ?_
  refine xq_go 2 (mc' := 0) (ms' := 0) (pc' := 4) (ls' := [some (.inr (some 103))]) (st' := []) (s' := (mh_c93 a1 a2 a3)) rfl ?_
  exact xq_rt (v := none) rfl h
end CN
