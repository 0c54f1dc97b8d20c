/-! The class's constructors over the list memory. Written by prog/gen_ctor.py. -/
section CN
variable {L : Nat} {xs : Nat → Int32} {d : Nat} {a1 a2 a3 : Int32} {Q : Option (xm_V Nat) → List ml_C → Prop}
set_option maxHeartbeats 4000000 in
set_option maxRecDepth 100000 in
theorem cn_c49 (h : Q none (mh_c94 a1 a2 a3)) : xm_MW (ml_I L xs) (d + 1) 114 [.inr (some 104)] (mh_c94 a1 a2 a3) Q := by
  refine xq_in [some (.inr (some 104))] rfl ?_
  refine xq_go 2 (mc' := 0) (ms' := 0) (pc' := 4) (ls' := [some (.inr (some 104))]) (st' := []) (s' := (mh_c94 a1 a2 a3)) rfl ?_
  exact xq_rt (v := none) rfl h
set_option maxHeartbeats 4000000 in
set_option maxRecDepth 100000 in
theorem cn_c50 (h : Q none (mh_c95 a1 a2 a3)) : xm_MW (ml_I L xs) (d + 1) 114 [.inr (some 105)] (mh_c95 a1 a2 a3) Q := by
  refine xq_in [some (.inr (some 105))] rfl ?_
  refine xq_go 2 (mc' := 0) (ms' := 0) (pc' := 4) (ls' := [some (.inr (some 105))]) (st' := []) (s' := (mh_c95 a1 a2 a3)) rfl ?_
  exact xq_rt (v := none) rfl h
set_option maxHeartbeats 4000000 in
set_option maxRecDepth 100000 in
theorem cn_c51 (h : Q none (mh_c96 a1 a2 a3)) : xm_MW (ml_I L xs) (d + 2) 81 [.inr (some 88), .inr (some 1), .inr (some 2), .inr (some 72), .inr (some 78)] (mh_c83 a1 a2 a3) Q := by
  refine xq_in [some (.inr (some 88)), some (.inr (some 1)), some (.inr (some 2)), some (.inr (some 72)), some (.inr (some 78)), none] rfl ?_
  refine xq_go 9 (mc' := 15) (ms' := 241) (pc' := 18) (ls' := [some (.inr (some 88)), some (.inr (some 1)), some (.inr (some 2)), some (.inr (some 72)), some (.inr (some 78)), none]) (st' := [.inr (some 90), .inr (some 90), .inr (some 88)]) (s' := (mh_c84 a1 a2 a3)) rfl ?_
  refine xq_cl (y' := 77) (as := [.inr (some 90)]) (r := [.inr (some 90), .inr (some 88)]) rfl rfl ?_
  refine cn_c43 (d := d + 0) ?_
  show xq_t (ml_I L xs) (d + 1) 81 12 193 21 [some (.inr (some 88)), some (.inr (some 1)), some (.inr (some 2)), some (.inr (some 72)), some (.inr (some 78)), none] [.inr (some 90), .inr (some 88)] (mh_c85 a1 a2 a3) Q
  refine xq_go 14 (mc' := 12) (ms' := 193) (pc' := 46) (ls' := [some (.inr (some 88)), some (.inr (some 1)), some (.inr (some 2)), some (.inr (some 72)), some (.inr (some 78)), none]) (st' := [.inr (some 88)]) (s' := (mh_c86 a1 a2 a3)) rfl ?_
  refine xq_go 4 (mc' := 11) (ms' := 186) (pc' := 52) (ls' := [some (.inr (some 88)), some (.inr (some 1)), some (.inr (some 2)), some (.inr (some 72)), some (.inr (some 78)), none]) (st' := [.inr (some 72), .inr (some 1), .inr (some 94), .inr (some 94), .inr (some 88)]) (s' := (mh_c87 a1 a2 a3)) rfl ?_
  refine xq_cl (y' := 21) (as := [.inr (some 94), .inr (some 1), .inr (some 72)]) (r := [.inr (some 94), .inr (some 88)]) rfl rfl ?_
  refine cn_c44 (d := d + 0) ?_
  show xq_t (ml_I L xs) (d + 1) 81 6 36 55 [some (.inr (some 88)), some (.inr (some 1)), some (.inr (some 2)), some (.inr (some 72)), some (.inr (some 78)), none] [.inr (some 94), .inr (some 88)] (mh_c89 a1 a2 a3) Q
  refine xq_go 13 (mc' := 5) (ms' := 30) (pc' := 81) (ls' := [some (.inr (some 88)), some (.inr (some 1)), some (.inr (some 2)), some (.inr (some 72)), some (.inr (some 78)), some (.inl 0)]) (st' := [.inr (some 100), .inr (some 100), .inl 0, .inr (some 89)]) (s' := (mh_c90 a1 a2 a3)) rfl ?_
  refine xq_cl (y' := 114) (as := [.inr (some 100)]) (r := [.inr (some 100), .inl 0, .inr (some 89)]) rfl rfl ?_
  refine cn_c45 (d := d + 0) ?_
  show xq_t (ml_I L xs) (d + 1) 81 5 30 84 [some (.inr (some 88)), some (.inr (some 1)), some (.inr (some 2)), some (.inr (some 72)), some (.inr (some 78)), some (.inl 0)] [.inr (some 100), .inl 0, .inr (some 89)] (mh_c90 a1 a2 a3) Q
  refine xq_go 13 (mc' := 4) (ms' := 24) (pc' := 81) (ls' := [some (.inr (some 88)), some (.inr (some 1)), some (.inr (some 2)), some (.inr (some 72)), some (.inr (some 78)), some (.inl 1)]) (st' := [.inr (some 101), .inr (some 101), .inl 1, .inr (some 89)]) (s' := (mh_c91 a1 a2 a3)) rfl ?_
  refine xq_cl (y' := 114) (as := [.inr (some 101)]) (r := [.inr (some 101), .inl 1, .inr (some 89)]) rfl rfl ?_
  refine cn_c46 (d := d + 0) ?_
  show xq_t (ml_I L xs) (d + 1) 81 4 24 84 [some (.inr (some 88)), some (.inr (some 1)), some (.inr (some 2)), some (.inr (some 72)), some (.inr (some 78)), some (.inl 1)] [.inr (some 101), .inl 1, .inr (some 89)] (mh_c91 a1 a2 a3) Q
  refine xq_go 13 (mc' := 3) (ms' := 18) (pc' := 81) (ls' := [some (.inr (some 88)), some (.inr (some 1)), some (.inr (some 2)), some (.inr (some 72)), some (.inr (some 78)), some (.inl 2)]) (st' := [.inr (some 102), .inr (some 102), .inl 2, .inr (some 89)]) (s' := (mh_c92 a1 a2 a3)) rfl ?_
  refine xq_cl (y' := 114) (as := [.inr (some 102)]) (r := [.inr (some 102), .inl 2, .inr (some 89)]) rfl rfl ?_
  refine cn_c47 (d := d + 0) ?_
  show xq_t (ml_I L xs) (d + 1) 81 3 18 84 [some (.inr (some 88)), some (.inr (some 1)), some (.inr (some 2)), some (.inr (some 72)), some (.inr (some 78)), some (.inl 2)] [.inr (some 102), .inl 2, .inr (some 89)] (mh_c92 a1 a2 a3) Q
  refine xq_go 13 (mc' := 2) (ms' := 12) (pc' := 81) (ls' := [some (.inr (some 88)), some (.inr (some 1)), some (.inr (some 2)), some (.inr (some 72)), some (.inr (some 78)), some (.inl 3)]) (st' := [.inr (some 103), .inr (some 103), .inl 3, .inr (some 89)]) (s' := (mh_c93 a1 a2 a3)) rfl ?_
  refine xq_cl (y' := 114) (as := [.inr (some 103)]) (r := [.inr (some 103), .inl 3, .inr (some 89)]) rfl rfl ?_
  refine cn_c48 (d := d + 0) ?_
  show xq_t (ml_I L xs) (d + 1) 81 2 12 84 [some (.inr (some 88)), some (.inr (some 1)), some (.inr (some 2)), some (.inr (some 72)), some (.inr (some 78)), some (.inl 3)] [.inr (some 103), .inl 3, .inr (some 89)] (mh_c93 a1 a2 a3) Q
  refine xq_go 13 (mc' := 1) (ms' := 6) (pc' := 81) (ls' := [some (.inr (some 88)), some (.inr (some 1)), some (.inr (some 2)), some (.inr (some 72)), some (.inr (some 78)), some (.inl 4)]) (st' := [.inr (some 104), .inr (some 104), .inl 4, .inr (some 89)]) (s' := (mh_c94 a1 a2 a3)) rfl ?_
  refine xq_cl (y' := 114) (as := [.inr (some 104)]) (r := [.inr (some 104), .inl 4, .inr (some 89)]) rfl rfl ?_
  refine cn_c49 (d := d + 0) ?_
  show xq_t (ml_I L xs) (d + 1) 81 1 6 84 [some (.inr (some 88)), some (.inr (some 1)), some (.inr (some 2)), some (.inr (some 72)), some (.inr (some 78)), some (.inl 4)] [.inr (some 104), .inl 4, .inr (some 89)] (mh_c94 a1 a2 a3) Q
  refine xq_go 13 (mc' := 0) (ms' := 0) (pc' := 81) (ls' := [some (.inr (some 88)), some (.inr (some 1)), some (.inr (some 2)), some (.inr (some 72)), some (.inr (some 78)), some (.inl 5)]) (st' := [.inr (some 105), .inr (some 105), .inl 5, .inr (some 89)]) (s' := (mh_c95 a1 a2 a3)) rfl ?_
  refine xq_cl (y' := 114) (as := [.inr (some 105)]) (r := [.inr (some 105), .inl 5, .inr (some 89)]) rfl rfl ?_
  refine cn_c50 (d := d + 0) ?_
  show xq_t (ml_I L xs) (d + 1) 81 0 0 84 [some (.inr (some 88)), some (.inr (some 1)), some (.inr (some 2)), some (.inr (some 72)), some (.inr (some 78)), some (.inl 5)] [.inr (some 105), .inl 5, .inr (some 89)] (mh_c95 a1 a2 a3) Q
  refine xq_go 8 (mc' := 0) (ms' := 0) (pc' := 91) (ls' := [some (.inr (some 88)), some (.inr (some 1)), some (.inr (some 2)), some (.inr (some 72)), some (.inr (some 78)), some (.inl 6)]) (st' := []) (s' := (mh_c96 a1 a2 a3)) rfl ?_
  exact xq_rt (v := none) rfl h
set_option maxHeartbeats 4000000 in
set_option maxRecDepth 100000 in
theorem cn_c52 (h : Q none (mh_c102 a1 a2 a3)) : xm_MW (ml_I L xs) (d + 1) 59 [.inr (some 108), .inl 0, .inr (some 1), .inr (some 2), .inr (some 78)] (mh_c100 a1 a2 a3) Q := by
  refine xq_in [some (.inr (some 108)), some (.inl 0), some (.inr (some 1)), some (.inr (some 2)), some (.inr (some 78))] rfl ?_
  refine xq_go 14 (mc' := 0) (ms' := 0) (pc' := 25) (ls' := [some (.inr (some 108)), some (.inl 0), some (.inr (some 1)), some (.inr (some 2)), some (.inr (some 78))]) (st' := [.inr (some 2), .inr (some 108)]) (s' := (mh_c101 a1 a2 a3)) rfl ?_
  refine xq_go 4 (mc' := 0) (ms' := 0) (pc' := 34) (ls' := [some (.inr (some 108)), some (.inl 0), some (.inr (some 1)), some (.inr (some 2)), some (.inr (some 78))]) (st' := []) (s' := (mh_c102 a1 a2 a3)) rfl ?_
  exact xq_rt (v := none) rfl h
set_option maxHeartbeats 4000000 in
set_option maxRecDepth 100000 in
theorem cn_c53 (h : Q none (mh_c103 a1 a2 a3)) : xm_MW (ml_I L xs) (d + 2) 97 [.inr (some 107), .inl 0, .inr (some 1), .inr (some 2), .inr (some 78)] (mh_c98 a1 a2 a3) Q := by
  refine xq_in [some (.inr (some 107)), some (.inl 0), some (.inr (some 1)), some (.inr (some 2)), some (.inr (some 78))] rfl ?_
  refine xq_go 14 (mc' := 2) (ms' := 184) (pc' := 24) (ls' := [some (.inr (some 107)), some (.inl 0), some (.inr (some 1)), some (.inr (some 2)), some (.inr (some 78))]) (st' := []) (s' := (mh_c99 a1 a2 a3)) rfl ?_
  refine xq_go 10 (mc' := 1) (ms' := 172) (pc' := 39) (ls' := [some (.inr (some 107)), some (.inl 0), some (.inr (some 1)), some (.inr (some 2)), some (.inr (some 78))]) (st' := [.inr (some 78), .inr (some 2), .inr (some 1), .inl 0, .inr (some 108), .inr (some 108), .inr (some 107)]) (s' := (mh_c100 a1 a2 a3)) rfl ?_
  refine xq_cl (y' := 59) (as := [.inr (some 108), .inl 0, .inr (some 1), .inr (some 2), .inr (some 78)]) (r := [.inr (some 108), .inr (some 107)]) rfl rfl ?_
  refine cn_c52 (d := d + 0) ?_
  show xq_t (ml_I L xs) (d + 1) 97 0 0 42 [some (.inr (some 107)), some (.inl 0), some (.inr (some 1)), some (.inr (some 2)), some (.inr (some 78))] [.inr (some 108), .inr (some 107)] (mh_c102 a1 a2 a3) Q
  refine xq_go 1 (mc' := 0) (ms' := 0) (pc' := 45) (ls' := [some (.inr (some 107)), some (.inl 0), some (.inr (some 1)), some (.inr (some 2)), some (.inr (some 78))]) (st' := []) (s' := (mh_c103 a1 a2 a3)) rfl ?_
  exact xq_rt (v := none) rfl h
set_option maxHeartbeats 4000000 in
set_option maxRecDepth 100000 in
theorem cn_c54 (h : Q none (mh_c108 a1 a2 a3)) : xm_MW (ml_I L xs) (d + 1) 59 [.inr (some 111), .inl 1, .inr (some 1), .inr (some 2), .inr (some 78)] (mh_c106 a1 a2 a3) Q := by
  refine xq_in [some (.inr (some 111)), some (.inl 1), some (.inr (some 1)), some (.inr (some 2)), some (.inr (some 78))] rfl ?_
  refine xq_go 14 (mc' := 0) (ms' := 0) (pc' := 25) (ls' := [some (.inr (some 111)), some (.inl 1), some (.inr (some 1)), some (.inr (some 2)), some (.inr (some 78))]) (st' := [.inr (some 2), .inr (some 111)]) (s' := (mh_c107 a1 a2 a3)) rfl ?_
  refine xq_go 4 (mc' := 0) (ms' := 0) (pc' := 34) (ls' := [some (.inr (some 111)), some (.inl 1), some (.inr (some 1)), some (.inr (some 2)), some (.inr (some 78))]) (st' := []) (s' := (mh_c108 a1 a2 a3)) rfl ?_
  exact xq_rt (v := none) rfl h
set_option maxHeartbeats 4000000 in
set_option maxRecDepth 100000 in
theorem cn_c55 (h : Q none (mh_c109 a1 a2 a3)) : xm_MW (ml_I L xs) (d + 2) 97 [.inr (some 110), .inl 1, .inr (some 1), .inr (some 2), .inr (some 78)] (mh_c104 a1 a2 a3) Q := by
  refine xq_in [some (.inr (some 110)), some (.inl 1), some (.inr (some 1)), some (.inr (some 2)), some (.inr (some 78))] rfl ?_
  refine xq_go 14 (mc' := 2) (ms' := 184) (pc' := 24) (ls' := [some (.inr (some 110)), some (.inl 1), some (.inr (some 1)), some (.inr (some 2)), some (.inr (some 78))]) (st' := []) (s' := (mh_c105 a1 a2 a3)) rfl ?_
  refine xq_go 10 (mc' := 1) (ms' := 172) (pc' := 39) (ls' := [some (.inr (some 110)), some (.inl 1), some (.inr (some 1)), some (.inr (some 2)), some (.inr (some 78))]) (st' := [.inr (some 78), .inr (some 2), .inr (some 1), .inl 1, .inr (some 111), .inr (some 111), .inr (some 110)]) (s' := (mh_c106 a1 a2 a3)) rfl ?_
  refine xq_cl (y' := 59) (as := [.inr (some 111), .inl 1, .inr (some 1), .inr (some 2), .inr (some 78)]) (r := [.inr (some 111), .inr (some 110)]) rfl rfl ?_
  refine cn_c54 (d := d + 0) ?_
  show xq_t (ml_I L xs) (d + 1) 97 0 0 42 [some (.inr (some 110)), some (.inl 1), some (.inr (some 1)), some (.inr (some 2)), some (.inr (some 78))] [.inr (some 111), .inr (some 110)] (mh_c108 a1 a2 a3) Q
  refine xq_go 1 (mc' := 0) (ms' := 0) (pc' := 45) (ls' := [some (.inr (some 110)), some (.inl 1), some (.inr (some 1)), some (.inr (some 2)), some (.inr (some 78))]) (st' := []) (s' := (mh_c109 a1 a2 a3)) rfl ?_
  exact xq_rt (v := none) rfl h
set_option maxHeartbeats 4000000 in
set_option maxRecDepth 100000 in
theorem cn_c56 (h : Q none (mh_c114 a1 a2 a3)) : xm_MW (ml_I L xs) (d + 1) 59 [.inr (some 114), .inl 2, .inr (some 1), .inr (some 2), .inr (some 78)] (mh_c112 a1 a2 a3) Q := by
  refine xq_in [some (.inr (some 114)), some (.inl 2), some (.inr (some 1)), some (.inr (some 2)), some (.inr (some 78))] rfl ?_
  refine xq_go 14 (mc' := 0) (ms' := 0) (pc' := 25) (ls' := [some (.inr (some 114)), some (.inl 2), some (.inr (some 1)), some (.inr (some 2)), some (.inr (some 78))]) (st' := [.inr (some 2), .inr (some 114)]) (s' := (mh_c113 a1 a2 a3)) rfl ?_
  refine xq_go 4 (mc' := 0) (ms' := 0) (pc' := 34) (ls' := [some (.inr (some 114)), some (.inl 2), some (.inr (some 1)), some (.inr (some 2)), some (.inr (some 78))]) (st' := []) (s' := (mh_c114 a1 a2 a3)) rfl ?_
  exact xq_rt (v := none) rfl h
set_option maxHeartbeats 4000000 in
set_option maxRecDepth 100000 in
theorem cn_c57 (h : Q none (mh_c115 a1 a2 a3)) : xm_MW (ml_I L xs) (d + 2) 97 [.inr (some 113), .inl 2, .inr (some 1), .inr (some 2), .inr (some 78)] (mh_c110 a1 a2 a3) Q := by
  refine xq_in [some (.inr (some 113)), some (.inl 2), some (.inr (some 1)), some (.inr (some 2)), some (.inr (some 78))] rfl ?_
  refine xq_go 14 (mc' := 2) (ms' := 184) (pc' := 24) (ls' := [some (.inr (some 113)), some (.inl 2), some (.inr (some 1)), some (.inr (some 2)), some (.inr (some 78))]) (st' := []) (s' := (mh_c111 a1 a2 a3)) rfl ?_
  refine xq_go 10 (mc' := 1) (ms' := 172) (pc' := 39) (ls' := [some (.inr (some 113)), some (.inl 2), some (.inr (some 1)), some (.inr (some 2)), some (.inr (some 78))]) (st' := [.inr (some 78), .inr (some 2), .inr (some 1), .inl 2, .inr (some 114), .inr (some 114), .inr (some 113)]) (s' := (mh_c112 a1 a2 a3)) rfl ?_
  refine xq_cl (y' := 59) (as := [.inr (some 114), .inl 2, .inr (some 1), .inr (some 2), .inr (some 78)]) (r := [.inr (some 114), .inr (some 113)]) rfl rfl ?_
  refine cn_c56 (d := d + 0) ?_
  show xq_t (ml_I L xs) (d + 1) 97 0 0 42 [some (.inr (some 113)), some (.inl 2), some (.inr (some 1)), some (.inr (some 2)), some (.inr (some 78))] [.inr (some 114), .inr (some 113)] (mh_c114 a1 a2 a3) Q
  refine xq_go 1 (mc' := 0) (ms' := 0) (pc' := 45) (ls' := [some (.inr (some 113)), some (.inl 2), some (.inr (some 1)), some (.inr (some 2)), some (.inr (some 78))]) (st' := []) (s' := (mh_c115 a1 a2 a3)) rfl ?_
  exact xq_rt (v := none) rfl h
set_option maxHeartbeats 4000000 in
set_option maxRecDepth 100000 in
theorem cn_c58 (h : Q none (mh_c120 a1 a2 a3)) : xm_MW (ml_I L xs) (d + 1) 59 [.inr (some 117), .inl 3, .inr (some 1), .inr (some 2), .inr (some 78)] (mh_c118 a1 a2 a3) Q := by
  refine xq_in [some (.inr (some 117)), some (.inl 3), some (.inr (some 1)), some (.inr (some 2)), some (.inr (some 78))] rfl ?_
  refine xq_go 14 (mc' := 0) (ms' := 0) (pc' := 25) (ls' := [some (.inr (some 117)), some (.inl 3), some (.inr (some 1)), some (.inr (some 2)), some (.inr (some 78))]) (st' := [.inr (some 2), .inr (some 117)]) (s' := (mh_c119 a1 a2 a3)) rfl ?_
  refine xq_go 4 (mc' := 0) (ms' := 0) (pc' := 34) (ls' := [some (.inr (some 117)), some (.inl 3), some (.inr (some 1)), some (.inr (some 2)), some (.inr (some 78))]) (st' := []) (s' := (mh_c120 a1 a2 a3)) rfl ?_
  exact xq_rt (v := none) rfl h
set_option maxHeartbeats 4000000 in
set_option maxRecDepth 100000 in
theorem cn_c59 (h : Q none (mh_c121 a1 a2 a3)) : xm_MW (ml_I L xs) (d + 2) 97 [.inr (some 116), .inl 3, .inr (some 1), .inr (some 2), .inr (some 78)] (mh_c116 a1 a2 a3) Q := by
  refine xq_in [some (.inr (some 116)), some (.inl 3), some (.inr (some 1)), some (.inr (some 2)), some (.inr (some 78))] rfl ?_
  refine xq_go 14 (mc' := 2) (ms' := 184) (pc' := 24) (ls' := [some (.inr (some 116)), some (.inl 3), some (.inr (some 1)), some (.inr (some 2)), some (.inr (some 78))]) (st' := []) (s' := (mh_c117 a1 a2 a3)) rfl ?_
  refine xq_go 10 (mc' := 1) (ms' := 172) (pc' := 39) (ls' := [some (.inr (some 116)), some (.inl 3), some (.inr (some 1)), some (.inr (some 2)), some (.inr (some 78))]) (st' := [.inr (some 78), .inr (some 2), .inr (some 1), .inl 3, .inr (some 117), .inr (some 117), .inr (some 116)]) (s' := (mh_c118 a1 a2 a3)) rfl ?_
  refine xq_cl (y' := 59) (as := [.inr (some 117), .inl 3, .inr (some 1), .inr (some 2), .inr (some 78)]) (r := [.inr (some 117), .inr (some 116)]) rfl rfl ?_
  refine cn_c58 (d := d + 0) ?_
  show xq_t (ml_I L xs) (d + 1) 97 0 0 42 [some (.inr (some 116)), some (.inl 3), some (.inr (some 1)), some (.inr (some 2)), some (.inr (some 78))] [.inr (some 117), .inr (some 116)] (mh_c120 a1 a2 a3) Q
  refine xq_go 1 (mc' := 0) (ms' := 0) (pc' := 45) (ls' := [some (.inr (some 116)), some (.inl 3), some (.inr (some 1)), some (.inr (some 2)), some (.inr (some 78))]) (st' := []) (s' := (mh_c121 a1 a2 a3)) rfl ?_
  exact xq_rt (v := none) rfl h
set_option maxHeartbeats 4000000 in
set_option maxRecDepth 100000 in
theorem cn_c60 (h : Q none (mh_c126 a1 a2 a3)) : xm_MW (ml_I L xs) (d + 1) 59 [.inr (some 120), .inl 4, .inr (some 1), .inr (some 2), .inr (some 78)] (mh_c124 a1 a2 a3) Q := by
  refine xq_in [some (.inr (some 120)), some (.inl 4), some (.inr (some 1)), some (.inr (some 2)), some (.inr (some 78))] rfl ?_
  refine xq_go 14 (mc' := 0) (ms' := 0) (pc' := 25) (ls' := [some (.inr (some 120)), some (.inl 4), some (.inr (some 1)), some (.inr (some 2)), some (.inr (some 78))]) (st' := [.inr (some 2), .inr (some 120)]) (s' := (mh_c125 a1 a2 a3)) rfl ?_
  refine xq_go 4 (mc' := 0) (ms' := 0) (pc' := 34) (ls' := [some (.inr (some 120)), some (.inl 4), some (.inr (some 1)), some (.inr (some 2)), some (.inr (some 78))]) (st' := []) (s' := (mh_c126 a1 a2 a3)) rfl ?_
  exact xq_rt (v := none) rfl h
set_option maxHeartbeats 4000000 in
set_option maxRecDepth 100000 in
theorem cn_c61 (h : Q none (mh_c127 a1 a2 a3)) : xm_MW (ml_I L xs) (d + 2) 97 [.inr (some 119), .inl 4, .inr (some 1), .inr (some 2), .inr (some 78)] (mh_c122 a1 a2 a3) Q := by
  refine xq_in [some (.inr (some 119)), some (.inl 4), some (.inr (some 1)), some (.inr (some 2)), some (.inr (some 78))] rfl ?_
  refine xq_go 14 (mc' := 2) (ms' := 184) (pc' := 24) (ls' := [some (.inr (some 119)), some (.inl 4), some (.inr (some 1)), some (.inr (some 2)), some (.inr (some 78))]) (st' := []) (s' := (mh_c123 a1 a2 a3)) rfl ?_
  refine xq_go 10 (mc' := 1) (ms' := 172) (pc' := 39) (ls' := [some (.inr (some 119)), some (.inl 4), some (.inr (some 1)), some (.inr (some 2)), some (.inr (some 78))]) (st' := [.inr (some 78), .inr (some 2), .inr (some 1), .inl 4, .inr (some 120), .inr (some 120), .inr (some 119)]) (s' := (mh_c124 a1 a2 a3)) rfl ?_
  refine xq_cl (y' := 59) (as := [.inr (some 120), .inl 4, .inr (some 1), .inr (some 2), .inr (some 78)]) (r := [.inr (some 120), .inr (some 119)]) rfl rfl ?_
  refine cn_c60 (d := d + 0) ?_
  show xq_t (ml_I L xs) (d + 1) 97 0 0 42 [some (.inr (some 119)), some (.inl 4), some (.inr (some 1)), some (.inr (some 2)), some (.inr (some 78))] [.inr (some 120), .inr (some 119)] (mh_c126 a1 a2 a3) Q
  refine xq_go 1 (mc' := 0) (ms' := 0) (pc' := 45) (ls' := [some (.inr (some 119)), some (.inl 4), some (.inr (some 1)), some (.inr (some 2)), some (.inr (some 78))]) (st' := []) (s' := (mh_c127 a1 a2 a3)) rfl ?_
  exact xq_rt (v := none) rfl h
set_option maxHeartbeats 4000000 in
set_option maxRecDepth 100000 in
theorem cn_c62 (h : Q none (mh_c132 a1 a2 a3)) : xm_MW (ml_I L xs) (d + 1) 59 [.inr (some 123), .inl 5, .inr (some 1), .inr (some 2), .inr (some 78)] (mh_c130 a1 a2 a3) Q := by
  refine xq_in [some (.inr (some 123)), some (.inl 5), some (.inr (some 1)), some (.inr (some 2)), some (.inr (some 78))] rfl ?_
  refine xq_go 14 (mc' := 0) (ms' := 0) (pc' := 25) (ls' := [some (.inr (some 123)), some (.inl 5), some (.inr (some 1)), some (.inr (some 2)), some (.inr (some 78))]) (st' := [.inr (some 2), .inr (some 123)]) (s' := (mh_c131 a1 a2 a3)) rfl ?_
  refine xq_go 4 (mc' := 0) (ms' := 0) (pc' := 34) (ls' := [some (.inr (some 123)), some (.inl 5), some (.inr (some 1)), some (.inr (some 2)), some (.inr (some 78))]) (st' := []) (s' := (mh_c132 a1 a2 a3)) rfl ?_
  exact xq_rt (v := none) rfl h
set_option maxHeartbeats 4000000 in
set_option maxRecDepth 100000 in
theorem cn_c63 (h : Q none (mh_c133 a1 a2 a3)) : xm_MW (ml_I L xs) (d + 2) 97 [.inr (some 122), .inl 5, .inr (some 1), .inr (some 2), .inr (some 78)] (mh_c128 a1 a2 a3) Q := by
  refine xq_in [some (.inr (some 122)), some (.inl 5), some (.inr (some 1)), some (.inr (some 2)), some (.inr (some 78))] rfl ?_
  refine xq_go 14 (mc' := 2) (ms' := 184) (pc' := 24) (ls' := [some (.inr (some 122)), some (.inl 5), some (.inr (some 1)), some (.inr (some 2)), some (.inr (some 78))]) (st' := []) (s' := (mh_c129 a1 a2 a3)) rfl ?_
  refine xq_go 10 (mc' := 1) (ms' := 172) (pc' := 39) (ls' := [some (.inr (some 122)), some (.inl 5), some (.inr (some 1)), some (.inr (some 2)), some (.inr (some 78))]) (st' := [.inr (some 78), .inr (some 2), .inr (some 1), .inl 5, .inr (some 123), .inr (some 123), .inr (some 122)]) (s' := (mh_c130 a1 a2 a3)) rfl ?_
  refine xq_cl (y' := 59) (as := [.inr (some 123), .inl 5, .inr (some 1), .inr (some 2), .inr (some 78)]) (r := [.inr (some 123), .inr (some 122)]) rfl rfl ?_
  refine cn_c62 (d := d + 0) ?_
  show xq_t (ml_I L xs) (d + 1) 97 0 0 42 [some (.inr (some 122)), some (.inl 5), some (.inr (some 1)), some (.inr (some 2)), some (.inr (some 78))] [.inr (some 123), .inr (some 122)] (mh_c132 a1 a2 a3) Q
  refine xq_go 1 (mc' := 0) (ms' := 0) (pc' := 45) (ls' := [some (.inr (some 122)), some (.inl 5), some (.inr (some 1)), some (.inr (some 2)), some (.inr (some 78))]) (st' := []) (s' := (mh_c133 a1 a2 a3)) rfl ?_
  exact xq_rt (v := none) rfl h
set_option maxHeartbeats 4000000 in
set_option maxRecDepth 100000 in
theorem cn_c64 (h : Q none (mh_c134 a1 a2 a3)) : xm_MW (ml_I L xs) (d + 3) 0 [.inr (some 0), .inl a1, .inl a2, .inl a3] (mh_c1 a1 a2 a3) Q := by
  refine xq_in [some (.inr (some 0)), some (.inl a1), some (.inl a2), some (.inl a3), none] rfl ?_
  refine xq_go 8 (mc' := 123) (ms' := 2420) (pc' := 12) (ls' := [some (.inr (some 0)), some (.inl a1), some (.inl a2), some (.inl a3), none]) (st' := [.inl a3, .inl a2, .inl a1, .inr (some 1), .inr (some 1), .inr (some 0)]) (s' := (mh_c2 a1 a2 a3)) rfl ?_
  refine xq_cl (y' := 32) (as := [.inr (some 1), .inl a1, .inl a2, .inl a3]) (r := [.inr (some 1), .inr (some 0)]) rfl rfl ?_
  refine cn_c4 (d := d + 0) ?_
  show xq_t (ml_I L xs) (d + 2) 0 123 2420 15 [some (.inr (some 0)), some (.inl a1), some (.inl a2), some (.inl a3), none] [.inr (some 1), .inr (some 0)] (mh_c5 a1 a2 a3) Q
  refine xq_go 4 (mc' := 122) (ms' := 2416) (pc' := 23) (ls' := [some (.inr (some 0)), some (.inl a1), some (.inl a2), some (.inl a3), none]) (st' := [.inr (some 2), .inr (some 2), .inr (some 0)]) (s' := (mh_c6 a1 a2 a3)) rfl ?_
  refine xq_cl (y' := 115) (as := [.inr (some 2)]) (r := [.inr (some 2), .inr (some 0)]) rfl rfl ?_
  refine cn_c39 (d := d + 0) ?_
  show xq_t (ml_I L xs) (d + 2) 0 53 1704 26 [some (.inr (some 0)), some (.inl a1), some (.inl a2), some (.inl a3), none] [.inr (some 2), .inr (some 0)] (mh_c75 a1 a2 a3) Q
  refine xq_go 4 (mc' := 52) (ms' := 1698) (pc' := 34) (ls' := [some (.inr (some 0)), some (.inl a1), some (.inl a2), some (.inl a3), none]) (st' := [.inr (some 72), .inr (some 72), .inr (some 0)]) (s' := (mh_c76 a1 a2 a3)) rfl ?_
  refine xq_cl (y' := 35) (as := [.inr (some 72)]) (r := [.inr (some 72), .inr (some 0)]) rfl rfl ?_
  refine cn_c41 (d := d + 0) ?_
  show xq_t (ml_I L xs) (d + 2) 0 47 1626 37 [some (.inr (some 0)), some (.inl a1), some (.inl a2), some (.inl a3), none] [.inr (some 72), .inr (some 0)] (mh_c79 a1 a2 a3) Q
  refine xq_go 4 (mc' := 46) (ms' := 1620) (pc' := 45) (ls' := [some (.inr (some 0)), some (.inl a1), some (.inl a2), some (.inl a3), none]) (st' := [.inr (some 78), .inr (some 78), .inr (some 0)]) (s' := (mh_c80 a1 a2 a3)) rfl ?_
  refine xq_cl (y' := 50) (as := [.inr (some 78)]) (r := [.inr (some 78), .inr (some 0)]) rfl rfl ?_
  refine cn_c42 (d := d + 1) ?_
  show xq_t (ml_I L xs) (d + 2) 0 37 1440 48 [some (.inr (some 0)), some (.inl a1), some (.inl a2), some (.inl a3), none] [.inr (some 78), .inr (some 0)] (mh_c82 a1 a2 a3) Q
  refine xq_go 12 (mc' := 36) (ms' := 1433) (pc' := 72) (ls' := [some (.inr (some 0)), some (.inl a1), some (.inl a2), some (.inl a3), none]) (st' := [.inr (some 78), .inr (some 72), .inr (some 2), .inr (some 1), .inr (some 88), .inr (some 88), .inr (some 0)]) (s' := (mh_c83 a1 a2 a3)) rfl ?_
  refine xq_cl (y' := 81) (as := [.inr (some 88), .inr (some 1), .inr (some 2), .inr (some 72), .inr (some 78)]) (r := [.inr (some 88), .inr (some 0)]) rfl rfl ?_
  refine cn_c51 (d := d + 0) ?_
  show xq_t (ml_I L xs) (d + 2) 0 19 1182 75 [some (.inr (some 0)), some (.inl a1), some (.inl a2), some (.inl a3), none] [.inr (some 88), .inr (some 0)] (mh_c96 a1 a2 a3) Q
  refine xq_go 12 (mc' := 18) (ms' := 1176) (pc' := 100) (ls' := [some (.inr (some 0)), some (.inl a1), some (.inl a2), some (.inl a3), some (.inl 0)]) (st' := []) (s' := (mh_c97 a1 a2 a3)) rfl ?_
  refine xq_go 12 (mc' := 17) (ms' := 1164) (pc' := 124) (ls' := [some (.inr (some 0)), some (.inl a1), some (.inl a2), some (.inl a3), some (.inl 0)]) (st' := [.inr (some 78), .inr (some 2), .inr (some 1), .inl 0, .inr (some 107), .inr (some 107), .inl 0, .inr (some 106)]) (s' := (mh_c98 a1 a2 a3)) rfl ?_
  refine xq_cl (y' := 97) (as := [.inr (some 107), .inl 0, .inr (some 1), .inr (some 2), .inr (some 78)]) (r := [.inr (some 107), .inl 0, .inr (some 106)]) rfl rfl ?_
  refine cn_c53 (d := d + 0) ?_
  show xq_t (ml_I L xs) (d + 2) 0 15 980 127 [some (.inr (some 0)), some (.inl a1), some (.inl a2), some (.inl a3), some (.inl 0)] [.inr (some 107), .inl 0, .inr (some 106)] (mh_c103 a1 a2 a3) Q
  refine xq_go 14 (mc' := 14) (ms' := 968) (pc' := 112) (ls' := [some (.inr (some 0)), some (.inl a1), some (.inl a2), some (.inl a3), some (.inl 1)]) (st' := [.inl 1, .inr (some 110), .inr (some 110), .inl 1, .inr (some 106)]) (s' := (mh_c104 a1 a2 a3)) rfl ?_
  refine xq_go 6 (mc' := 14) (ms' := 968) (pc' := 124) (ls' := [some (.inr (some 0)), some (.inl a1), some (.inl a2), some (.inl a3), some (.inl 1)]) (st' := [.inr (some 78), .inr (some 2), .inr (some 1), .inl 1, .inr (some 110), .inr (some 110), .inl 1, .inr (some 106)]) (s' := (mh_c104 a1 a2 a3)) rfl ?_
  refine xq_cl (y' := 97) (as := [.inr (some 110), .inl 1, .inr (some 1), .inr (some 2), .inr (some 78)]) (r := [.inr (some 110), .inl 1, .inr (some 106)]) rfl rfl ?_
  refine cn_c55 (d := d + 0) ?_
  show xq_t (ml_I L xs) (d + 2) 0 12 784 127 [some (.inr (some 0)), some (.inl a1), some (.inl a2), some (.inl a3), some (.inl 1)] [.inr (some 110), .inl 1, .inr (some 106)] (mh_c109 a1 a2 a3) Q
  refine xq_go 14 (mc' := 11) (ms' := 772) (pc' := 112) (ls' := [some (.inr (some 0)), some (.inl a1), some (.inl a2), some (.inl a3), some (.inl 2)]) (st' := [.inl 2, .inr (some 113), .inr (some 113), .inl 2, .inr (some 106)]) (s' := (mh_c110 a1 a2 a3)) rfl ?_
  refine xq_go 6 (mc' := 11) (ms' := 772) (pc' := 124) (ls' := [some (.inr (some 0)), some (.inl a1), some (.inl a2), some (.inl a3), some (.inl 2)]) (st' := [.inr (some 78), .inr (some 2), .inr (some 1), .inl 2, .inr (some 113), .inr (some 113), .inl 2, .inr (some 106)]) (s' := (mh_c110 a1 a2 a3)) rfl ?_
  refine xq_cl (y' := 97) (as := [.inr (some 113), .inl 2, .inr (some 1), .inr (some 2), .inr (some 78)]) (r := [.inr (some 113), .inl 2, .inr (some 106)]) rfl rfl ?_
  refine cn_c57 (d := d + 0) ?_
  show xq_t (ml_I L xs) (d + 2) 0 9 588 127 [some (.inr (some 0)), some (.inl a1), some (.inl a2), some (.inl a3), some (.inl 2)] [.inr (some 113), .inl 2, .inr (some 106)] (mh_c115 a1 a2 a3) Q
  refine xq_go 14 (mc' := 8) (ms' := 576) (pc' := 112) (ls' := [some (.inr (some 0)), some (.inl a1), some (.inl a2), some (.inl a3), some (.inl 3)]) (st' := [.inl 3, .inr (some 116), .inr (some 116), .inl 3, .inr (some 106)]) (s' := (mh_c116 a1 a2 a3)) rfl ?_
  refine xq_go 6 (mc' := 8) (ms' := 576) (pc' := 124) (ls' := [some (.inr (some 0)), some (.inl a1), some (.inl a2), some (.inl a3), some (.inl 3)]) (st' := [.inr (some 78), .inr (some 2), .inr (some 1), .inl 3, .inr (some 116), .inr (some 116), .inl 3, .inr (some 106)]) (s' := (mh_c116 a1 a2 a3)) rfl ?_
  refine xq_cl (y' := 97) (as := [.inr (some 116), .inl 3, .inr (some 1), .inr (some 2), .inr (some 78)]) (r := [.inr (some 116), .inl 3, .inr (some 106)]) rfl rfl ?_
  refine cn_c59 (d := d + 0) ?_
  show xq_t (ml_I L xs) (d + 2) 0 6 392 127 [some (.inr (some 0)), some (.inl a1), some (.inl a2), some (.inl a3), some (.inl 3)] [.inr (some 116), .inl 3, .inr (some 106)] (mh_c121 a1 a2 a3) Q
  refine xq_go 14 (mc' := 5) (ms' := 380) (pc' := 112) (ls' := [some (.inr (some 0)), some (.inl a1), some (.inl a2), some (.inl a3), some (.inl 4)]) (st' := [.inl 4, .inr (some 119), .inr (some 119), .inl 4, .inr (some 106)]) (s' := (mh_c122 a1 a2 a3)) rfl ?_
  refine xq_go 6 (mc' := 5) (ms' := 380) (pc' := 124) (ls' := [some (.inr (some 0)), some (.inl a1), some (.inl a2), some (.inl a3), some (.inl 4)]) (st' := [.inr (some 78), .inr (some 2), .inr (some 1), .inl 4, .inr (some 119), .inr (some 119), .inl 4, .inr (some 106)]) (s' := (mh_c122 a1 a2 a3)) rfl ?_
  refine xq_cl (y' := 97) (as := [.inr (some 119), .inl 4, .inr (some 1), .inr (some 2), .inr (some 78)]) (r := [.inr (some 119), .inl 4, .inr (some 106)]) rfl rfl ?_
  refine cn_c61 (d := d + 0) ?_
  show xq_t (ml_I L xs) (d + 2) 0 3 196 127 [some (.inr (some 0)), some (.inl a1), some (.inl a2), some (.inl a3), some (.inl 4)] [.inr (some 119), .inl 4, .inr (some 106)] (mh_c127 a1 a2 a3) Q
  refine xq_go 14 (mc' := 2) (ms' := 184) (pc' := 112) (ls' := [some (.inr (some 0)), some (.inl a1), some (.inl a2), some (.inl a3), some (.inl 5)]) (st' := [.inl 5, .inr (some 122), .inr (some 122), .inl 5, .inr (some 106)]) (s' := (mh_c128 a1 a2 a3)) rfl ?_
  refine xq_go 6 (mc' := 2) (ms' := 184) (pc' := 124) (ls' := [some (.inr (some 0)), some (.inl a1), some (.inl a2), some (.inl a3), some (.inl 5)]) (st' := [.inr (some 78), .inr (some 2), .inr (some 1), .inl 5, .inr (some 122), .inr (some 122), .inl 5, .inr (some 106)]) (s' := (mh_c128 a1 a2 a3)) rfl ?_
  refine xq_cl (y' := 97) (as := [.inr (some 122), .inl 5, .inr (some 1), .inr (some 2), .inr (some 78)]) (r := [.inr (some 122), .inl 5, .inr (some 106)]) rfl rfl ?_
  refine cn_c63 (d := d + 0) ?_
  show xq_t (ml_I L xs) (d + 2) 0 0 0 127 [some (.inr (some 0)), some (.inl a1), some (.inl a2), some (.inl a3), some (.inl 5)] [.inr (some 122), .inl 5, .inr (some 106)] (mh_c133 a1 a2 a3) Q
  refine xq_go 8 (mc' := 0) (ms' := 0) (pc' := 134) (ls' := [some (.inr (some 0)), some (.inl a1), some (.inl a2), some (.inl a3), some (.inl 6)]) (st' := []) (s' := (mh_c134 a1 a2 a3)) rfl ?_
  exact xq_rt (v := none) rfl h
end CN
