/-! The class's constructors over the list memory. Written by prog/gen_ctor.py. -/
section CN
variable {L : Nat} {xs : Nat → Int32} {d : Nat} {a1 a2 a3 : Int32} {Q : Option (xm_V Nat) → List ml_C → Prop}
set_option maxHeartbeats 4000000 in
set_option maxRecDepth 100000 in
theorem cn_c1 (h : Q (some (.inl ((if (8 : Int32) < ((if a1 < 60 then a1 else 60) : Int32) then ((if a1 < 60 then a1 else 60) : Int32) else 8) : Int32))) (mh_c2 a1 a2 a3)) : xm_MW (ml_I L xs) (d + 1) 33 [.inl a1, .inl 8, .inl 60] (mh_c2 a1 a2 a3) Q := by
  refine xq_in [some (.inl a1), some (.inl 8), some (.inl 60)] rfl ?_
  refine xq_go 5 (mc' := 0) (ms' := 0) (pc' := 9) (ls' := [some (.inl a1), some (.inl 8), some (.inl 60)]) (st' := [.inl ((if (8 : Int32) < ((if a1 < 60 then a1 else 60) : Int32) then ((if a1 < 60 then a1 else 60) : Int32) else 8) : Int32)]) (s' := (mh_c2 a1 a2 a3)) rfl ?_
  exact xq_rt (v := some (.inl ((if (8 : Int32) < ((if a1 < 60 then a1 else 60) : Int32) then ((if a1 < 60 then a1 else 60) : Int32) else 8) : Int32))) rfl h
set_option maxHeartbeats 4000000 in
set_option maxRecDepth 100000 in
theorem cn_c2 (h : Q (some (.inl ((if (1 : Int32) < ((if a2 < 5 then a2 else 5) : Int32) then ((if a2 < 5 then a2 else 5) : Int32) else 1) : Int32))) (mh_c3 a1 a2 a3)) : xm_MW (ml_I L xs) (d + 1) 33 [.inl a2, .inl 1, .inl 5] (mh_c3 a1 a2 a3) Q := by
  refine xq_in [some (.inl a2), some (.inl 1), some (.inl 5)] rfl ?_
  refine xq_go 5 (mc' := 0) (ms' := 0) (pc' := 9) (ls' := [some (.inl a2), some (.inl 1), some (.inl 5)]) (st' := [.inl ((if (1 : Int32) < ((if a2 < 5 then a2 else 5) : Int32) then ((if a2 < 5 then a2 else 5) : Int32) else 1) : Int32)]) (s' := (mh_c3 a1 a2 a3)) rfl ?_
  exact xq_rt (v := some (.inl ((if (1 : Int32) < ((if a2 < 5 then a2 else 5) : Int32) then ((if a2 < 5 then a2 else 5) : Int32) else 1) : Int32))) rfl h
set_option maxHeartbeats 4000000 in
set_option maxRecDepth 100000 in
theorem cn_c3 (h : Q (some (.inl ((if (4 : Int32) < ((if a3 < 12 then a3 else 12) : Int32) then ((if a3 < 12 then a3 else 12) : Int32) else 4) : Int32))) (mh_c4 a1 a2 a3)) : xm_MW (ml_I L xs) (d + 1) 33 [.inl a3, .inl 4, .inl 12] (mh_c4 a1 a2 a3) Q := by
  refine xq_in [some (.inl a3), some (.inl 4), some (.inl 12)] rfl ?_
  refine xq_go 5 (mc' := 0) (ms' := 0) (pc' := 9) (ls' := [some (.inl a3), some (.inl 4), some (.inl 12)]) (st' := [.inl ((if (4 : Int32) < ((if a3 < 12 then a3 else 12) : Int32) then ((if a3 < 12 then a3 else 12) : Int32) else 4) : Int32)]) (s' := (mh_c4 a1 a2 a3)) rfl ?_
  exact xq_rt (v := some (.inl ((if (4 : Int32) < ((if a3 < 12 then a3 else 12) : Int32) then ((if a3 < 12 then a3 else 12) : Int32) else 4) : Int32))) rfl h
set_option maxHeartbeats 4000000 in
set_option maxRecDepth 100000 in
theorem cn_c4 (h : Q none (mh_c5 a1 a2 a3)) : xm_MW (ml_I L xs) (d + 2) 32 [.inr (some 1), .inl a1, .inl a2, .inl a3] (mh_c2 a1 a2 a3) Q := by
  refine xq_in [some (.inr (some 1)), some (.inl a1), some (.inl a2), some (.inl a3)] rfl ?_
  refine xq_go 6 (mc' := 0) (ms' := 0) (pc' := 10) (ls' := [some (.inr (some 1)), some (.inl a1), some (.inl a2), some (.inl a3)]) (st' := [.inl 60, .inl 8, .inl a1, .inr (some 1)]) (s' := (mh_c2 a1 a2 a3)) rfl ?_
  refine xq_cl (y' := 33) (as := [.inl a1, .inl 8, .inl 60]) (r := [.inr (some 1)]) rfl rfl ?_
  refine cn_c1 (d := d + 0) ?_
  show xq_t (ml_I L xs) (d + 1) 32 0 0 13 [some (.inr (some 1)), some (.inl a1), some (.inl a2), some (.inl a3)] [.inl ((if (8 : Int32) < ((if a1 < 60 then a1 else 60) : Int32) then ((if a1 < 60 then a1 else 60) : Int32) else 8) : Int32), .inr (some 1)] (mh_c2 a1 a2 a3) Q
  refine xq_go 5 (mc' := 0) (ms' := 0) (pc' := 20) (ls' := [some (.inr (some 1)), some (.inl a1), some (.inl a2), some (.inl a3)]) (st' := [.inl 5, .inl 1, .inl a2, .inr (some 1)]) (s' := (mh_c3 a1 a2 a3)) rfl ?_
  refine xq_cl (y' := 33) (as := [.inl a2, .inl 1, .inl 5]) (r := [.inr (some 1)]) rfl rfl ?_
  refine cn_c2 (d := d + 0) ?_
  show xq_t (ml_I L xs) (d + 1) 32 0 0 23 [some (.inr (some 1)), some (.inl a1), some (.inl a2), some (.inl a3)] [.inl ((if (1 : Int32) < ((if a2 < 5 then a2 else 5) : Int32) then ((if a2 < 5 then a2 else 5) : Int32) else 1) : Int32), .inr (some 1)] (mh_c3 a1 a2 a3) Q
  refine xq_go 5 (mc' := 0) (ms' := 0) (pc' := 31) (ls' := [some (.inr (some 1)), some (.inl a1), some (.inl a2), some (.inl a3)]) (st' := [.inl 12, .inl 4, .inl a3, .inr (some 1)]) (s' := (mh_c4 a1 a2 a3)) rfl ?_
  refine xq_cl (y' := 33) (as := [.inl a3, .inl 4, .inl 12]) (r := [.inr (some 1)]) rfl rfl ?_
  refine cn_c3 (d := d + 0) ?_
  show xq_t (ml_I L xs) (d + 1) 32 0 0 34 [some (.inr (some 1)), some (.inl a1), some (.inl a2), some (.inl a3)] [.inl ((if (4 : Int32) < ((if a3 < 12 then a3 else 12) : Int32) then ((if a3 < 12 then a3 else 12) : Int32) else 4) : Int32), .inr (some 1)] (mh_c4 a1 a2 a3) Q
  refine xq_go 1 (mc' := 0) (ms' := 0) (pc' := 37) (ls' := [some (.inr (some 1)), some (.inl a1), some (.inl a2), some (.inl a3)]) (st' := []) (s' := (mh_c5 a1 a2 a3)) rfl ?_
  exact xq_rt (v := none) rfl h
set_option maxHeartbeats 4000000 in
set_option maxRecDepth 100000 in
theorem cn_c5 (h : Q none (mh_c8 a1 a2 a3)) : xm_MW (ml_I L xs) (d + 1) 73 [.inr (some 4)] (mh_c7 a1 a2 a3) Q := by
  refine xq_in [some (.inr (some 4))] rfl ?_
  refine xq_go 6 (mc' := 0) (ms' := 0) (pc' := 12) (ls' := [some (.inr (some 4))]) (st' := []) (s' := (mh_c8 a1 a2 a3)) rfl ?_
  exact xq_rt (v := none) rfl h
set_option maxHeartbeats 4000000 in
set_option maxRecDepth 100000 in
theorem cn_c6 (h : Q none (mh_c10 a1 a2 a3)) : xm_MW (ml_I L xs) (d + 1) 73 [.inr (some 6)] (mh_c9 a1 a2 a3) Q := by
  refine xq_in [some (.inr (some 6))] rfl ?_
  refine xq_go 6 (mc' := 0) (ms' := 0) (pc' := 12) (ls' := [some (.inr (some 6))]) (st' := []) (s' := (mh_c10 a1 a2 a3)) rfl ?_
  exact xq_rt (v := none) rfl h
set_option maxHeartbeats 4000000 in
set_option maxRecDepth 100000 in
theorem cn_c7 (h : Q none (mh_c12 a1 a2 a3)) : xm_MW (ml_I L xs) (d + 1) 73 [.inr (some 8)] (mh_c11 a1 a2 a3) Q := by
  refine xq_in [some (.inr (some 8))] rfl ?_
  refine xq_go 6 (mc' := 0) (ms' := 0) (pc' := 12) (ls' := [some (.inr (some 8))]) (st' := []) (s' := (mh_c12 a1 a2 a3)) rfl ?_
  exact xq_rt (v := none) rfl h
set_option maxHeartbeats 4000000 in
set_option maxRecDepth 100000 in
theorem cn_c8 (h : Q none (mh_c14 a1 a2 a3)) : xm_MW (ml_I L xs) (d + 1) 73 [.inr (some 10)] (mh_c13 a1 a2 a3) Q := by
  refine xq_in [some (.inr (some 10))] rfl ?_
  refine xq_go 6 (mc' := 0) (ms' := 0) (pc' := 12) (ls' := [some (.inr (some 10))]) (st' := []) (s' := (mh_c14 a1 a2 a3)) rfl ?_
  exact xq_rt (v := none) rfl h
set_option maxHeartbeats 4000000 in
set_option maxRecDepth 100000 in
theorem cn_c9 (h : Q none (mh_c16 a1 a2 a3)) : xm_MW (ml_I L xs) (d + 1) 73 [.inr (some 12)] (mh_c15 a1 a2 a3) Q := by
  refine xq_in [some (.inr (some 12))] rfl ?_
  refine xq_go 6 (mc' := 0) (ms' := 0) (pc' := 12) (ls' := [some (.inr (some 12))]) (st' := []) (s' := (mh_c16 a1 a2 a3)) rfl ?_
  exact xq_rt (v := none) rfl h
set_option maxHeartbeats 4000000 in
set_option maxRecDepth 100000 in
theorem cn_c10 (h : Q none (mh_c18 a1 a2 a3)) : xm_MW (ml_I L xs) (d + 1) 73 [.inr (some 14)] (mh_c17 a1 a2 a3) Q := by
  refine xq_in [some (.inr (some 14))] rfl ?_
  refine xq_go 6 (mc' := 0) (ms' := 0) (pc' := 12) (ls' := [some (.inr (some 14))]) (st' := []) (s' := (mh_c18 a1 a2 a3)) rfl ?_
  exact xq_rt (v := none) rfl h
set_option maxHeartbeats 4000000 in
set_option maxRecDepth 100000 in
theorem cn_c11 (h : Q none (mh_c20 a1 a2 a3)) : xm_MW (ml_I L xs) (d + 1) 73 [.inr (some 16)] (mh_c19 a1 a2 a3) Q := by
  refine xq_in [some (.inr (some 16))] rfl ?_
  refine xq_go 6 (mc' := 0) (ms' := 0) (pc' := 12) (ls' := [some (.inr (some 16))]) (st' := []) (s' := (mh_c20 a1 a2 a3)) rfl ?_
  exact xq_rt (v := none) rfl h
set_option maxHeartbeats 4000000 in
set_option maxRecDepth 100000 in
theorem cn_c12 (h : Q none (mh_c22 a1 a2 a3)) : xm_MW (ml_I L xs) (d + 1) 73 [.inr (some 18)] (mh_c21 a1 a2 a3) Q := by
  refine xq_in [some (.inr (some 18))] rfl ?_
  refine xq_go 6 (mc' := 0) (ms' := 0) (pc' := 12) (ls' := [some (.inr (some 18))]) (st' := []) (s' := (mh_c22 a1 a2 a3)) rfl ?_
  exact xq_rt (v := none) rfl h
set_option maxHeartbeats 4000000 in
set_option maxRecDepth 100000 in
theorem cn_c13 (h : Q none (mh_c24 a1 a2 a3)) : xm_MW (ml_I L xs) (d + 1) 73 [.inr (some 20)] (mh_c23 a1 a2 a3) Q := by
  refine xq_in [some (.inr (some 20))] rfl ?_
  refine xq_go 6 (mc' := 0) (ms' := 0) (pc' := 12) (ls' := [some (.inr (some 20))]) (st' := []) (s' := (mh_c24 a1 a2 a3)) rfl ?_
  exact xq_rt (v := none) rfl h
set_option maxHeartbeats 4000000 in
set_option maxRecDepth 100000 in
theorem cn_c14 (h : Q none (mh_c26 a1 a2 a3)) : xm_MW (ml_I L xs) (d + 1) 73 [.inr (some 22)] (mh_c25 a1 a2 a3) Q := by
  refine xq_in [some (.inr (some 22))] rfl ?_
  refine xq_go 6 (mc' := 0) (ms' := 0) (pc' := 12) (ls' := [some (.inr (some 22))]) (st' := []) (s' := (mh_c26 a1 a2 a3)) rfl ?_
  exact xq_rt (v := none) rfl h
set_option maxHeartbeats 4000000 in
set_option maxRecDepth 100000 in
theorem cn_c15 (h : Q none (mh_c28 a1 a2 a3)) : xm_MW (ml_I L xs) (d + 1) 73 [.inr (some 24)] (mh_c27 a1 a2 a3) Q := by
  refine xq_in [some (.inr (some 24))] rfl ?_
  refine xq_go 6 (mc' := 0) (ms' := 0) (pc' := 12) (ls' := [some (.inr (some 24))]) (st' := []) (s' := (mh_c28 a1 a2 a3)) rfl ?_
  exact xq_rt (v := none) rfl h
set_option maxHeartbeats 4000000 in
set_option maxRecDepth 100000 in
theorem cn_c16 (h : Q none (mh_c30 a1 a2 a3)) : xm_MW (ml_I L xs) (d + 1) 73 [.inr (some 26)] (mh_c29 a1 a2 a3) Q := by
  refine xq_in [some (.inr (some 26))] rfl ?_
  refine xq_go 6 (mc' := 0) (ms' := 0) (pc' := 12) (ls' := [some (.inr (some 26))]) (st' := []) (s' := (mh_c30 a1 a2 a3)) rfl ?_
  exact xq_rt (v := none) rfl h
set_option maxHeartbeats 4000000 in
set_option maxRecDepth 100000 in
theorem cn_c17 (h : Q none (mh_c32 a1 a2 a3)) : xm_MW (ml_I L xs) (d + 1) 73 [.inr (some 28)] (mh_c31 a1 a2 a3) Q := by
  refine xq_in [some (.inr (some 28))] rfl ?_
  refine xq_go 6 (mc' := 0) (ms' := 0) (pc' := 12) (ls' := [some (.inr (some 28))]) (st' := []) (s' := (mh_c32 a1 a2 a3)) rfl ?_
  exact xq_rt (v := none) rfl h
set_option maxHeartbeats 4000000 in
set_option maxRecDepth 100000 in
theorem cn_c18 (h : Q none (mh_c34 a1 a2 a3)) : xm_MW (ml_I L xs) (d + 1) 73 [.inr (some 30)] (mh_c33 a1 a2 a3) Q := by
  refine xq_in [some (.inr (some 30))] rfl ?_
  refine xq_go 6 (mc' := 0) (ms' := 0) (pc' := 12) (ls' := [some (.inr (some 30))]) (st' := []) (s' := (mh_c34 a1 a2 a3)) rfl ?_
  exact xq_rt (v := none) rfl h
set_option maxHeartbeats 4000000 in
set_option maxRecDepth 100000 in
theorem cn_c19 (h : Q none (mh_c36 a1 a2 a3)) : xm_MW (ml_I L xs) (d + 1) 73 [.inr (some 32)] (mh_c35 a1 a2 a3) Q := by
  refine xq_in [some (.inr (some 32))] rfl ?_
  refine xq_go 6 (mc' := 0) (ms' := 0) (pc' := 12) (ls' := [some (.inr (some 32))]) (st' := []) (s' := (mh_c36 a1 a2 a3)) rfl ?_
  exact xq_rt (v := none) rfl h
set_option maxHeartbeats 4000000 in
set_option maxRecDepth 100000 in
theorem cn_c20 (h : Q none (mh_c38 a1 a2 a3)) : xm_MW (ml_I L xs) (d + 1) 73 [.inr (some 34)] (mh_c37 a1 a2 a3) Q := by
  refine xq_in [some (.inr (some 34))] rfl ?_
  refine xq_go 6 (mc' := 0) (ms' := 0) (pc' := 12) (ls' := [some (.inr (some 34))]) (st' := []) (s' := (mh_c38 a1 a2 a3)) rfl ?_
  exact xq_rt (v := none) rfl h
set_option maxHeartbeats 4000000 in
set_option maxRecDepth 100000 in
theorem cn_c21 (h : Q none (mh_c40 a1 a2 a3)) : xm_MW (ml_I L xs) (d + 1) 73 [.inr (some 36)] (mh_c39 a1 a2 a3) Q := by
  refine xq_in [some (.inr (some 36))] rfl ?_
  refine xq_go 6 (mc' := 0) (ms' := 0) (pc' := 12) (ls' := [some (.inr (some 36))]) (st' := []) (s' := (mh_c40 a1 a2 a3)) rfl ?_
  exact xq_rt (v := none) rfl h
set_option maxHeartbeats 4000000 in
set_option maxRecDepth 100000 in
theorem cn_c22 (h : Q none (mh_c42 a1 a2 a3)) : xm_MW (ml_I L xs) (d + 1) 73 [.inr (some 38)] (mh_c41 a1 a2 a3) Q := by
  refine xq_in [some (.inr (some 38))] rfl ?_
  refine xq_go 6 (mc' := 0) (ms' := 0) (pc' := 12) (ls' := [some (.inr (some 38))]) (st' := []) (s' := (mh_c42 a1 a2 a3)) rfl ?_
  exact xq_rt (v := none) rfl h
set_option maxHeartbeats 4000000 in
set_option maxRecDepth 100000 in
theorem cn_c23 (h : Q none (mh_c44 a1 a2 a3)) : xm_MW (ml_I L xs) (d + 1) 73 [.inr (some 40)] (mh_c43 a1 a2 a3) Q := by
  refine xq_in [some (.inr (some 40))] rfl ?_
  refine xq_go 6 (mc' := 0) (ms' := 0) (pc' := 12) (ls' := [some (.inr (some 40))]) (st' := []) (s' := (mh_c44 a1 a2 a3)) rfl ?_
  exact xq_rt (v := none) rfl h
set_option maxHeartbeats 4000000 in
set_option maxRecDepth 100000 in
theorem cn_c24 (h : Q none (mh_c46 a1 a2 a3)) : xm_MW (ml_I L xs) (d + 1) 73 [.inr (some 42)] (mh_c45 a1 a2 a3) Q := by
  refine xq_in [some (.inr (some 42))] rfl ?_
  refine xq_go 6 (mc' := 0) (ms' := 0) (pc' := 12) (ls' := [some (.inr (some 42))]) (st' := []) (s' := (mh_c46 a1 a2 a3)) rfl ?_
  exact xq_rt (v := none) rfl h
end CN
