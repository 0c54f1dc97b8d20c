/-! Methods of the reference as functions. Written by prog/gen_tf.py. -/
section TF
variable {L : Nat} {xs : Nat → Int32} {d : Nat} {μ : tm_M} {Q : Option (xm_V tm_R) → tm_M → Prop}
-- BootNetModel.select(I)V
def cs_158 (a1 : Int32) (μ : tm_M) : tm_M := (tm_wr (tm_wr (tm_wr (cs_135 0 a1 ((cs_157 a1 (tm_wr (tm_wr μ 68 0 ((a1).toNatClampNeg) 1) 69 0 ((a1).toNatClampNeg) 0)) 70 0 ((a1).toNatClampNeg)) 0 0 (cs_157 a1 (tm_wr (tm_wr μ 68 0 ((a1).toNatClampNeg) 1) 69 0 ((a1).toNatClampNeg) 0))) 74 0 ((a1).toNatClampNeg) 1) 73 0 ((a1).toNatClampNeg) (((cs_135 0 a1 ((cs_157 a1 (tm_wr (tm_wr μ 68 0 ((a1).toNatClampNeg) 1) 69 0 ((a1).toNatClampNeg) 0)) 70 0 ((a1).toNatClampNeg)) 0 0 (cs_157 a1 (tm_wr (tm_wr μ 68 0 ((a1).toNatClampNeg) 1) 69 0 ((a1).toNatClampNeg) 0))) 36 0 3) + 3)) 76 0 ((a1).toNatClampNeg) ((if ((cs_135 0 a1 ((cs_157 a1 (tm_wr (tm_wr μ 68 0 ((a1).toNatClampNeg) 1) 69 0 ((a1).toNatClampNeg) 0)) 70 0 ((a1).toNatClampNeg)) 0 0 (cs_157 a1 (tm_wr (tm_wr μ 68 0 ((a1).toNatClampNeg) 1) 69 0 ((a1).toNatClampNeg) 0))) 76 0 ((a1).toNatClampNeg)) = 1 then 0 else ((cs_135 0 a1 ((cs_157 a1 (tm_wr (tm_wr μ 68 0 ((a1).toNatClampNeg) 1) 69 0 ((a1).toNatClampNeg) 0)) 70 0 ((a1).toNatClampNeg)) 0 0 (cs_157 a1 (tm_wr (tm_wr μ 68 0 ((a1).toNatClampNeg) 1) 69 0 ((a1).toNatClampNeg) 0))) 76 0 ((a1).toNatClampNeg))) : Int32))
def ci_158 (a1 : Int32) (μ : tm_M) : Prop := (tm_ix a1 6 = true) ∧ (ci_157 a1 (tm_wr (tm_wr μ 68 0 ((a1).toNatClampNeg) 1) 69 0 ((a1).toNatClampNeg) 0)) ∧ (ci_135 0 a1 ((cs_157 a1 (tm_wr (tm_wr μ 68 0 ((a1).toNatClampNeg) 1) 69 0 ((a1).toNatClampNeg) 0)) 70 0 ((a1).toNatClampNeg)) 0 0 (cs_157 a1 (tm_wr (tm_wr μ 68 0 ((a1).toNatClampNeg) 1) 69 0 ((a1).toNatClampNeg) 0)))
set_option maxHeartbeats 4000000 in
set_option maxRecDepth 10000 in
theorem tf_158 {a1 : Int32} (hi : ci_158 a1 μ) (h : Q none (cs_158 a1 μ)) : xm_MW (tm_I L xs) (d + 3) 158 [.inr (some (36, 0)), .inl a1] μ Q := by
  refine xr_in2 [some (.inr (some (36, 0))), some (.inl a1)] rfl rfl ?_
  unfold cs_158 at h
  unfold ci_158 at hi
  refine xr_go 4 (pc' := 6) (ls' := [some (.inr (some (36, 0))), some (.inl a1)]) (st' := [.inl 1, .inl a1, .inr (some (68, 0))]) (s' := μ) rfl ?_
  refine xr_ias (n := 6) rfl rfl (hi.1) ?_
  refine xr_go 4 (pc' := 13) (ls' := [some (.inr (some (36, 0))), some (.inl a1)]) (st' := [.inl 0, .inl a1, .inr (some (69, 0))]) (s' := (tm_wr μ 68 0 ((a1).toNatClampNeg) 1)) rfl ?_
  refine xr_ias (n := 6) rfl rfl (hi.1) ?_
  refine xr_go 2 (pc' := 16) (ls' := [some (.inr (some (36, 0))), some (.inl a1)]) (st' := [.inl a1, .inr (some (36, 0))]) (s' := (tm_wr (tm_wr μ 68 0 ((a1).toNatClampNeg) 1) 69 0 ((a1).toNatClampNeg) 0)) rfl ?_
  refine xr_cl (y' := 157) (as := [.inr (some (36, 0)), .inl a1]) (r := []) rfl rfl ?_
  refine tf_157 (d := d + 1) (μ := (tm_wr (tm_wr μ 68 0 ((a1).toNatClampNeg) 1) 69 0 ((a1).toNatClampNeg) 0)) (a1 := a1) (hi.2.1) ?_
  show xr_t (tm_I L xs) (d + 2) 158 19 [some (.inr (some (36, 0))), some (.inl a1)] [] (cs_157 a1 (tm_wr (tm_wr μ 68 0 ((a1).toNatClampNeg) 1) 69 0 ((a1).toNatClampNeg) 0)) Q
  generalize gμ1 : (cs_157 a1 (tm_wr (tm_wr μ 68 0 ((a1).toNatClampNeg) 1) 69 0 ((a1).toNatClampNeg) 0)) = μ1 at h hi ⊢
  refine xr_go 6 (pc' := 27) (ls' := [some (.inr (some (36, 0))), some (.inl a1)]) (st' := [.inl a1, .inr (some (70, 0)), .inl a1, .inl 0, .inr (some (36, 0))]) (s' := μ1) rfl ?_
  refine xr_ial (n := 6) rfl rfl (hi.1) ?_
  refine xr_go 2 (pc' := 30) (ls' := [some (.inr (some (36, 0))), some (.inl a1)]) (st' := [.inl 0, .inl 0, .inl (μ1 70 0 ((a1).toNatClampNeg)), .inl a1, .inl 0, .inr (some (36, 0))]) (s' := μ1) rfl ?_
  refine xr_cl (y' := 135) (as := [.inr (some (36, 0)), .inl 0, .inl a1, .inl (μ1 70 0 ((a1).toNatClampNeg)), .inl 0, .inl 0]) (r := []) rfl rfl ?_
  refine tf_135 (d := d + 0) (μ := μ1) (a1 := 0) (a2 := a1) (a3 := (μ1 70 0 ((a1).toNatClampNeg))) (a4 := 0) (a5 := 0) (hi.2.2) ?_
  show xr_t (tm_I L xs) (d + 2) 158 33 [some (.inr (some (36, 0))), some (.inl a1)] [] (cs_135 0 a1 (μ1 70 0 ((a1).toNatClampNeg)) 0 0 μ1) Q
  generalize gμ2 : (cs_135 0 a1 (μ1 70 0 ((a1).toNatClampNeg)) 0 0 μ1) = μ2 at h hi ⊢
  refine xr_go 4 (pc' := 39) (ls' := [some (.inr (some (36, 0))), some (.inl a1)]) (st' := [.inl 1, .inl a1, .inr (some (74, 0))]) (s' := μ2) rfl ?_
  refine xr_ias (n := 6) rfl rfl (hi.1) ?_
  refine xr_go 7 (pc' := 51) (ls' := [some (.inr (some (36, 0))), some (.inl a1)]) (st' := [.inl ((μ2 36 0 3) + 3), .inl a1, .inr (some (73, 0))]) (s' := (tm_wr μ2 74 0 ((a1).toNatClampNeg) 1)) rfl ?_
  refine xr_ias (n := 6) rfl rfl (hi.1) ?_
  refine xr_go 6 (pc' := 62) (ls' := [some (.inr (some (36, 0))), some (.inl a1)]) (st' := [.inl a1, .inr (some (76, 0)), .inl a1, .inr (some (76, 0))]) (s' := (tm_wr (tm_wr μ2 74 0 ((a1).toNatClampNeg) 1) 73 0 ((a1).toNatClampNeg) ((μ2 36 0 3) + 3))) rfl ?_
  refine xr_ial (n := 6) rfl rfl (hi.1) ?_
  suffices hj1 : xr_t (tm_I L xs) (d + 2) 158 77 [some (.inr (some (36, 0))), some (.inl a1)] [.inl ((if (μ2 76 0 ((a1).toNatClampNeg)) = 1 then 0 else (μ2 76 0 ((a1).toNatClampNeg))) : Int32), .inl a1, .inr (some (76, 0))] (tm_wr (tm_wr μ2 74 0 ((a1).toNatClampNeg) 1) 73 0 ((a1).toNatClampNeg) ((μ2 36 0 3) + 3)) Q by
    refine xr_br 2 (c := (μ2 76 0 ((a1).toNatClampNeg)) = 1) inferInstance (a := 67) (b := 71) (ls' := [some (.inr (some (36, 0))), some (.inl a1)]) (st' := [.inl a1, .inr (some (76, 0))]) (s' := (tm_wr (tm_wr μ2 74 0 ((a1).toNatClampNeg) 1) 73 0 ((a1).toNatClampNeg) ((μ2 36 0 3) + 3))) rfl (fun c1 => ?_) (fun c1 => ?_)
    · skip
      refine xr_go 2 (pc' := 77) (ls' := [some (.inr (some (36, 0))), some (.inl a1)]) (st' := [.inl 0, .inl a1, .inr (some (76, 0))]) (s' := (tm_wr (tm_wr μ2 74 0 ((a1).toNatClampNeg) 1) 73 0 ((a1).toNatClampNeg) ((μ2 36 0 3) + 3))) rfl ?_
      have ehj1 : ((if (μ2 76 0 ((a1).toNatClampNeg)) = 1 then 0 else (μ2 76 0 ((a1).toNatClampNeg))) : Int32) = 0 := by first | rfl | simp only [if_pos c1]
      rw [ehj1] at hj1
      exact hj1
    · skip
      refine xr_go 3 (pc' := 76) (ls' := [some (.inr (some (36, 0))), some (.inl a1)]) (st' := [.inl a1, .inr (some (76, 0)), .inl a1, .inr (some (76, 0))]) (s' := (tm_wr (tm_wr μ2 74 0 ((a1).toNatClampNeg) 1) 73 0 ((a1).toNatClampNeg) ((μ2 36 0 3) + 3))) rfl ?_
      refine xr_ial (n := 6) rfl rfl (hi.1) ?_
      have ehj1 : ((if (μ2 76 0 ((a1).toNatClampNeg)) = 1 then 0 else (μ2 76 0 ((a1).toNatClampNeg))) : Int32) = (μ2 76 0 ((a1).toNatClampNeg)) := by first | rfl | simp only [if_neg c1]
      rw [ehj1] at hj1
      exact hj1
  refine xr_ias (n := 6) rfl rfl (hi.1) ?_
  exact xr_rt (v := none) rfl h
-- BootNetModel.ask(I)V
def cs_159 (a1 : Int32) (μ : tm_M) : tm_M := (tm_wr (tm_wr (cs_135 2 a1 ((cs_157 a1 μ) 70 0 ((a1).toNatClampNeg)) ((cs_157 a1 μ) 69 0 ((a1).toNatClampNeg)) 0 (cs_157 a1 μ)) 71 0 ((a1).toNatClampNeg) ((cs_135 2 a1 ((cs_157 a1 μ) 70 0 ((a1).toNatClampNeg)) ((cs_157 a1 μ) 69 0 ((a1).toNatClampNeg)) 0 (cs_157 a1 μ)) 36 0 3)) 73 0 ((a1).toNatClampNeg) (((cs_135 2 a1 ((cs_157 a1 μ) 70 0 ((a1).toNatClampNeg)) ((cs_157 a1 μ) 69 0 ((a1).toNatClampNeg)) 0 (cs_157 a1 μ)) 36 0 3) + 3))
def ci_159 (a1 : Int32) (μ : tm_M) : Prop := (ci_157 a1 μ) ∧ (tm_ix a1 6 = true) ∧ (ci_135 2 a1 ((cs_157 a1 μ) 70 0 ((a1).toNatClampNeg)) ((cs_157 a1 μ) 69 0 ((a1).toNatClampNeg)) 0 (cs_157 a1 μ))
set_option maxHeartbeats 4000000 in
set_option maxRecDepth 10000 in
theorem tf_159 {a1 : Int32} (hi : ci_159 a1 μ) (h : Q none (cs_159 a1 μ)) : xm_MW (tm_I L xs) (d + 3) 159 [.inr (some (36, 0)), .inl a1] μ Q := by
  refine xr_in2 [some (.inr (some (36, 0))), some (.inl a1)] rfl rfl ?_
  unfold cs_159 at h
  unfold ci_159 at hi
  refine xr_go 2 (pc' := 2) (ls' := [some (.inr (some (36, 0))), some (.inl a1)]) (st' := [.inl a1, .inr (some (36, 0))]) (s' := μ) rfl ?_
  refine xr_cl (y' := 157) (as := [.inr (some (36, 0)), .inl a1]) (r := []) rfl rfl ?_
  refine tf_157 (d := d + 1) (μ := μ) (a1 := a1) (hi.1) ?_
  show xr_t (tm_I L xs) (d + 2) 159 5 [some (.inr (some (36, 0))), some (.inl a1)] [] (cs_157 a1 μ) Q
  generalize gμ1 : (cs_157 a1 μ) = μ1 at h hi ⊢
  refine xr_go 6 (pc' := 13) (ls' := [some (.inr (some (36, 0))), some (.inl a1)]) (st' := [.inl a1, .inr (some (70, 0)), .inl a1, .inl 2, .inr (some (36, 0))]) (s' := μ1) rfl ?_
  refine xr_ial (n := 6) rfl rfl (hi.2.1) ?_
  refine xr_go 3 (pc' := 19) (ls' := [some (.inr (some (36, 0))), some (.inl a1)]) (st' := [.inl a1, .inr (some (69, 0)), .inl (μ1 70 0 ((a1).toNatClampNeg)), .inl a1, .inl 2, .inr (some (36, 0))]) (s' := μ1) rfl ?_
  refine xr_ial (n := 6) rfl rfl (hi.2.1) ?_
  refine xr_go 1 (pc' := 21) (ls' := [some (.inr (some (36, 0))), some (.inl a1)]) (st' := [.inl 0, .inl (μ1 69 0 ((a1).toNatClampNeg)), .inl (μ1 70 0 ((a1).toNatClampNeg)), .inl a1, .inl 2, .inr (some (36, 0))]) (s' := μ1) rfl ?_
  refine xr_cl (y' := 135) (as := [.inr (some (36, 0)), .inl 2, .inl a1, .inl (μ1 70 0 ((a1).toNatClampNeg)), .inl (μ1 69 0 ((a1).toNatClampNeg)), .inl 0]) (r := []) rfl rfl ?_
  refine tf_135 (d := d + 0) (μ := μ1) (a1 := 2) (a2 := a1) (a3 := (μ1 70 0 ((a1).toNatClampNeg))) (a4 := (μ1 69 0 ((a1).toNatClampNeg))) (a5 := 0) (hi.2.2) ?_
  show xr_t (tm_I L xs) (d + 2) 159 24 [some (.inr (some (36, 0))), some (.inl a1)] [] (cs_135 2 a1 (μ1 70 0 ((a1).toNatClampNeg)) (μ1 69 0 ((a1).toNatClampNeg)) 0 μ1) Q
  generalize gμ2 : (cs_135 2 a1 (μ1 70 0 ((a1).toNatClampNeg)) (μ1 69 0 ((a1).toNatClampNeg)) 0 μ1) = μ2 at h hi ⊢
  refine xr_go 5 (pc' := 33) (ls' := [some (.inr (some (36, 0))), some (.inl a1)]) (st' := [.inl (μ2 36 0 3), .inl a1, .inr (some (71, 0))]) (s' := μ2) rfl ?_
  refine xr_ias (n := 6) rfl rfl (hi.2.1) ?_
  refine xr_go 7 (pc' := 45) (ls' := [some (.inr (some (36, 0))), some (.inl a1)]) (st' := [.inl ((μ2 36 0 3) + 3), .inl a1, .inr (some (73, 0))]) (s' := (tm_wr μ2 71 0 ((a1).toNatClampNeg) (μ2 36 0 3))) rfl ?_
  refine xr_ias (n := 6) rfl rfl (hi.2.1) ?_
  exact xr_rt (v := none) rfl h
-- BootNetModel.fail(II)V
def cs_160 (a1 : Int32) (a2 : Int32) (μ : tm_M) : tm_M := (tm_wr (tm_wr (tm_wr μ 68 0 ((a1).toNatClampNeg) 7) 69 0 ((a1).toNatClampNeg) 0) 76 0 ((a1).toNatClampNeg) a2)
def ci_160 (a1 : Int32) (a2 : Int32) (μ : tm_M) : Prop := (tm_ix a1 6 = true)
set_option maxHeartbeats 4000000 in
set_option maxRecDepth 10000 in
theorem tf_160 {a1 : Int32} {a2 : Int32} (hi : ci_160 a1 a2 μ) (h : Q none (cs_160 a1 a2 μ)) : xm_MW (tm_I L xs) (d + 1) 160 [.inr (some (36, 0)), .inl a1, .inl a2] μ Q := by
  refine xr_in2 [some (.inr (some (36, 0))), some (.inl a1), some (.inl a2)] rfl rfl ?_
  unfold cs_160 at h
  unfold ci_160 at hi
  refine xr_go 4 (pc' := 7) (ls' := [some (.inr (some (36, 0))), some (.inl a1), some (.inl a2)]) (st' := [.inl 7, .inl a1, .inr (some (68, 0))]) (s' := μ) rfl ?_
  refine xr_ias (n := 6) rfl rfl (hi) ?_
  refine xr_go 4 (pc' := 14) (ls' := [some (.inr (some (36, 0))), some (.inl a1), some (.inl a2)]) (st' := [.inl 0, .inl a1, .inr (some (69, 0))]) (s' := (tm_wr μ 68 0 ((a1).toNatClampNeg) 7)) rfl ?_
  refine xr_ias (n := 6) rfl rfl (hi) ?_
  refine xr_go 4 (pc' := 21) (ls' := [some (.inr (some (36, 0))), some (.inl a1), some (.inl a2)]) (st' := [.inl a2, .inl a1, .inr (some (76, 0))]) (s' := (tm_wr (tm_wr μ 68 0 ((a1).toNatClampNeg) 7) 69 0 ((a1).toNatClampNeg) 0)) rfl ?_
  refine xr_ias (n := 6) rfl rfl (hi) ?_
  exact xr_rt (v := none) rfl h
-- BootNetModel.conflict(I)V
def cs_165 (a1 : Int32) (μ : tm_M) : tm_M := (if (((cs_135 5 a1 0 (μ 69 0 ((a1).toNatClampNeg)) 0 μ) 75 0 ((a1).toNatClampNeg)) + 1) = ((cs_135 5 a1 0 (μ 69 0 ((a1).toNatClampNeg)) 0 μ) 36 0 1) then (cs_160 a1 8 (tm_wr (cs_135 5 a1 0 (μ 69 0 ((a1).toNatClampNeg)) 0 μ) 75 0 ((a1).toNatClampNeg) (((cs_135 5 a1 0 (μ 69 0 ((a1).toNatClampNeg)) 0 μ) 75 0 ((a1).toNatClampNeg)) + 1))) else (cs_158 a1 (tm_wr (cs_135 5 a1 0 (μ 69 0 ((a1).toNatClampNeg)) 0 μ) 75 0 ((a1).toNatClampNeg) (((cs_135 5 a1 0 (μ 69 0 ((a1).toNatClampNeg)) 0 μ) 75 0 ((a1).toNatClampNeg)) + 1))))
def ci_165 (a1 : Int32) (μ : tm_M) : Prop := (tm_ix a1 6 = true) ∧ (ci_135 5 a1 0 (μ 69 0 ((a1).toNatClampNeg)) 0 μ) ∧ (((((cs_135 5 a1 0 (μ 69 0 ((a1).toNatClampNeg)) 0 μ) 75 0 ((a1).toNatClampNeg)) + 1) = ((cs_135 5 a1 0 (μ 69 0 ((a1).toNatClampNeg)) 0 μ) 36 0 1)) → ci_160 a1 8 (tm_wr (cs_135 5 a1 0 (μ 69 0 ((a1).toNatClampNeg)) 0 μ) 75 0 ((a1).toNatClampNeg) (((cs_135 5 a1 0 (μ 69 0 ((a1).toNatClampNeg)) 0 μ) 75 0 ((a1).toNatClampNeg)) + 1))) ∧ ((¬ ((((cs_135 5 a1 0 (μ 69 0 ((a1).toNatClampNeg)) 0 μ) 75 0 ((a1).toNatClampNeg)) + 1) = ((cs_135 5 a1 0 (μ 69 0 ((a1).toNatClampNeg)) 0 μ) 36 0 1))) → ci_158 a1 (tm_wr (cs_135 5 a1 0 (μ 69 0 ((a1).toNatClampNeg)) 0 μ) 75 0 ((a1).toNatClampNeg) (((cs_135 5 a1 0 (μ 69 0 ((a1).toNatClampNeg)) 0 μ) 75 0 ((a1).toNatClampNeg)) + 1)))
set_option maxHeartbeats 4000000 in
set_option maxRecDepth 10000 in
theorem tf_165 {a1 : Int32} (hi : ci_165 a1 μ) (h : Q none (cs_165 a1 μ)) : xm_MW (tm_I L xs) (d + 4) 165 [.inr (some (36, 0)), .inl a1] μ Q := by
  refine xr_in2 [some (.inr (some (36, 0))), some (.inl a1)] rfl rfl ?_
  unfold cs_165 at h
  unfold ci_165 at hi
  refine xr_go 7 (pc' := 9) (ls' := [some (.inr (some (36, 0))), some (.inl a1)]) (st' := [.inl a1, .inr (some (69, 0)), .inl 0, .inl a1, .inl 5, .inr (some (36, 0))]) (s' := μ) rfl ?_
  refine xr_ial (n := 6) rfl rfl (hi.1) ?_
  refine xr_go 1 (pc' := 11) (ls' := [some (.inr (some (36, 0))), some (.inl a1)]) (st' := [.inl 0, .inl (μ 69 0 ((a1).toNatClampNeg)), .inl 0, .inl a1, .inl 5, .inr (some (36, 0))]) (s' := μ) rfl ?_
  refine xr_cl (y' := 135) (as := [.inr (some (36, 0)), .inl 5, .inl a1, .inl 0, .inl (μ 69 0 ((a1).toNatClampNeg)), .inl 0]) (r := []) rfl rfl ?_
  refine tf_135 (d := d + 1) (μ := μ) (a1 := 5) (a2 := a1) (a3 := 0) (a4 := (μ 69 0 ((a1).toNatClampNeg))) (a5 := 0) (hi.2.1) ?_
  show xr_t (tm_I L xs) (d + 3) 165 14 [some (.inr (some (36, 0))), some (.inl a1)] [] (cs_135 5 a1 0 (μ 69 0 ((a1).toNatClampNeg)) 0 μ) Q
  generalize gμ1 : (cs_135 5 a1 0 (μ 69 0 ((a1).toNatClampNeg)) 0 μ) = μ1 at h hi ⊢
  refine xr_go 4 (pc' := 20) (ls' := [some (.inr (some (36, 0))), some (.inl a1)]) (st' := [.inl a1, .inr (some (75, 0)), .inl a1, .inr (some (75, 0))]) (s' := μ1) rfl ?_
  refine xr_ial (n := 6) rfl rfl (hi.1) ?_
  refine xr_go 2 (pc' := 23) (ls' := [some (.inr (some (36, 0))), some (.inl a1)]) (st' := [.inl ((μ1 75 0 ((a1).toNatClampNeg)) + 1), .inl a1, .inr (some (75, 0))]) (s' := μ1) rfl ?_
  refine xr_ias (n := 6) rfl rfl (hi.1) ?_
  refine xr_go 3 (pc' := 29) (ls' := [some (.inr (some (36, 0))), some (.inl a1)]) (st' := [.inl a1, .inr (some (75, 0))]) (s' := (tm_wr μ1 75 0 ((a1).toNatClampNeg) ((μ1 75 0 ((a1).toNatClampNeg)) + 1))) rfl ?_
  refine xr_ialv (n := 6) (x := ((μ1 75 0 ((a1).toNatClampNeg)) + 1)) rfl rfl (hi.1) (by rw [tm_wr_s]) ?_
  refine xr_br 3 (c := ((μ1 75 0 ((a1).toNatClampNeg)) + 1) = (μ1 36 0 1)) inferInstance (a := 37) (b := 47) (ls' := [some (.inr (some (36, 0))), some (.inl a1)]) (st' := []) (s' := (tm_wr μ1 75 0 ((a1).toNatClampNeg) ((μ1 75 0 ((a1).toNatClampNeg)) + 1))) rfl (fun c1 => ?_) (fun c1 => ?_)
  · skip
    refine xr_go 3 (pc' := 41) (ls' := [some (.inr (some (36, 0))), some (.inl a1)]) (st' := [.inl 8, .inl a1, .inr (some (36, 0))]) (s' := (tm_wr μ1 75 0 ((a1).toNatClampNeg) ((μ1 75 0 ((a1).toNatClampNeg)) + 1))) rfl ?_
    refine xr_cl (y' := 160) (as := [.inr (some (36, 0)), .inl a1, .inl 8]) (r := []) rfl rfl ?_
    refine tf_160 (d := d + 2) (μ := (tm_wr μ1 75 0 ((a1).toNatClampNeg) ((μ1 75 0 ((a1).toNatClampNeg)) + 1))) (a1 := a1) (a2 := 8) (hi.2.2.1 c1) ?_
    show xr_t (tm_I L xs) (d + 3) 165 44 [some (.inr (some (36, 0))), some (.inl a1)] [] (cs_160 a1 8 (tm_wr μ1 75 0 ((a1).toNatClampNeg) ((μ1 75 0 ((a1).toNatClampNeg)) + 1))) Q
    generalize gμ3 : (cs_160 a1 8 (tm_wr μ1 75 0 ((a1).toNatClampNeg) ((μ1 75 0 ((a1).toNatClampNeg)) + 1))) = μ3 at h hi ⊢
    refine xr_go 1 (pc' := 52) (ls' := [some (.inr (some (36, 0))), some (.inl a1)]) (st' := []) (s' := μ3) rfl ?_
    try simp only [if_pos c1] at h
    exact xr_rt (v := none) rfl h
  · skip
    refine xr_go 2 (pc' := 49) (ls' := [some (.inr (some (36, 0))), some (.inl a1)]) (st' := [.inl a1, .inr (some (36, 0))]) (s' := (tm_wr μ1 75 0 ((a1).toNatClampNeg) ((μ1 75 0 ((a1).toNatClampNeg)) + 1))) rfl ?_
    refine xr_cl (y' := 158) (as := [.inr (some (36, 0)), .inl a1]) (r := []) rfl rfl ?_
    refine tf_158 (d := d + 0) (μ := (tm_wr μ1 75 0 ((a1).toNatClampNeg) ((μ1 75 0 ((a1).toNatClampNeg)) + 1))) (a1 := a1) (hi.2.2.2 c1) ?_
    show xr_t (tm_I L xs) (d + 3) 165 52 [some (.inr (some (36, 0))), some (.inl a1)] [] (cs_158 a1 (tm_wr μ1 75 0 ((a1).toNatClampNeg) ((μ1 75 0 ((a1).toNatClampNeg)) + 1))) Q
    generalize gμ4 : (cs_158 a1 (tm_wr μ1 75 0 ((a1).toNatClampNeg) ((μ1 75 0 ((a1).toNatClampNeg)) + 1))) = μ4 at h hi ⊢
    try simp only [if_neg c1] at h
    exact xr_rt (v := none) rfl h
-- BootNetModel.load(II)V
def cs_161 (a1 : Int32) (a2 : Int32) (μ : tm_M) : tm_M := (if a2 < (μ 36 0 20) then (tm_wr (tm_wr (cs_135 8 a1 0 (μ 51 0 ((a2).toNatClampNeg)) 0 (tm_wr (tm_wr (tm_wr (tm_wr (tm_wr μ 76 0 ((a1).toNatClampNeg) 1) 77 0 ((a1).toNatClampNeg) a2) 78 0 ((a1).toNatClampNeg) 1) 81 0 ((a1).toNatClampNeg) ((if a2 = 0 then 0 else (μ 81 0 ((a1).toNatClampNeg))) : Int32)) 82 0 ((a1).toNatClampNeg) ((if a2 = 0 then 0 else (μ 81 0 ((a1).toNatClampNeg))) : Int32))) 79 0 ((a1).toNatClampNeg) 1) 80 0 ((a1).toNatClampNeg) (((cs_135 8 a1 0 (μ 51 0 ((a2).toNatClampNeg)) 0 (tm_wr (tm_wr (tm_wr (tm_wr (tm_wr μ 76 0 ((a1).toNatClampNeg) 1) 77 0 ((a1).toNatClampNeg) a2) 78 0 ((a1).toNatClampNeg) 1) 81 0 ((a1).toNatClampNeg) ((if a2 = 0 then 0 else (μ 81 0 ((a1).toNatClampNeg))) : Int32)) 82 0 ((a1).toNatClampNeg) ((if a2 = 0 then 0 else (μ 81 0 ((a1).toNatClampNeg))) : Int32))) 36 0 3) + 3)) else (tm_wr μ 76 0 ((a1).toNatClampNeg) 2))
def ci_161 (a1 : Int32) (a2 : Int32) (μ : tm_M) : Prop := ((a2 < (μ 36 0 20)) → tm_ix a1 6 = true) ∧ ((a2 < (μ 36 0 20)) → tm_ix a2 4 = true) ∧ ((a2 < (μ 36 0 20)) → ci_135 8 a1 0 (μ 51 0 ((a2).toNatClampNeg)) 0 (tm_wr (tm_wr (tm_wr (tm_wr (tm_wr μ 76 0 ((a1).toNatClampNeg) 1) 77 0 ((a1).toNatClampNeg) a2) 78 0 ((a1).toNatClampNeg) 1) 81 0 ((a1).toNatClampNeg) ((if a2 = 0 then 0 else (μ 81 0 ((a1).toNatClampNeg))) : Int32)) 82 0 ((a1).toNatClampNeg) ((if a2 = 0 then 0 else (μ 81 0 ((a1).toNatClampNeg))) : Int32))) ∧ ((¬ (a2 < (μ 36 0 20))) → tm_ix a1 6 = true)
set_option maxHeartbeats 4000000 in
set_option maxRecDepth 10000 in
theorem tf_161 {a1 : Int32} {a2 : Int32} (hi : ci_161 a1 a2 μ) (h : Q none (cs_161 a1 a2 μ)) : xm_MW (tm_I L xs) (d + 3) 161 [.inr (some (36, 0)), .inl a1, .inl a2] μ Q := by
  refine xr_in2 [some (.inr (some (36, 0))), some (.inl a1), some (.inl a2)] rfl rfl ?_
  unfold cs_161 at h
  unfold ci_161 at hi
  refine xr_br 4 (c := a2 < (μ 36 0 20)) inferInstance (a := 16) (b := 8) (ls' := [some (.inr (some (36, 0))), some (.inl a1), some (.inl a2)]) (st' := []) (s' := μ) rfl (fun c1 => ?_) (fun c1 => ?_)
  · skip
    refine xr_go 4 (pc' := 22) (ls' := [some (.inr (some (36, 0))), some (.inl a1), some (.inl a2)]) (st' := [.inl 1, .inl a1, .inr (some (76, 0))]) (s' := μ) rfl ?_
    refine xr_ias (n := 6) rfl rfl (hi.1 c1) ?_
    refine xr_go 4 (pc' := 29) (ls' := [some (.inr (some (36, 0))), some (.inl a1), some (.inl a2)]) (st' := [.inl a2, .inl a1, .inr (some (77, 0))]) (s' := (tm_wr μ 76 0 ((a1).toNatClampNeg) 1)) rfl ?_
    refine xr_ias (n := 6) rfl rfl (hi.1 c1) ?_
    refine xr_go 4 (pc' := 36) (ls' := [some (.inr (some (36, 0))), some (.inl a1), some (.inl a2)]) (st' := [.inl 1, .inl a1, .inr (some (78, 0))]) (s' := (tm_wr (tm_wr μ 76 0 ((a1).toNatClampNeg) 1) 77 0 ((a1).toNatClampNeg) a2)) rfl ?_
    refine xr_ias (n := 6) rfl rfl (hi.1 c1) ?_
    suffices hj2 : xr_t (tm_I L xs) (d + 2) 161 56 [some (.inr (some (36, 0))), some (.inl a1), some (.inl a2)] [.inl ((if a2 = 0 then 0 else (μ 81 0 ((a1).toNatClampNeg))) : Int32), .inl a1, .inr (some (81, 0))] (tm_wr (tm_wr (tm_wr μ 76 0 ((a1).toNatClampNeg) 1) 77 0 ((a1).toNatClampNeg) a2) 78 0 ((a1).toNatClampNeg) 1) Q by
      refine xr_br 5 (c := a2 = 0) inferInstance (a := 46) (b := 50) (ls' := [some (.inr (some (36, 0))), some (.inl a1), some (.inl a2)]) (st' := [.inl a1, .inr (some (81, 0))]) (s' := (tm_wr (tm_wr (tm_wr μ 76 0 ((a1).toNatClampNeg) 1) 77 0 ((a1).toNatClampNeg) a2) 78 0 ((a1).toNatClampNeg) 1)) rfl (fun c2 => ?_) (fun c2 => ?_)
      · skip
        refine xr_go 2 (pc' := 56) (ls' := [some (.inr (some (36, 0))), some (.inl a1), some (.inl a2)]) (st' := [.inl 0, .inl a1, .inr (some (81, 0))]) (s' := (tm_wr (tm_wr (tm_wr μ 76 0 ((a1).toNatClampNeg) 1) 77 0 ((a1).toNatClampNeg) a2) 78 0 ((a1).toNatClampNeg) 1)) rfl ?_
        have ehj2 : ((if a2 = 0 then 0 else (μ 81 0 ((a1).toNatClampNeg))) : Int32) = 0 := by first | rfl | simp only [if_pos c2]
        rw [ehj2] at hj2
        exact hj2
      · skip
        refine xr_go 3 (pc' := 55) (ls' := [some (.inr (some (36, 0))), some (.inl a1), some (.inl a2)]) (st' := [.inl a1, .inr (some (81, 0)), .inl a1, .inr (some (81, 0))]) (s' := (tm_wr (tm_wr (tm_wr μ 76 0 ((a1).toNatClampNeg) 1) 77 0 ((a1).toNatClampNeg) a2) 78 0 ((a1).toNatClampNeg) 1)) rfl ?_
        refine xr_ial (n := 6) rfl rfl (hi.1 c1) ?_
        have ehj2 : ((if a2 = 0 then 0 else (μ 81 0 ((a1).toNatClampNeg))) : Int32) = (μ 81 0 ((a1).toNatClampNeg)) := by first | rfl | simp only [if_neg c2]
        rw [ehj2] at hj2
        exact hj2
    refine xr_ias (n := 6) rfl rfl (hi.1 c1) ?_
    refine xr_go 6 (pc' := 67) (ls' := [some (.inr (some (36, 0))), some (.inl a1), some (.inl a2)]) (st' := [.inl a1, .inr (some (81, 0)), .inl a1, .inr (some (82, 0))]) (s' := (tm_wr (tm_wr (tm_wr (tm_wr μ 76 0 ((a1).toNatClampNeg) 1) 77 0 ((a1).toNatClampNeg) a2) 78 0 ((a1).toNatClampNeg) 1) 81 0 ((a1).toNatClampNeg) ((if a2 = 0 then 0 else (μ 81 0 ((a1).toNatClampNeg))) : Int32))) rfl ?_
    refine xr_ialv (n := 6) (x := ((if a2 = 0 then 0 else (μ 81 0 ((a1).toNatClampNeg))) : Int32)) rfl rfl (hi.1 c1) (by rw [tm_wr_s]) ?_
    refine xr_ias (n := 6) rfl rfl (hi.1 c1) ?_
    refine xr_go 7 (pc' := 79) (ls' := [some (.inr (some (36, 0))), some (.inl a1), some (.inl a2)]) (st' := [.inl a2, .inr (some (51, 0)), .inl 0, .inl a1, .inl 8, .inr (some (36, 0))]) (s' := (tm_wr (tm_wr (tm_wr (tm_wr (tm_wr μ 76 0 ((a1).toNatClampNeg) 1) 77 0 ((a1).toNatClampNeg) a2) 78 0 ((a1).toNatClampNeg) 1) 81 0 ((a1).toNatClampNeg) ((if a2 = 0 then 0 else (μ 81 0 ((a1).toNatClampNeg))) : Int32)) 82 0 ((a1).toNatClampNeg) ((if a2 = 0 then 0 else (μ 81 0 ((a1).toNatClampNeg))) : Int32))) rfl ?_
    refine xr_ial (n := 4) rfl rfl (hi.2.1 c1) ?_
    refine xr_go 1 (pc' := 81) (ls' := [some (.inr (some (36, 0))), some (.inl a1), some (.inl a2)]) (st' := [.inl 0, .inl (μ 51 0 ((a2).toNatClampNeg)), .inl 0, .inl a1, .inl 8, .inr (some (36, 0))]) (s' := (tm_wr (tm_wr (tm_wr (tm_wr (tm_wr μ 76 0 ((a1).toNatClampNeg) 1) 77 0 ((a1).toNatClampNeg) a2) 78 0 ((a1).toNatClampNeg) 1) 81 0 ((a1).toNatClampNeg) ((if a2 = 0 then 0 else (μ 81 0 ((a1).toNatClampNeg))) : Int32)) 82 0 ((a1).toNatClampNeg) ((if a2 = 0 then 0 else (μ 81 0 ((a1).toNatClampNeg))) : Int32))) rfl ?_
    refine xr_cl (y' := 135) (as := [.inr (some (36, 0)), .inl 8, .inl a1, .inl 0, .inl (μ 51 0 ((a2).toNatClampNeg)), .inl 0]) (r := []) rfl rfl ?_
    refine tf_135 (d := d + 0) (μ := (tm_wr (tm_wr (tm_wr (tm_wr (tm_wr μ 76 0 ((a1).toNatClampNeg) 1) 77 0 ((a1).toNatClampNeg) a2) 78 0 ((a1).toNatClampNeg) 1) 81 0 ((a1).toNatClampNeg) ((if a2 = 0 then 0 else (μ 81 0 ((a1).toNatClampNeg))) : Int32)) 82 0 ((a1).toNatClampNeg) ((if a2 = 0 then 0 else (μ 81 0 ((a1).toNatClampNeg))) : Int32))) (a1 := 8) (a2 := a1) (a3 := 0) (a4 := (μ 51 0 ((a2).toNatClampNeg))) (a5 := 0) (hi.2.2.1 c1) ?_
    show xr_t (tm_I L xs) (d + 2) 161 84 [some (.inr (some (36, 0))), some (.inl a1), some (.inl a2)] [] (cs_135 8 a1 0 (μ 51 0 ((a2).toNatClampNeg)) 0 (tm_wr (tm_wr (tm_wr (tm_wr (tm_wr μ 76 0 ((a1).toNatClampNeg) 1) 77 0 ((a1).toNatClampNeg) a2) 78 0 ((a1).toNatClampNeg) 1) 81 0 ((a1).toNatClampNeg) ((if a2 = 0 then 0 else (μ 81 0 ((a1).toNatClampNeg))) : Int32)) 82 0 ((a1).toNatClampNeg) ((if a2 = 0 then 0 else (μ 81 0 ((a1).toNatClampNeg))) : Int32))) Q
    generalize gμ1 : (cs_135 8 a1 0 (μ 51 0 ((a2).toNatClampNeg)) 0 (tm_wr (tm_wr (tm_wr (tm_wr (tm_wr μ 76 0 ((a1).toNatClampNeg) 1) 77 0 ((a1).toNatClampNeg) a2) 78 0 ((a1).toNatClampNeg) 1) 81 0 ((a1).toNatClampNeg) ((if a2 = 0 then 0 else (μ 81 0 ((a1).toNatClampNeg))) : Int32)) 82 0 ((a1).toNatClampNeg) ((if a2 = 0 then 0 else (μ 81 0 ((a1).toNatClampNeg))) : Int32))) = μ1 at h hi ⊢
    refine xr_go 4 (pc' := 90) (ls' := [some (.inr (some (36, 0))), some (.inl a1), some (.inl a2)]) (st' := [.inl 1, .inl a1, .inr (some (79, 0))]) (s' := μ1) rfl ?_
    refine xr_ias (n := 6) rfl rfl (hi.1 c1) ?_
    refine xr_go 7 (pc' := 102) (ls' := [some (.inr (some (36, 0))), some (.inl a1), some (.inl a2)]) (st' := [.inl ((μ1 36 0 3) + 3), .inl a1, .inr (some (80, 0))]) (s' := (tm_wr μ1 79 0 ((a1).toNatClampNeg) 1)) rfl ?_
    refine xr_ias (n := 6) rfl rfl (hi.1 c1) ?_
    try simp only [if_pos c1] at h
    exact xr_rt (v := none) rfl h
  · skip
    refine xr_go 4 (pc' := 14) (ls' := [some (.inr (some (36, 0))), some (.inl a1), some (.inl a2)]) (st' := [.inl 2, .inl a1, .inr (some (76, 0))]) (s' := μ) rfl ?_
    refine xr_ias (n := 6) rfl rfl (hi.2.2.2 c1) ?_
    try simp only [if_neg c1] at h
    exact xr_rt (v := none) rfl h
-- BootNetModel.receive(IIII)V
def cs_166_148 (a1 : Int32) (a2 : Int32) (a3 : Int32) (a4 : Int32) : Nat → Int32 → Int32 → Int32 → tm_M → tm_M
  | 0, _, _, _, μ => μ
  | n + 1, l5, l6, l7, μ => (if (μ 81 0 ((a1).toNatClampNeg)) ≤ l7 then (if l5 = (μ 52 0 (((μ 77 0 ((a1).toNatClampNeg)) : Int32).toNatClampNeg)) then (if (l6 ^^^ (-1)) = (μ 53 0 (((μ 77 0 ((a1).toNatClampNeg)) : Int32).toNatClampNeg)) then (cs_161 a1 ((μ 77 0 ((a1).toNatClampNeg)) + 1) μ) else (tm_wr μ 76 0 ((a1).toNatClampNeg) 5)) else (tm_wr μ 76 0 ((a1).toNatClampNeg) 4)) else (cs_166_148 a1 a2 a3 a4 n l5 (cv_131 l6 (μ 83 0 ((((240 * a1) + l7) : Int32).toNatClampNeg)) μ) (l7 + 1) μ))
def ci_166_148 (a1 : Int32) (a2 : Int32) (a3 : Int32) (a4 : Int32) : Nat → Int32 → Int32 → Int32 → tm_M → Prop
  | 0, _, _, _, _ => False
  | n + 1, l5, l6, l7, μ => (tm_ix a1 6 = true) ∧ (((μ 81 0 ((a1).toNatClampNeg)) ≤ l7) → tm_ix (μ 77 0 ((a1).toNatClampNeg)) 4 = true) ∧ (((μ 81 0 ((a1).toNatClampNeg)) ≤ l7) → (l5 = (μ 52 0 (((μ 77 0 ((a1).toNatClampNeg)) : Int32).toNatClampNeg))) → ((l6 ^^^ (-1)) = (μ 53 0 (((μ 77 0 ((a1).toNatClampNeg)) : Int32).toNatClampNeg))) → ci_161 a1 ((μ 77 0 ((a1).toNatClampNeg)) + 1) μ) ∧ ((¬ ((μ 81 0 ((a1).toNatClampNeg)) ≤ l7)) → tm_ix ((240 * a1) + l7) 1440 = true) ∧ ((¬ ((μ 81 0 ((a1).toNatClampNeg)) ≤ l7)) → ci_131 l6 (μ 83 0 ((((240 * a1) + l7) : Int32).toNatClampNeg)) μ) ∧ ((¬ ((μ 81 0 ((a1).toNatClampNeg)) ≤ l7)) → ci_166_148 a1 a2 a3 a4 n l5 (cv_131 l6 (μ 83 0 ((((240 * a1) + l7) : Int32).toNatClampNeg)) μ) (l7 + 1) μ)
set_option maxHeartbeats 4000000 in
set_option maxRecDepth 10000 in
theorem tl_166_148 {a1 : Int32} {a2 : Int32} {a3 : Int32} {a4 : Int32} : ∀ (n : Nat) (l5 : Int32) (l6 : Int32) (l7 : Int32) (μ : tm_M), ci_166_148 a1 a2 a3 a4 n l5 l6 l7 μ → Q none (cs_166_148 a1 a2 a3 a4 n l5 l6 l7 μ) → xr_t (tm_I L xs) (d + 3) 166 148 [some (.inr (some (36, 0))), some (.inl a1), some (.inl a2), some (.inl a3), some (.inl a4), some (.inl l5), some (.inl l6), some (.inl l7)] [] μ Q := by
  intro n
  induction n with
  | zero => intro l5 l6 l7 μ hi; exact hi.elim
  | succ n ih =>
    intro l5 l6 l7 μ hi h
    unfold ci_166_148 at hi
    simp only [cs_166_148] at h
    refine xr_go 4 (pc' := 155) (ls' := [some (.inr (some (36, 0))), some (.inl a1), some (.inl a2), some (.inl a3), some (.inl a4), some (.inl l5), some (.inl l6), some (.inl l7)]) (st' := [.inl a1, .inr (some (81, 0)), .inl l7]) (s' := μ) rfl ?_
    refine xr_ial (n := 6) rfl rfl (hi.1) ?_
    refine xr_br 1 (c := (μ 81 0 ((a1).toNatClampNeg)) ≤ l7) inferInstance (a := 185) (b := 159) (ls' := [some (.inr (some (36, 0))), some (.inl a1), some (.inl a2), some (.inl a3), some (.inl a4), some (.inl l5), some (.inl l6), some (.inl l7)]) (st' := []) (s' := μ) rfl (fun c1 => ?_) (fun c1 => ?_)
    · skip
      refine xr_go 6 (pc' := 196) (ls' := [some (.inr (some (36, 0))), some (.inl a1), some (.inl a2), some (.inl a3), some (.inl a4), some (.inl l5), some (.inl l6), some (.inl l7)]) (st' := [.inl a1, .inr (some (77, 0)), .inr (some (52, 0)), .inl l5]) (s' := μ) rfl ?_
      refine xr_ial (n := 6) rfl rfl (hi.1) ?_
      refine xr_ial (n := 4) rfl rfl (hi.2.1 c1) ?_
      refine xr_br 1 (c := l5 = (μ 52 0 (((μ 77 0 ((a1).toNatClampNeg)) : Int32).toNatClampNeg))) inferInstance (a := 211) (b := 201) (ls' := [some (.inr (some (36, 0))), some (.inl a1), some (.inl a2), some (.inl a3), some (.inl a4), some (.inl l5), some (.inl l6), some (.inl l7)]) (st' := []) (s' := μ) rfl (fun c2 => ?_) (fun c2 => ?_)
      · skip
        refine xr_go 8 (pc' := 224) (ls' := [some (.inr (some (36, 0))), some (.inl a1), some (.inl a2), some (.inl a3), some (.inl a4), some (.inl l5), some (.inl l6), some (.inl l7)]) (st' := [.inl a1, .inr (some (77, 0)), .inr (some (53, 0)), .inl (l6 ^^^ (-1))]) (s' := μ) rfl ?_
        refine xr_ial (n := 6) rfl rfl (hi.1) ?_
        refine xr_ial (n := 4) rfl rfl (hi.2.1 c1) ?_
        refine xr_br 1 (c := (l6 ^^^ (-1)) = (μ 53 0 (((μ 77 0 ((a1).toNatClampNeg)) : Int32).toNatClampNeg))) inferInstance (a := 239) (b := 229) (ls' := [some (.inr (some (36, 0))), some (.inl a1), some (.inl a2), some (.inl a3), some (.inl a4), some (.inl l5), some (.inl l6), some (.inl l7)]) (st' := []) (s' := μ) rfl (fun c3 => ?_) (fun c3 => ?_)
        · skip
          refine xr_go 5 (pc' := 246) (ls' := [some (.inr (some (36, 0))), some (.inl a1), some (.inl a2), some (.inl a3), some (.inl a4), some (.inl l5), some (.inl l6), some (.inl l7)]) (st' := [.inl a1, .inr (some (77, 0)), .inl a1, .inr (some (36, 0))]) (s' := μ) rfl ?_
          refine xr_ial (n := 6) rfl rfl (hi.1) ?_
          refine xr_go 2 (pc' := 249) (ls' := [some (.inr (some (36, 0))), some (.inl a1), some (.inl a2), some (.inl a3), some (.inl a4), some (.inl l5), some (.inl l6), some (.inl l7)]) (st' := [.inl ((μ 77 0 ((a1).toNatClampNeg)) + 1), .inl a1, .inr (some (36, 0))]) (s' := μ) rfl ?_
          refine xr_cl (y' := 161) (as := [.inr (some (36, 0)), .inl a1, .inl ((μ 77 0 ((a1).toNatClampNeg)) + 1)]) (r := []) rfl rfl ?_
          refine tf_161 (d := d + 0) (μ := μ) (a1 := a1) (a2 := ((μ 77 0 ((a1).toNatClampNeg)) + 1)) (hi.2.2.1 c1 c2 c3) ?_
          show xr_t (tm_I L xs) (d + 3) 166 252 [some (.inr (some (36, 0))), some (.inl a1), some (.inl a2), some (.inl a3), some (.inl a4), some (.inl l5), some (.inl l6), some (.inl l7)] [] (cs_161 a1 ((μ 77 0 ((a1).toNatClampNeg)) + 1) μ) Q
          generalize gμ4 : (cs_161 a1 ((μ 77 0 ((a1).toNatClampNeg)) + 1) μ) = μ4 at h hi ⊢
          try simp only [if_pos c1, if_pos c2, if_pos c3] at h
          exact xr_rt (v := none) rfl h
        · skip
          refine xr_go 4 (pc' := 235) (ls' := [some (.inr (some (36, 0))), some (.inl a1), some (.inl a2), some (.inl a3), some (.inl a4), some (.inl l5), some (.inl l6), some (.inl l7)]) (st' := [.inl 5, .inl a1, .inr (some (76, 0))]) (s' := μ) rfl ?_
          refine xr_ias (n := 6) rfl rfl (hi.1) ?_
          refine xr_go 1 (pc' := 252) (ls' := [some (.inr (some (36, 0))), some (.inl a1), some (.inl a2), some (.inl a3), some (.inl a4), some (.inl l5), some (.inl l6), some (.inl l7)]) (st' := []) (s' := (tm_wr μ 76 0 ((a1).toNatClampNeg) 5)) rfl ?_
          try simp only [if_pos c1, if_pos c2, if_neg c3] at h
          exact xr_rt (v := none) rfl h
      · skip
        refine xr_go 4 (pc' := 207) (ls' := [some (.inr (some (36, 0))), some (.inl a1), some (.inl a2), some (.inl a3), some (.inl a4), some (.inl l5), some (.inl l6), some (.inl l7)]) (st' := [.inl 4, .inl a1, .inr (some (76, 0))]) (s' := μ) rfl ?_
        refine xr_ias (n := 6) rfl rfl (hi.1) ?_
        refine xr_go 1 (pc' := 252) (ls' := [some (.inr (some (36, 0))), some (.inl a1), some (.inl a2), some (.inl a3), some (.inl a4), some (.inl l5), some (.inl l6), some (.inl l7)]) (st' := []) (s' := (tm_wr μ 76 0 ((a1).toNatClampNeg) 4)) rfl ?_
        try simp only [if_pos c1, if_neg c2] at h
        exact xr_rt (v := none) rfl h
    · skip
      refine xr_go 8 (pc' := 173) (ls' := [some (.inr (some (36, 0))), some (.inl a1), some (.inl a2), some (.inl a3), some (.inl a4), some (.inl l5), some (.inl l6), some (.inl l7)]) (st' := [.inl ((240 * a1) + l7), .inr (some (83, 0)), .inl l6]) (s' := μ) rfl ?_
      refine xr_ial (n := 1440) rfl rfl (hi.2.2.2.1 c1) ?_
      refine xr_cl (y' := 131) (as := [.inl l6, .inl (μ 83 0 ((((240 * a1) + l7) : Int32).toNatClampNeg))]) (r := []) rfl rfl ?_
      refine tf_131 (d := d + 2) (μ := μ) (a1 := l6) (a2 := (μ 83 0 ((((240 * a1) + l7) : Int32).toNatClampNeg))) (hi.2.2.2.2.1 c1) ?_
      show xr_t (tm_I L xs) (d + 3) 166 177 [some (.inr (some (36, 0))), some (.inl a1), some (.inl a2), some (.inl a3), some (.inl a4), some (.inl l5), some (.inl l6), some (.inl l7)] [.inl (cv_131 l6 (μ 83 0 ((((240 * a1) + l7) : Int32).toNatClampNeg)) μ)] μ Q
      generalize gv5 : (cv_131 l6 (μ 83 0 ((((240 * a1) + l7) : Int32).toNatClampNeg)) μ) = v5 at h hi ⊢
      refine xr_go 3 (pc' := 148) (ls' := [some (.inr (some (36, 0))), some (.inl a1), some (.inl a2), some (.inl a3), some (.inl a4), some (.inl l5), some (.inl v5), some (.inl (l7 + 1))]) (st' := []) (s' := μ) rfl ?_
      try simp only [if_neg c1] at h
      exact ih l5 v5 (l7 + 1) μ (hi.2.2.2.2.2 c1) h
def cs_166_3 (a1 : Int32) (a2 : Int32) (a3 : Int32) (a4 : Int32) : Nat → Int32 → tm_M → tm_M
  | 0, _, μ => μ
  | n + 1, l5, μ => (if a4 ≤ l5 then (if a4 = ((cs_135 10 a1 0 a2 a3 μ) 36 0 2) then (tm_wr (tm_wr (tm_wr (tm_wr (cs_135 10 a1 0 a2 a3 μ) 79 0 ((a1).toNatClampNeg) 1) 80 0 ((a1).toNatClampNeg) (((cs_135 10 a1 0 a2 a3 μ) 36 0 3) + 3)) 78 0 ((a1).toNatClampNeg) (((cs_135 10 a1 0 a2 a3 μ) 78 0 ((a1).toNatClampNeg)) + 1)) 76 0 ((a1).toNatClampNeg) ((if (((cs_135 10 a1 0 a2 a3 μ) 81 0 ((a1).toNatClampNeg)) - ((cs_135 10 a1 0 a2 a3 μ) 82 0 ((a1).toNatClampNeg))) ≤ 40 then ((cs_135 10 a1 0 a2 a3 μ) 76 0 ((a1).toNatClampNeg)) else 4) : Int32)) else (cs_166_148 a1 a2 a3 a4 64 (((cs_135 10 a1 0 a2 a3 μ) 81 0 ((a1).toNatClampNeg)) - ((cs_135 10 a1 0 a2 a3 μ) 82 0 ((a1).toNatClampNeg))) (-1) ((cs_135 10 a1 0 a2 a3 μ) 82 0 ((a1).toNatClampNeg)) (tm_wr (tm_wr (cs_135 10 a1 0 a2 a3 μ) 79 0 ((a1).toNatClampNeg) 1) 80 0 ((a1).toNatClampNeg) (((cs_135 10 a1 0 a2 a3 μ) 36 0 3) + 3)))) else (cs_166_3 a1 a2 a3 a4 n (l5 + 1) (tm_wr (tm_wr μ 83 0 ((((240 * a1) + (μ 81 0 ((a1).toNatClampNeg))) : Int32).toNatClampNeg) (μ 84 0 ((l5).toNatClampNeg))) 81 0 ((a1).toNatClampNeg) ((μ 81 0 ((a1).toNatClampNeg)) + 1))))
def ci_166_3 (a1 : Int32) (a2 : Int32) (a3 : Int32) (a4 : Int32) : Nat → Int32 → tm_M → Prop
  | 0, _, _ => False
  | n + 1, l5, μ => ((a4 ≤ l5) → ci_135 10 a1 0 a2 a3 μ) ∧ ((a4 ≤ l5) → tm_ix a1 6 = true) ∧ ((a4 ≤ l5) → (¬ (a4 = ((cs_135 10 a1 0 a2 a3 μ) 36 0 2))) → ci_166_148 a1 a2 a3 a4 64 (((cs_135 10 a1 0 a2 a3 μ) 81 0 ((a1).toNatClampNeg)) - ((cs_135 10 a1 0 a2 a3 μ) 82 0 ((a1).toNatClampNeg))) (-1) ((cs_135 10 a1 0 a2 a3 μ) 82 0 ((a1).toNatClampNeg)) (tm_wr (tm_wr (cs_135 10 a1 0 a2 a3 μ) 79 0 ((a1).toNatClampNeg) 1) 80 0 ((a1).toNatClampNeg) (((cs_135 10 a1 0 a2 a3 μ) 36 0 3) + 3))) ∧ ((¬ (a4 ≤ l5)) → tm_ix a1 6 = true) ∧ ((¬ (a4 ≤ l5)) → tm_ix l5 12 = true) ∧ ((¬ (a4 ≤ l5)) → tm_ix ((240 * a1) + (μ 81 0 ((a1).toNatClampNeg))) 1440 = true) ∧ ((¬ (a4 ≤ l5)) → ci_166_3 a1 a2 a3 a4 n (l5 + 1) (tm_wr (tm_wr μ 83 0 ((((240 * a1) + (μ 81 0 ((a1).toNatClampNeg))) : Int32).toNatClampNeg) (μ 84 0 ((l5).toNatClampNeg))) 81 0 ((a1).toNatClampNeg) ((μ 81 0 ((a1).toNatClampNeg)) + 1)))
set_option maxHeartbeats 4000000 in
set_option maxRecDepth 10000 in
theorem tl_166_3 {a1 : Int32} {a2 : Int32} {a3 : Int32} {a4 : Int32} : ∀ (n : Nat) (l5 : Int32) (μ : tm_M), ci_166_3 a1 a2 a3 a4 n l5 μ → Q none (cs_166_3 a1 a2 a3 a4 n l5 μ) → xr_t (tm_I L xs) (d + 3) 166 3 [some (.inr (some (36, 0))), some (.inl a1), some (.inl a2), some (.inl a3), some (.inl a4), some (.inl l5), none, none] [] μ Q := by
  intro n
  induction n with
  | zero => intro l5 μ hi; exact hi.elim
  | succ n ih =>
    intro l5 μ hi h
    unfold ci_166_3 at hi
    simp only [cs_166_3] at h
    refine xr_br 3 (c := a4 ≤ l5) inferInstance (a := 50) (b := 10) (ls' := [some (.inr (some (36, 0))), some (.inl a1), some (.inl a2), some (.inl a3), some (.inl a4), some (.inl l5), none, none]) (st' := []) (s' := μ) rfl (fun c1 => ?_) (fun c1 => ?_)
    · skip
      refine xr_go 6 (pc' := 57) (ls' := [some (.inr (some (36, 0))), some (.inl a1), some (.inl a2), some (.inl a3), some (.inl a4), some (.inl l5), none, none]) (st' := [.inl a3, .inl a2, .inl 0, .inl a1, .inl 10, .inr (some (36, 0))]) (s' := μ) rfl ?_
      refine xr_cl (y' := 135) (as := [.inr (some (36, 0)), .inl 10, .inl a1, .inl 0, .inl a2, .inl a3]) (r := []) rfl rfl ?_
      refine tf_135 (d := d + 1) (μ := μ) (a1 := 10) (a2 := a1) (a3 := 0) (a4 := a2) (a5 := a3) (hi.1 c1) ?_
      show xr_t (tm_I L xs) (d + 3) 166 60 [some (.inr (some (36, 0))), some (.inl a1), some (.inl a2), some (.inl a3), some (.inl a4), some (.inl l5), none, none] [] (cs_135 10 a1 0 a2 a3 μ) Q
      generalize gμ1 : (cs_135 10 a1 0 a2 a3 μ) = μ1 at h hi ⊢
      refine xr_go 4 (pc' := 66) (ls' := [some (.inr (some (36, 0))), some (.inl a1), some (.inl a2), some (.inl a3), some (.inl a4), some (.inl l5), none, none]) (st' := [.inl 1, .inl a1, .inr (some (79, 0))]) (s' := μ1) rfl ?_
      refine xr_ias (n := 6) rfl rfl (hi.2.1 c1) ?_
      refine xr_go 7 (pc' := 78) (ls' := [some (.inr (some (36, 0))), some (.inl a1), some (.inl a2), some (.inl a3), some (.inl a4), some (.inl l5), none, none]) (st' := [.inl ((μ1 36 0 3) + 3), .inl a1, .inr (some (80, 0))]) (s' := (tm_wr μ1 79 0 ((a1).toNatClampNeg) 1)) rfl ?_
      refine xr_ias (n := 6) rfl rfl (hi.2.1 c1) ?_
      refine xr_go 3 (pc' := 84) (ls' := [some (.inr (some (36, 0))), some (.inl a1), some (.inl a2), some (.inl a3), some (.inl a4), some (.inl l5), none, none]) (st' := [.inl a1, .inr (some (81, 0))]) (s' := (tm_wr (tm_wr μ1 79 0 ((a1).toNatClampNeg) 1) 80 0 ((a1).toNatClampNeg) ((μ1 36 0 3) + 3))) rfl ?_
      refine xr_ial (n := 6) rfl rfl (hi.2.1 c1) ?_
      refine xr_go 3 (pc' := 90) (ls' := [some (.inr (some (36, 0))), some (.inl a1), some (.inl a2), some (.inl a3), some (.inl a4), some (.inl l5), none, none]) (st' := [.inl a1, .inr (some (82, 0)), .inl (μ1 81 0 ((a1).toNatClampNeg))]) (s' := (tm_wr (tm_wr μ1 79 0 ((a1).toNatClampNeg) 1) 80 0 ((a1).toNatClampNeg) ((μ1 36 0 3) + 3))) rfl ?_
      refine xr_ial (n := 6) rfl rfl (hi.2.1 c1) ?_
      refine xr_br 6 (c := a4 = (μ1 36 0 2)) inferInstance (a := 103) (b := 137) (ls' := [some (.inr (some (36, 0))), some (.inl a1), some (.inl a2), some (.inl a3), some (.inl a4), some (.inl ((μ1 81 0 ((a1).toNatClampNeg)) - (μ1 82 0 ((a1).toNatClampNeg)))), none, none]) (st' := []) (s' := (tm_wr (tm_wr μ1 79 0 ((a1).toNatClampNeg) 1) 80 0 ((a1).toNatClampNeg) ((μ1 36 0 3) + 3))) rfl (fun c2 => ?_) (fun c2 => ?_)
      · skip
        refine xr_go 4 (pc' := 109) (ls' := [some (.inr (some (36, 0))), some (.inl a1), some (.inl a2), some (.inl a3), some (.inl a4), some (.inl ((μ1 81 0 ((a1).toNatClampNeg)) - (μ1 82 0 ((a1).toNatClampNeg)))), none, none]) (st' := [.inl a1, .inr (some (78, 0)), .inl a1, .inr (some (78, 0))]) (s' := (tm_wr (tm_wr μ1 79 0 ((a1).toNatClampNeg) 1) 80 0 ((a1).toNatClampNeg) ((μ1 36 0 3) + 3))) rfl ?_
        refine xr_ial (n := 6) rfl rfl (hi.2.1 c1) ?_
        refine xr_go 2 (pc' := 112) (ls' := [some (.inr (some (36, 0))), some (.inl a1), some (.inl a2), some (.inl a3), some (.inl a4), some (.inl ((μ1 81 0 ((a1).toNatClampNeg)) - (μ1 82 0 ((a1).toNatClampNeg)))), none, none]) (st' := [.inl ((μ1 78 0 ((a1).toNatClampNeg)) + 1), .inl a1, .inr (some (78, 0))]) (s' := (tm_wr (tm_wr μ1 79 0 ((a1).toNatClampNeg) 1) 80 0 ((a1).toNatClampNeg) ((μ1 36 0 3) + 3))) rfl ?_
        refine xr_ias (n := 6) rfl rfl (hi.2.1 c1) ?_
        suffices hj3 : xr_t (tm_I L xs) (d + 3) 166 135 [some (.inr (some (36, 0))), some (.inl a1), some (.inl a2), some (.inl a3), some (.inl a4), some (.inl ((μ1 81 0 ((a1).toNatClampNeg)) - (μ1 82 0 ((a1).toNatClampNeg)))), none, none] [.inl ((if ((μ1 81 0 ((a1).toNatClampNeg)) - (μ1 82 0 ((a1).toNatClampNeg))) ≤ 40 then (μ1 76 0 ((a1).toNatClampNeg)) else 4) : Int32), .inl a1, .inr (some (76, 0))] (tm_wr (tm_wr (tm_wr μ1 79 0 ((a1).toNatClampNeg) 1) 80 0 ((a1).toNatClampNeg) ((μ1 36 0 3) + 3)) 78 0 ((a1).toNatClampNeg) ((μ1 78 0 ((a1).toNatClampNeg)) + 1)) Q by
          refine xr_br 6 (c := ((μ1 81 0 ((a1).toNatClampNeg)) - (μ1 82 0 ((a1).toNatClampNeg))) ≤ 40) inferInstance (a := 129) (b := 125) (ls' := [some (.inr (some (36, 0))), some (.inl a1), some (.inl a2), some (.inl a3), some (.inl a4), some (.inl ((μ1 81 0 ((a1).toNatClampNeg)) - (μ1 82 0 ((a1).toNatClampNeg)))), none, none]) (st' := [.inl a1, .inr (some (76, 0))]) (s' := (tm_wr (tm_wr (tm_wr μ1 79 0 ((a1).toNatClampNeg) 1) 80 0 ((a1).toNatClampNeg) ((μ1 36 0 3) + 3)) 78 0 ((a1).toNatClampNeg) ((μ1 78 0 ((a1).toNatClampNeg)) + 1))) rfl (fun c3 => ?_) (fun c3 => ?_)
          · skip
            refine xr_go 3 (pc' := 134) (ls' := [some (.inr (some (36, 0))), some (.inl a1), some (.inl a2), some (.inl a3), some (.inl a4), some (.inl ((μ1 81 0 ((a1).toNatClampNeg)) - (μ1 82 0 ((a1).toNatClampNeg)))), none, none]) (st' := [.inl a1, .inr (some (76, 0)), .inl a1, .inr (some (76, 0))]) (s' := (tm_wr (tm_wr (tm_wr μ1 79 0 ((a1).toNatClampNeg) 1) 80 0 ((a1).toNatClampNeg) ((μ1 36 0 3) + 3)) 78 0 ((a1).toNatClampNeg) ((μ1 78 0 ((a1).toNatClampNeg)) + 1))) rfl ?_
            refine xr_ial (n := 6) rfl rfl (hi.2.1 c1) ?_
            have ehj3 : ((if ((μ1 81 0 ((a1).toNatClampNeg)) - (μ1 82 0 ((a1).toNatClampNeg))) ≤ 40 then (μ1 76 0 ((a1).toNatClampNeg)) else 4) : Int32) = (μ1 76 0 ((a1).toNatClampNeg)) := by first | rfl | simp only [if_pos c3]
            rw [ehj3] at hj3
            exact hj3
          · skip
            refine xr_go 2 (pc' := 135) (ls' := [some (.inr (some (36, 0))), some (.inl a1), some (.inl a2), some (.inl a3), some (.inl a4), some (.inl ((μ1 81 0 ((a1).toNatClampNeg)) - (μ1 82 0 ((a1).toNatClampNeg)))), none, none]) (st' := [.inl 4, .inl a1, .inr (some (76, 0))]) (s' := (tm_wr (tm_wr (tm_wr μ1 79 0 ((a1).toNatClampNeg) 1) 80 0 ((a1).toNatClampNeg) ((μ1 36 0 3) + 3)) 78 0 ((a1).toNatClampNeg) ((μ1 78 0 ((a1).toNatClampNeg)) + 1))) rfl ?_
            have ehj3 : ((if ((μ1 81 0 ((a1).toNatClampNeg)) - (μ1 82 0 ((a1).toNatClampNeg))) ≤ 40 then (μ1 76 0 ((a1).toNatClampNeg)) else 4) : Int32) = 4 := by first | rfl | simp only [if_neg c3]
            rw [ehj3] at hj3
            exact hj3
        refine xr_ias (n := 6) rfl rfl (hi.2.1 c1) ?_
        try simp only [if_pos c1, if_pos c2] at h
        exact xr_rt (v := none) rfl h
      · skip
        refine xr_go 5 (pc' := 145) (ls' := [some (.inr (some (36, 0))), some (.inl a1), some (.inl a2), some (.inl a3), some (.inl a4), some (.inl ((μ1 81 0 ((a1).toNatClampNeg)) - (μ1 82 0 ((a1).toNatClampNeg)))), some (.inl (-1)), none]) (st' := [.inl a1, .inr (some (82, 0))]) (s' := (tm_wr (tm_wr μ1 79 0 ((a1).toNatClampNeg) 1) 80 0 ((a1).toNatClampNeg) ((μ1 36 0 3) + 3))) rfl ?_
        refine xr_ial (n := 6) rfl rfl (hi.2.1 c1) ?_
        refine xr_go 1 (pc' := 148) (ls' := [some (.inr (some (36, 0))), some (.inl a1), some (.inl a2), some (.inl a3), some (.inl a4), some (.inl ((μ1 81 0 ((a1).toNatClampNeg)) - (μ1 82 0 ((a1).toNatClampNeg)))), some (.inl (-1)), some (.inl (μ1 82 0 ((a1).toNatClampNeg)))]) (st' := []) (s' := (tm_wr (tm_wr μ1 79 0 ((a1).toNatClampNeg) 1) 80 0 ((a1).toNatClampNeg) ((μ1 36 0 3) + 3))) rfl ?_
        try simp only [if_pos c1, if_neg c2] at h
        exact tl_166_148 64 ((μ1 81 0 ((a1).toNatClampNeg)) - (μ1 82 0 ((a1).toNatClampNeg))) (-1) (μ1 82 0 ((a1).toNatClampNeg)) (tm_wr (tm_wr μ1 79 0 ((a1).toNatClampNeg) 1) 80 0 ((a1).toNatClampNeg) ((μ1 36 0 3) + 3)) (hi.2.2.1 c1 c2) h
    · skip
      refine xr_go 8 (pc' := 24) (ls' := [some (.inr (some (36, 0))), some (.inl a1), some (.inl a2), some (.inl a3), some (.inl a4), some (.inl l5), none, none]) (st' := [.inl a1, .inr (some (81, 0)), .inl (240 * a1), .inr (some (83, 0))]) (s' := μ) rfl ?_
      refine xr_ial (n := 6) rfl rfl (hi.2.2.2.1 c1) ?_
      refine xr_go 4 (pc' := 32) (ls' := [some (.inr (some (36, 0))), some (.inl a1), some (.inl a2), some (.inl a3), some (.inl a4), some (.inl l5), none, none]) (st' := [.inl l5, .inr (some (84, 0)), .inl ((240 * a1) + (μ 81 0 ((a1).toNatClampNeg))), .inr (some (83, 0))]) (s' := μ) rfl ?_
      refine xr_ial (n := 12) rfl rfl (hi.2.2.2.2.1 c1) ?_
      refine xr_ias (n := 1440) rfl rfl (hi.2.2.2.2.2.1 c1) ?_
      refine xr_go 4 (pc' := 40) (ls' := [some (.inr (some (36, 0))), some (.inl a1), some (.inl a2), some (.inl a3), some (.inl a4), some (.inl l5), none, none]) (st' := [.inl a1, .inr (some (81, 0)), .inl a1, .inr (some (81, 0))]) (s' := (tm_wr μ 83 0 ((((240 * a1) + (μ 81 0 ((a1).toNatClampNeg))) : Int32).toNatClampNeg) (μ 84 0 ((l5).toNatClampNeg)))) rfl ?_
      refine xr_ial (n := 6) rfl rfl (hi.2.2.2.1 c1) ?_
      refine xr_go 2 (pc' := 43) (ls' := [some (.inr (some (36, 0))), some (.inl a1), some (.inl a2), some (.inl a3), some (.inl a4), some (.inl l5), none, none]) (st' := [.inl ((μ 81 0 ((a1).toNatClampNeg)) + 1), .inl a1, .inr (some (81, 0))]) (s' := (tm_wr μ 83 0 ((((240 * a1) + (μ 81 0 ((a1).toNatClampNeg))) : Int32).toNatClampNeg) (μ 84 0 ((l5).toNatClampNeg)))) rfl ?_
      refine xr_ias (n := 6) rfl rfl (hi.2.2.2.1 c1) ?_
      refine xr_go 2 (pc' := 3) (ls' := [some (.inr (some (36, 0))), some (.inl a1), some (.inl a2), some (.inl a3), some (.inl a4), some (.inl (l5 + 1)), none, none]) (st' := []) (s' := (tm_wr (tm_wr μ 83 0 ((((240 * a1) + (μ 81 0 ((a1).toNatClampNeg))) : Int32).toNatClampNeg) (μ 84 0 ((l5).toNatClampNeg))) 81 0 ((a1).toNatClampNeg) ((μ 81 0 ((a1).toNatClampNeg)) + 1))) rfl ?_
      try simp only [if_neg c1] at h
      exact ih (l5 + 1) (tm_wr (tm_wr μ 83 0 ((((240 * a1) + (μ 81 0 ((a1).toNatClampNeg))) : Int32).toNatClampNeg) (μ 84 0 ((l5).toNatClampNeg))) 81 0 ((a1).toNatClampNeg) ((μ 81 0 ((a1).toNatClampNeg)) + 1)) (hi.2.2.2.2.2.2 c1) h
def cs_166 (a1 : Int32) (a2 : Int32) (a3 : Int32) (a4 : Int32) (μ : tm_M) : tm_M := (cs_166_3 a1 a2 a3 a4 64 0 μ)
def ci_166 (a1 : Int32) (a2 : Int32) (a3 : Int32) (a4 : Int32) (μ : tm_M) : Prop := (ci_166_3 a1 a2 a3 a4 64 0 μ)
set_option maxHeartbeats 4000000 in
set_option maxRecDepth 10000 in
theorem tf_166 {a1 : Int32} {a2 : Int32} {a3 : Int32} {a4 : Int32} (hi : ci_166 a1 a2 a3 a4 μ) (h : Q none (cs_166 a1 a2 a3 a4 μ)) : xm_MW (tm_I L xs) (d + 4) 166 [.inr (some (36, 0)), .inl a1, .inl a2, .inl a3, .inl a4] μ Q := by
  refine xr_in2 [some (.inr (some (36, 0))), some (.inl a1), some (.inl a2), some (.inl a3), some (.inl a4), none, none, none] rfl rfl ?_
  unfold cs_166 at h
  unfold ci_166 at hi
  refine xr_go 2 (pc' := 3) (ls' := [some (.inr (some (36, 0))), some (.inl a1), some (.inl a2), some (.inl a3), some (.inl a4), some (.inl 0), none, none]) (st' := []) (s' := μ) rfl ?_
  exact tl_166_3 64 0 μ (hi) h
-- BootNetModel.hear(IIIIII)V
def cs_164 (a1 : Int32) (a2 : Int32) (a3 : Int32) (a4 : Int32) (a5 : Int32) (a6 : Int32) (μ : tm_M) : tm_M := (if (¬ (a1 = 1)) ∨ ((¬ ((μ 68 0 ((a2).toNatClampNeg)) = 1)) ∨ (((if a3 = (μ 70 0 ((a2).toNatClampNeg)) then 1 else 0) : Int32) = 0)) then (if (¬ (a1 = 3)) ∨ ((((if a3 = (μ 70 0 ((a2).toNatClampNeg)) then 1 else 0) : Int32) = 0) ∨ (¬ (a4 = (μ 69 0 ((a2).toNatClampNeg))))) then (if (¬ (a1 = 4)) ∨ (((if a3 = (μ 70 0 ((a2).toNatClampNeg)) then 1 else 0) : Int32) = 0) then (if (¬ (a1 = 7)) ∨ ((¬ ((μ 68 0 ((a2).toNatClampNeg)) = 3)) ∨ (¬ (a4 = (μ 69 0 ((a2).toNatClampNeg))))) then (if a1 = 9 then (if ((cv_156 a2 μ) = 0) ∨ ((¬ ((μ 76 0 ((a2).toNatClampNeg)) = 1)) ∨ (¬ (a4 = (μ 51 0 (((μ 77 0 ((a2).toNatClampNeg)) : Int32).toNatClampNeg))))) then μ else (if a1 = 11 then (tm_wr μ 76 0 ((a2).toNatClampNeg) 3) else (if a5 = (μ 78 0 ((a2).toNatClampNeg)) then (cs_166 a2 a4 a5 a6 μ) else μ))) else (if (¬ (a1 = 11)) ∨ (((cv_156 a2 μ) = 0) ∨ ((¬ ((μ 76 0 ((a2).toNatClampNeg)) = 1)) ∨ (¬ (a4 = (μ 51 0 (((μ 77 0 ((a2).toNatClampNeg)) : Int32).toNatClampNeg)))))) then μ else (if a1 = 11 then (tm_wr μ 76 0 ((a2).toNatClampNeg) 3) else (if a5 = (μ 78 0 ((a2).toNatClampNeg)) then (cs_166 a2 a4 a5 a6 μ) else μ)))) else (cs_165 a2 μ)) else (if ((μ 68 0 ((a2).toNatClampNeg)) = 2) ∨ (¬ (((if (μ 68 0 ((a2).toNatClampNeg)) = 5 then 1 else ((if (μ 68 0 ((a2).toNatClampNeg)) = 6 then 1 else 0) : Int32)) : Int32) = 0)) then (cs_158 a2 μ) else (if (¬ (a1 = 7)) ∨ ((¬ ((μ 68 0 ((a2).toNatClampNeg)) = 3)) ∨ (¬ (a4 = (μ 69 0 ((a2).toNatClampNeg))))) then (if a1 = 9 then (if ((cv_156 a2 μ) = 0) ∨ ((¬ ((μ 76 0 ((a2).toNatClampNeg)) = 1)) ∨ (¬ (a4 = (μ 51 0 (((μ 77 0 ((a2).toNatClampNeg)) : Int32).toNatClampNeg))))) then μ else (if a1 = 11 then (tm_wr μ 76 0 ((a2).toNatClampNeg) 3) else (if a5 = (μ 78 0 ((a2).toNatClampNeg)) then (cs_166 a2 a4 a5 a6 μ) else μ))) else (if (¬ (a1 = 11)) ∨ (((cv_156 a2 μ) = 0) ∨ ((¬ ((μ 76 0 ((a2).toNatClampNeg)) = 1)) ∨ (¬ (a4 = (μ 51 0 (((μ 77 0 ((a2).toNatClampNeg)) : Int32).toNatClampNeg)))))) then μ else (if a1 = 11 then (tm_wr μ 76 0 ((a2).toNatClampNeg) 3) else (if a5 = (μ 78 0 ((a2).toNatClampNeg)) then (cs_166 a2 a4 a5 a6 μ) else μ)))) else (cs_165 a2 μ)))) else (if ((μ 68 0 ((a2).toNatClampNeg)) = 2) ∨ (¬ (((if (μ 68 0 ((a2).toNatClampNeg)) = 5 then 1 else ((if (μ 68 0 ((a2).toNatClampNeg)) = 6 then 1 else 0) : Int32)) : Int32) = 0)) then (if ((if (μ 68 0 ((a2).toNatClampNeg)) = 5 then 1 else ((if (μ 68 0 ((a2).toNatClampNeg)) = 6 then 1 else 0) : Int32)) : Int32) = 0 then (tm_wr (cs_135 6 a2 0 a4 0 (tm_wr (tm_wr μ 72 0 ((a2).toNatClampNeg) ((μ 71 0 ((a2).toNatClampNeg)) + (μ 36 0 0))) 68 0 ((a2).toNatClampNeg) 3)) 73 0 ((a2).toNatClampNeg) (((cs_135 6 a2 0 a4 0 (tm_wr (tm_wr μ 72 0 ((a2).toNatClampNeg) ((μ 71 0 ((a2).toNatClampNeg)) + (μ 36 0 0))) 68 0 ((a2).toNatClampNeg) 3)) 36 0 3) + 3)) else (tm_wr (tm_wr μ 72 0 ((a2).toNatClampNeg) ((μ 71 0 ((a2).toNatClampNeg)) + (μ 36 0 0))) 68 0 ((a2).toNatClampNeg) 4)) else (if (¬ (a1 = 7)) ∨ ((¬ ((μ 68 0 ((a2).toNatClampNeg)) = 3)) ∨ (¬ (a4 = (μ 69 0 ((a2).toNatClampNeg))))) then (if a1 = 9 then (if ((cv_156 a2 μ) = 0) ∨ ((¬ ((μ 76 0 ((a2).toNatClampNeg)) = 1)) ∨ (¬ (a4 = (μ 51 0 (((μ 77 0 ((a2).toNatClampNeg)) : Int32).toNatClampNeg))))) then μ else (if a1 = 11 then (tm_wr μ 76 0 ((a2).toNatClampNeg) 3) else (if a5 = (μ 78 0 ((a2).toNatClampNeg)) then (cs_166 a2 a4 a5 a6 μ) else μ))) else (if (¬ (a1 = 11)) ∨ (((cv_156 a2 μ) = 0) ∨ ((¬ ((μ 76 0 ((a2).toNatClampNeg)) = 1)) ∨ (¬ (a4 = (μ 51 0 (((μ 77 0 ((a2).toNatClampNeg)) : Int32).toNatClampNeg)))))) then μ else (if a1 = 11 then (tm_wr μ 76 0 ((a2).toNatClampNeg) 3) else (if a5 = (μ 78 0 ((a2).toNatClampNeg)) then (cs_166 a2 a4 a5 a6 μ) else μ)))) else (cs_165 a2 μ)))) else (cs_159 a2 (tm_wr (tm_wr (tm_wr μ 69 0 ((a2).toNatClampNeg) a4) 68 0 ((a2).toNatClampNeg) 2) 74 0 ((a2).toNatClampNeg) 1)))
def ci_164 (a1 : Int32) (a2 : Int32) (a3 : Int32) (a4 : Int32) (a5 : Int32) (a6 : Int32) (μ : tm_M) : Prop := (tm_ix a2 6 = true) ∧ (((¬ (a1 = 1)) ∨ ((¬ ((μ 68 0 ((a2).toNatClampNeg)) = 1)) ∨ (((if a3 = (μ 70 0 ((a2).toNatClampNeg)) then 1 else 0) : Int32) = 0))) → ((¬ (a1 = 3)) ∨ ((((if a3 = (μ 70 0 ((a2).toNatClampNeg)) then 1 else 0) : Int32) = 0) ∨ (¬ (a4 = (μ 69 0 ((a2).toNatClampNeg)))))) → ((¬ (a1 = 4)) ∨ (((if a3 = (μ 70 0 ((a2).toNatClampNeg)) then 1 else 0) : Int32) = 0)) → ((¬ (a1 = 7)) ∨ ((¬ ((μ 68 0 ((a2).toNatClampNeg)) = 3)) ∨ (¬ (a4 = (μ 69 0 ((a2).toNatClampNeg)))))) → (a1 = 9) → ci_156 a2 μ) ∧ (((¬ (a1 = 1)) ∨ ((¬ ((μ 68 0 ((a2).toNatClampNeg)) = 1)) ∨ (((if a3 = (μ 70 0 ((a2).toNatClampNeg)) then 1 else 0) : Int32) = 0))) → ((¬ (a1 = 3)) ∨ ((((if a3 = (μ 70 0 ((a2).toNatClampNeg)) then 1 else 0) : Int32) = 0) ∨ (¬ (a4 = (μ 69 0 ((a2).toNatClampNeg)))))) → ((¬ (a1 = 4)) ∨ (((if a3 = (μ 70 0 ((a2).toNatClampNeg)) then 1 else 0) : Int32) = 0)) → ((¬ (a1 = 7)) ∨ ((¬ ((μ 68 0 ((a2).toNatClampNeg)) = 3)) ∨ (¬ (a4 = (μ 69 0 ((a2).toNatClampNeg)))))) → (a1 = 9) → (¬ ((cv_156 a2 μ) = 0)) → ((μ 76 0 ((a2).toNatClampNeg)) = 1) → tm_ix (μ 77 0 ((a2).toNatClampNeg)) 4 = true) ∧ (((¬ (a1 = 1)) ∨ ((¬ ((μ 68 0 ((a2).toNatClampNeg)) = 1)) ∨ (((if a3 = (μ 70 0 ((a2).toNatClampNeg)) then 1 else 0) : Int32) = 0))) → ((¬ (a1 = 3)) ∨ ((((if a3 = (μ 70 0 ((a2).toNatClampNeg)) then 1 else 0) : Int32) = 0) ∨ (¬ (a4 = (μ 69 0 ((a2).toNatClampNeg)))))) → ((¬ (a1 = 4)) ∨ (((if a3 = (μ 70 0 ((a2).toNatClampNeg)) then 1 else 0) : Int32) = 0)) → ((¬ (a1 = 7)) ∨ ((¬ ((μ 68 0 ((a2).toNatClampNeg)) = 3)) ∨ (¬ (a4 = (μ 69 0 ((a2).toNatClampNeg)))))) → (a1 = 9) → (¬ (((cv_156 a2 μ) = 0) ∨ ((¬ ((μ 76 0 ((a2).toNatClampNeg)) = 1)) ∨ (¬ (a4 = (μ 51 0 (((μ 77 0 ((a2).toNatClampNeg)) : Int32).toNatClampNeg))))))) → (¬ (a1 = 11)) → (a5 = (μ 78 0 ((a2).toNatClampNeg))) → ci_166 a2 a4 a5 a6 μ) ∧ (((¬ (a1 = 1)) ∨ ((¬ ((μ 68 0 ((a2).toNatClampNeg)) = 1)) ∨ (((if a3 = (μ 70 0 ((a2).toNatClampNeg)) then 1 else 0) : Int32) = 0))) → ((¬ (a1 = 3)) ∨ ((((if a3 = (μ 70 0 ((a2).toNatClampNeg)) then 1 else 0) : Int32) = 0) ∨ (¬ (a4 = (μ 69 0 ((a2).toNatClampNeg)))))) → ((¬ (a1 = 4)) ∨ (((if a3 = (μ 70 0 ((a2).toNatClampNeg)) then 1 else 0) : Int32) = 0)) → ((¬ (a1 = 7)) ∨ ((¬ ((μ 68 0 ((a2).toNatClampNeg)) = 3)) ∨ (¬ (a4 = (μ 69 0 ((a2).toNatClampNeg)))))) → (¬ (a1 = 9)) → (a1 = 11) → ci_156 a2 μ) ∧ (((¬ (a1 = 1)) ∨ ((¬ ((μ 68 0 ((a2).toNatClampNeg)) = 1)) ∨ (((if a3 = (μ 70 0 ((a2).toNatClampNeg)) then 1 else 0) : Int32) = 0))) → ((¬ (a1 = 3)) ∨ ((((if a3 = (μ 70 0 ((a2).toNatClampNeg)) then 1 else 0) : Int32) = 0) ∨ (¬ (a4 = (μ 69 0 ((a2).toNatClampNeg)))))) → ((¬ (a1 = 4)) ∨ (((if a3 = (μ 70 0 ((a2).toNatClampNeg)) then 1 else 0) : Int32) = 0)) → ((¬ (a1 = 7)) ∨ ((¬ ((μ 68 0 ((a2).toNatClampNeg)) = 3)) ∨ (¬ (a4 = (μ 69 0 ((a2).toNatClampNeg)))))) → (¬ (a1 = 9)) → (a1 = 11) → (¬ ((cv_156 a2 μ) = 0)) → ((μ 76 0 ((a2).toNatClampNeg)) = 1) → tm_ix (μ 77 0 ((a2).toNatClampNeg)) 4 = true) ∧ (((¬ (a1 = 1)) ∨ ((¬ ((μ 68 0 ((a2).toNatClampNeg)) = 1)) ∨ (((if a3 = (μ 70 0 ((a2).toNatClampNeg)) then 1 else 0) : Int32) = 0))) → ((¬ (a1 = 3)) ∨ ((((if a3 = (μ 70 0 ((a2).toNatClampNeg)) then 1 else 0) : Int32) = 0) ∨ (¬ (a4 = (μ 69 0 ((a2).toNatClampNeg)))))) → ((¬ (a1 = 4)) ∨ (((if a3 = (μ 70 0 ((a2).toNatClampNeg)) then 1 else 0) : Int32) = 0)) → ((¬ (a1 = 7)) ∨ ((¬ ((μ 68 0 ((a2).toNatClampNeg)) = 3)) ∨ (¬ (a4 = (μ 69 0 ((a2).toNatClampNeg)))))) → (¬ (a1 = 9)) → (¬ ((¬ (a1 = 11)) ∨ (((cv_156 a2 μ) = 0) ∨ ((¬ ((μ 76 0 ((a2).toNatClampNeg)) = 1)) ∨ (¬ (a4 = (μ 51 0 (((μ 77 0 ((a2).toNatClampNeg)) : Int32).toNatClampNeg)))))))) → (¬ (a1 = 11)) → (a5 = (μ 78 0 ((a2).toNatClampNeg))) → ci_166 a2 a4 a5 a6 μ) ∧ (((¬ (a1 = 1)) ∨ ((¬ ((μ 68 0 ((a2).toNatClampNeg)) = 1)) ∨ (((if a3 = (μ 70 0 ((a2).toNatClampNeg)) then 1 else 0) : Int32) = 0))) → ((¬ (a1 = 3)) ∨ ((((if a3 = (μ 70 0 ((a2).toNatClampNeg)) then 1 else 0) : Int32) = 0) ∨ (¬ (a4 = (μ 69 0 ((a2).toNatClampNeg)))))) → ((¬ (a1 = 4)) ∨ (((if a3 = (μ 70 0 ((a2).toNatClampNeg)) then 1 else 0) : Int32) = 0)) → (¬ ((¬ (a1 = 7)) ∨ ((¬ ((μ 68 0 ((a2).toNatClampNeg)) = 3)) ∨ (¬ (a4 = (μ 69 0 ((a2).toNatClampNeg))))))) → ci_165 a2 μ) ∧ (((¬ (a1 = 1)) ∨ ((¬ ((μ 68 0 ((a2).toNatClampNeg)) = 1)) ∨ (((if a3 = (μ 70 0 ((a2).toNatClampNeg)) then 1 else 0) : Int32) = 0))) → ((¬ (a1 = 3)) ∨ ((((if a3 = (μ 70 0 ((a2).toNatClampNeg)) then 1 else 0) : Int32) = 0) ∨ (¬ (a4 = (μ 69 0 ((a2).toNatClampNeg)))))) → (¬ ((¬ (a1 = 4)) ∨ (((if a3 = (μ 70 0 ((a2).toNatClampNeg)) then 1 else 0) : Int32) = 0))) → (((μ 68 0 ((a2).toNatClampNeg)) = 2) ∨ (¬ (((if (μ 68 0 ((a2).toNatClampNeg)) = 5 then 1 else ((if (μ 68 0 ((a2).toNatClampNeg)) = 6 then 1 else 0) : Int32)) : Int32) = 0))) → ci_158 a2 μ) ∧ (((¬ (a1 = 1)) ∨ ((¬ ((μ 68 0 ((a2).toNatClampNeg)) = 1)) ∨ (((if a3 = (μ 70 0 ((a2).toNatClampNeg)) then 1 else 0) : Int32) = 0))) → ((¬ (a1 = 3)) ∨ ((((if a3 = (μ 70 0 ((a2).toNatClampNeg)) then 1 else 0) : Int32) = 0) ∨ (¬ (a4 = (μ 69 0 ((a2).toNatClampNeg)))))) → (¬ ((¬ (a1 = 4)) ∨ (((if a3 = (μ 70 0 ((a2).toNatClampNeg)) then 1 else 0) : Int32) = 0))) → (¬ (((μ 68 0 ((a2).toNatClampNeg)) = 2) ∨ (¬ (((if (μ 68 0 ((a2).toNatClampNeg)) = 5 then 1 else ((if (μ 68 0 ((a2).toNatClampNeg)) = 6 then 1 else 0) : Int32)) : Int32) = 0)))) → ((¬ (a1 = 7)) ∨ ((¬ ((μ 68 0 ((a2).toNatClampNeg)) = 3)) ∨ (¬ (a4 = (μ 69 0 ((a2).toNatClampNeg)))))) → (a1 = 9) → ci_156 a2 μ) ∧ (((¬ (a1 = 1)) ∨ ((¬ ((μ 68 0 ((a2).toNatClampNeg)) = 1)) ∨ (((if a3 = (μ 70 0 ((a2).toNatClampNeg)) then 1 else 0) : Int32) = 0))) → ((¬ (a1 = 3)) ∨ ((((if a3 = (μ 70 0 ((a2).toNatClampNeg)) then 1 else 0) : Int32) = 0) ∨ (¬ (a4 = (μ 69 0 ((a2).toNatClampNeg)))))) → (¬ ((¬ (a1 = 4)) ∨ (((if a3 = (μ 70 0 ((a2).toNatClampNeg)) then 1 else 0) : Int32) = 0))) → (¬ (((μ 68 0 ((a2).toNatClampNeg)) = 2) ∨ (¬ (((if (μ 68 0 ((a2).toNatClampNeg)) = 5 then 1 else ((if (μ 68 0 ((a2).toNatClampNeg)) = 6 then 1 else 0) : Int32)) : Int32) = 0)))) → ((¬ (a1 = 7)) ∨ ((¬ ((μ 68 0 ((a2).toNatClampNeg)) = 3)) ∨ (¬ (a4 = (μ 69 0 ((a2).toNatClampNeg)))))) → (a1 = 9) → (¬ ((cv_156 a2 μ) = 0)) → ((μ 76 0 ((a2).toNatClampNeg)) = 1) → tm_ix (μ 77 0 ((a2).toNatClampNeg)) 4 = true) ∧ (((¬ (a1 = 1)) ∨ ((¬ ((μ 68 0 ((a2).toNatClampNeg)) = 1)) ∨ (((if a3 = (μ 70 0 ((a2).toNatClampNeg)) then 1 else 0) : Int32) = 0))) → ((¬ (a1 = 3)) ∨ ((((if a3 = (μ 70 0 ((a2).toNatClampNeg)) then 1 else 0) : Int32) = 0) ∨ (¬ (a4 = (μ 69 0 ((a2).toNatClampNeg)))))) → (¬ ((¬ (a1 = 4)) ∨ (((if a3 = (μ 70 0 ((a2).toNatClampNeg)) then 1 else 0) : Int32) = 0))) → (¬ (((μ 68 0 ((a2).toNatClampNeg)) = 2) ∨ (¬ (((if (μ 68 0 ((a2).toNatClampNeg)) = 5 then 1 else ((if (μ 68 0 ((a2).toNatClampNeg)) = 6 then 1 else 0) : Int32)) : Int32) = 0)))) → ((¬ (a1 = 7)) ∨ ((¬ ((μ 68 0 ((a2).toNatClampNeg)) = 3)) ∨ (¬ (a4 = (μ 69 0 ((a2).toNatClampNeg)))))) → (a1 = 9) → (¬ (((cv_156 a2 μ) = 0) ∨ ((¬ ((μ 76 0 ((a2).toNatClampNeg)) = 1)) ∨ (¬ (a4 = (μ 51 0 (((μ 77 0 ((a2).toNatClampNeg)) : Int32).toNatClampNeg))))))) → (¬ (a1 = 11)) → (a5 = (μ 78 0 ((a2).toNatClampNeg))) → ci_166 a2 a4 a5 a6 μ) ∧ (((¬ (a1 = 1)) ∨ ((¬ ((μ 68 0 ((a2).toNatClampNeg)) = 1)) ∨ (((if a3 = (μ 70 0 ((a2).toNatClampNeg)) then 1 else 0) : Int32) = 0))) → ((¬ (a1 = 3)) ∨ ((((if a3 = (μ 70 0 ((a2).toNatClampNeg)) then 1 else 0) : Int32) = 0) ∨ (¬ (a4 = (μ 69 0 ((a2).toNatClampNeg)))))) → (¬ ((¬ (a1 = 4)) ∨ (((if a3 = (μ 70 0 ((a2).toNatClampNeg)) then 1 else 0) : Int32) = 0))) → (¬ (((μ 68 0 ((a2).toNatClampNeg)) = 2) ∨ (¬ (((if (μ 68 0 ((a2).toNatClampNeg)) = 5 then 1 else ((if (μ 68 0 ((a2).toNatClampNeg)) = 6 then 1 else 0) : Int32)) : Int32) = 0)))) → ((¬ (a1 = 7)) ∨ ((¬ ((μ 68 0 ((a2).toNatClampNeg)) = 3)) ∨ (¬ (a4 = (μ 69 0 ((a2).toNatClampNeg)))))) → (¬ (a1 = 9)) → (a1 = 11) → ci_156 a2 μ) ∧ (((¬ (a1 = 1)) ∨ ((¬ ((μ 68 0 ((a2).toNatClampNeg)) = 1)) ∨ (((if a3 = (μ 70 0 ((a2).toNatClampNeg)) then 1 else 0) : Int32) = 0))) → ((¬ (a1 = 3)) ∨ ((((if a3 = (μ 70 0 ((a2).toNatClampNeg)) then 1 else 0) : Int32) = 0) ∨ (¬ (a4 = (μ 69 0 ((a2).toNatClampNeg)))))) → (¬ ((¬ (a1 = 4)) ∨ (((if a3 = (μ 70 0 ((a2).toNatClampNeg)) then 1 else 0) : Int32) = 0))) → (¬ (((μ 68 0 ((a2).toNatClampNeg)) = 2) ∨ (¬ (((if (μ 68 0 ((a2).toNatClampNeg)) = 5 then 1 else ((if (μ 68 0 ((a2).toNatClampNeg)) = 6 then 1 else 0) : Int32)) : Int32) = 0)))) → ((¬ (a1 = 7)) ∨ ((¬ ((μ 68 0 ((a2).toNatClampNeg)) = 3)) ∨ (¬ (a4 = (μ 69 0 ((a2).toNatClampNeg)))))) → (¬ (a1 = 9)) → (a1 = 11) → (¬ ((cv_156 a2 μ) = 0)) → ((μ 76 0 ((a2).toNatClampNeg)) = 1) → tm_ix (μ 77 0 ((a2).toNatClampNeg)) 4 = true) ∧ (((¬ (a1 = 1)) ∨ ((¬ ((μ 68 0 ((a2).toNatClampNeg)) = 1)) ∨ (((if a3 = (μ 70 0 ((a2).toNatClampNeg)) then 1 else 0) : Int32) = 0))) → ((¬ (a1 = 3)) ∨ ((((if a3 = (μ 70 0 ((a2).toNatClampNeg)) then 1 else 0) : Int32) = 0) ∨ (¬ (a4 = (μ 69 0 ((a2).toNatClampNeg)))))) → (¬ ((¬ (a1 = 4)) ∨ (((if a3 = (μ 70 0 ((a2).toNatClampNeg)) then 1 else 0) : Int32) = 0))) → (¬ (((μ 68 0 ((a2).toNatClampNeg)) = 2) ∨ (¬ (((if (μ 68 0 ((a2).toNatClampNeg)) = 5 then 1 else ((if (μ 68 0 ((a2).toNatClampNeg)) = 6 then 1 else 0) : Int32)) : Int32) = 0)))) → ((¬ (a1 = 7)) ∨ ((¬ ((μ 68 0 ((a2).toNatClampNeg)) = 3)) ∨ (¬ (a4 = (μ 69 0 ((a2).toNatClampNeg)))))) → (¬ (a1 = 9)) → (¬ ((¬ (a1 = 11)) ∨ (((cv_156 a2 μ) = 0) ∨ ((¬ ((μ 76 0 ((a2).toNatClampNeg)) = 1)) ∨ (¬ (a4 = (μ 51 0 (((μ 77 0 ((a2).toNatClampNeg)) : Int32).toNatClampNeg)))))))) → (¬ (a1 = 11)) → (a5 = (μ 78 0 ((a2).toNatClampNeg))) → ci_166 a2 a4 a5 a6 μ) ∧ (((¬ (a1 = 1)) ∨ ((¬ ((μ 68 0 ((a2).toNatClampNeg)) = 1)) ∨ (((if a3 = (μ 70 0 ((a2).toNatClampNeg)) then 1 else 0) : Int32) = 0))) → ((¬ (a1 = 3)) ∨ ((((if a3 = (μ 70 0 ((a2).toNatClampNeg)) then 1 else 0) : Int32) = 0) ∨ (¬ (a4 = (μ 69 0 ((a2).toNatClampNeg)))))) → (¬ ((¬ (a1 = 4)) ∨ (((if a3 = (μ 70 0 ((a2).toNatClampNeg)) then 1 else 0) : Int32) = 0))) → (¬ (((μ 68 0 ((a2).toNatClampNeg)) = 2) ∨ (¬ (((if (μ 68 0 ((a2).toNatClampNeg)) = 5 then 1 else ((if (μ 68 0 ((a2).toNatClampNeg)) = 6 then 1 else 0) : Int32)) : Int32) = 0)))) → (¬ ((¬ (a1 = 7)) ∨ ((¬ ((μ 68 0 ((a2).toNatClampNeg)) = 3)) ∨ (¬ (a4 = (μ 69 0 ((a2).toNatClampNeg))))))) → ci_165 a2 μ) ∧ (((¬ (a1 = 1)) ∨ ((¬ ((μ 68 0 ((a2).toNatClampNeg)) = 1)) ∨ (((if a3 = (μ 70 0 ((a2).toNatClampNeg)) then 1 else 0) : Int32) = 0))) → (¬ ((¬ (a1 = 3)) ∨ ((((if a3 = (μ 70 0 ((a2).toNatClampNeg)) then 1 else 0) : Int32) = 0) ∨ (¬ (a4 = (μ 69 0 ((a2).toNatClampNeg))))))) → (((μ 68 0 ((a2).toNatClampNeg)) = 2) ∨ (¬ (((if (μ 68 0 ((a2).toNatClampNeg)) = 5 then 1 else ((if (μ 68 0 ((a2).toNatClampNeg)) = 6 then 1 else 0) : Int32)) : Int32) = 0))) → (((if (μ 68 0 ((a2).toNatClampNeg)) = 5 then 1 else ((if (μ 68 0 ((a2).toNatClampNeg)) = 6 then 1 else 0) : Int32)) : Int32) = 0) → ci_135 6 a2 0 a4 0 (tm_wr (tm_wr μ 72 0 ((a2).toNatClampNeg) ((μ 71 0 ((a2).toNatClampNeg)) + (μ 36 0 0))) 68 0 ((a2).toNatClampNeg) 3)) ∧ (((¬ (a1 = 1)) ∨ ((¬ ((μ 68 0 ((a2).toNatClampNeg)) = 1)) ∨ (((if a3 = (μ 70 0 ((a2).toNatClampNeg)) then 1 else 0) : Int32) = 0))) → (¬ ((¬ (a1 = 3)) ∨ ((((if a3 = (μ 70 0 ((a2).toNatClampNeg)) then 1 else 0) : Int32) = 0) ∨ (¬ (a4 = (μ 69 0 ((a2).toNatClampNeg))))))) → (¬ (((μ 68 0 ((a2).toNatClampNeg)) = 2) ∨ (¬ (((if (μ 68 0 ((a2).toNatClampNeg)) = 5 then 1 else ((if (μ 68 0 ((a2).toNatClampNeg)) = 6 then 1 else 0) : Int32)) : Int32) = 0)))) → ((¬ (a1 = 4)) ∨ (((if a3 = (μ 70 0 ((a2).toNatClampNeg)) then 1 else 0) : Int32) = 0)) → ((¬ (a1 = 7)) ∨ ((¬ ((μ 68 0 ((a2).toNatClampNeg)) = 3)) ∨ (¬ (a4 = (μ 69 0 ((a2).toNatClampNeg)))))) → (a1 = 9) → ci_156 a2 μ) ∧ (((¬ (a1 = 1)) ∨ ((¬ ((μ 68 0 ((a2).toNatClampNeg)) = 1)) ∨ (((if a3 = (μ 70 0 ((a2).toNatClampNeg)) then 1 else 0) : Int32) = 0))) → (¬ ((¬ (a1 = 3)) ∨ ((((if a3 = (μ 70 0 ((a2).toNatClampNeg)) then 1 else 0) : Int32) = 0) ∨ (¬ (a4 = (μ 69 0 ((a2).toNatClampNeg))))))) → (¬ (((μ 68 0 ((a2).toNatClampNeg)) = 2) ∨ (¬ (((if (μ 68 0 ((a2).toNatClampNeg)) = 5 then 1 else ((if (μ 68 0 ((a2).toNatClampNeg)) = 6 then 1 else 0) : Int32)) : Int32) = 0)))) → ((¬ (a1 = 4)) ∨ (((if a3 = (μ 70 0 ((a2).toNatClampNeg)) then 1 else 0) : Int32) = 0)) → ((¬ (a1 = 7)) ∨ ((¬ ((μ 68 0 ((a2).toNatClampNeg)) = 3)) ∨ (¬ (a4 = (μ 69 0 ((a2).toNatClampNeg)))))) → (a1 = 9) → (¬ ((cv_156 a2 μ) = 0)) → ((μ 76 0 ((a2).toNatClampNeg)) = 1) → tm_ix (μ 77 0 ((a2).toNatClampNeg)) 4 = true) ∧ (((¬ (a1 = 1)) ∨ ((¬ ((μ 68 0 ((a2).toNatClampNeg)) = 1)) ∨ (((if a3 = (μ 70 0 ((a2).toNatClampNeg)) then 1 else 0) : Int32) = 0))) → (¬ ((¬ (a1 = 3)) ∨ ((((if a3 = (μ 70 0 ((a2).toNatClampNeg)) then 1 else 0) : Int32) = 0) ∨ (¬ (a4 = (μ 69 0 ((a2).toNatClampNeg))))))) → (¬ (((μ 68 0 ((a2).toNatClampNeg)) = 2) ∨ (¬ (((if (μ 68 0 ((a2).toNatClampNeg)) = 5 then 1 else ((if (μ 68 0 ((a2).toNatClampNeg)) = 6 then 1 else 0) : Int32)) : Int32) = 0)))) → ((¬ (a1 = 4)) ∨ (((if a3 = (μ 70 0 ((a2).toNatClampNeg)) then 1 else 0) : Int32) = 0)) → ((¬ (a1 = 7)) ∨ ((¬ ((μ 68 0 ((a2).toNatClampNeg)) = 3)) ∨ (¬ (a4 = (μ 69 0 ((a2).toNatClampNeg)))))) → (a1 = 9) → (¬ (((cv_156 a2 μ) = 0) ∨ ((¬ ((μ 76 0 ((a2).toNatClampNeg)) = 1)) ∨ (¬ (a4 = (μ 51 0 (((μ 77 0 ((a2).toNatClampNeg)) : Int32).toNatClampNeg))))))) → (¬ (a1 = 11)) → (a5 = (μ 78 0 ((a2).toNatClampNeg))) → ci_166 a2 a4 a5 a6 μ) ∧ (((¬ (a1 = 1)) ∨ ((¬ ((μ 68 0 ((a2).toNatClampNeg)) = 1)) ∨ (((if a3 = (μ 70 0 ((a2).toNatClampNeg)) then 1 else 0) : Int32) = 0))) → (¬ ((¬ (a1 = 3)) ∨ ((((if a3 = (μ 70 0 ((a2).toNatClampNeg)) then 1 else 0) : Int32) = 0) ∨ (¬ (a4 = (μ 69 0 ((a2).toNatClampNeg))))))) → (¬ (((μ 68 0 ((a2).toNatClampNeg)) = 2) ∨ (¬ (((if (μ 68 0 ((a2).toNatClampNeg)) = 5 then 1 else ((if (μ 68 0 ((a2).toNatClampNeg)) = 6 then 1 else 0) : Int32)) : Int32) = 0)))) → ((¬ (a1 = 4)) ∨ (((if a3 = (μ 70 0 ((a2).toNatClampNeg)) then 1 else 0) : Int32) = 0)) → ((¬ (a1 = 7)) ∨ ((¬ ((μ 68 0 ((a2).toNatClampNeg)) = 3)) ∨ (¬ (a4 = (μ 69 0 ((a2).toNatClampNeg)))))) → (¬ (a1 = 9)) → (a1 = 11) → ci_156 a2 μ) ∧ (((¬ (a1 = 1)) ∨ ((¬ ((μ 68 0 ((a2).toNatClampNeg)) = 1)) ∨ (((if a3 = (μ 70 0 ((a2).toNatClampNeg)) then 1 else 0) : Int32) = 0))) → (¬ ((¬ (a1 = 3)) ∨ ((((if a3 = (μ 70 0 ((a2).toNatClampNeg)) then 1 else 0) : Int32) = 0) ∨ (¬ (a4 = (μ 69 0 ((a2).toNatClampNeg))))))) → (¬ (((μ 68 0 ((a2).toNatClampNeg)) = 2) ∨ (¬ (((if (μ 68 0 ((a2).toNatClampNeg)) = 5 then 1 else ((if (μ 68 0 ((a2).toNatClampNeg)) = 6 then 1 else 0) : Int32)) : Int32) = 0)))) → ((¬ (a1 = 4)) ∨ (((if a3 = (μ 70 0 ((a2).toNatClampNeg)) then 1 else 0) : Int32) = 0)) → ((¬ (a1 = 7)) ∨ ((¬ ((μ 68 0 ((a2).toNatClampNeg)) = 3)) ∨ (¬ (a4 = (μ 69 0 ((a2).toNatClampNeg)))))) → (¬ (a1 = 9)) → (a1 = 11) → (¬ ((cv_156 a2 μ) = 0)) → ((μ 76 0 ((a2).toNatClampNeg)) = 1) → tm_ix (μ 77 0 ((a2).toNatClampNeg)) 4 = true) ∧ (((¬ (a1 = 1)) ∨ ((¬ ((μ 68 0 ((a2).toNatClampNeg)) = 1)) ∨ (((if a3 = (μ 70 0 ((a2).toNatClampNeg)) then 1 else 0) : Int32) = 0))) → (¬ ((¬ (a1 = 3)) ∨ ((((if a3 = (μ 70 0 ((a2).toNatClampNeg)) then 1 else 0) : Int32) = 0) ∨ (¬ (a4 = (μ 69 0 ((a2).toNatClampNeg))))))) → (¬ (((μ 68 0 ((a2).toNatClampNeg)) = 2) ∨ (¬ (((if (μ 68 0 ((a2).toNatClampNeg)) = 5 then 1 else ((if (μ 68 0 ((a2).toNatClampNeg)) = 6 then 1 else 0) : Int32)) : Int32) = 0)))) → ((¬ (a1 = 4)) ∨ (((if a3 = (μ 70 0 ((a2).toNatClampNeg)) then 1 else 0) : Int32) = 0)) → ((¬ (a1 = 7)) ∨ ((¬ ((μ 68 0 ((a2).toNatClampNeg)) = 3)) ∨ (¬ (a4 = (μ 69 0 ((a2).toNatClampNeg)))))) → (¬ (a1 = 9)) → (¬ ((¬ (a1 = 11)) ∨ (((cv_156 a2 μ) = 0) ∨ ((¬ ((μ 76 0 ((a2).toNatClampNeg)) = 1)) ∨ (¬ (a4 = (μ 51 0 (((μ 77 0 ((a2).toNatClampNeg)) : Int32).toNatClampNeg)))))))) → (¬ (a1 = 11)) → (a5 = (μ 78 0 ((a2).toNatClampNeg))) → ci_166 a2 a4 a5 a6 μ) ∧ (((¬ (a1 = 1)) ∨ ((¬ ((μ 68 0 ((a2).toNatClampNeg)) = 1)) ∨ (((if a3 = (μ 70 0 ((a2).toNatClampNeg)) then 1 else 0) : Int32) = 0))) → (¬ ((¬ (a1 = 3)) ∨ ((((if a3 = (μ 70 0 ((a2).toNatClampNeg)) then 1 else 0) : Int32) = 0) ∨ (¬ (a4 = (μ 69 0 ((a2).toNatClampNeg))))))) → (¬ (((μ 68 0 ((a2).toNatClampNeg)) = 2) ∨ (¬ (((if (μ 68 0 ((a2).toNatClampNeg)) = 5 then 1 else ((if (μ 68 0 ((a2).toNatClampNeg)) = 6 then 1 else 0) : Int32)) : Int32) = 0)))) → ((¬ (a1 = 4)) ∨ (((if a3 = (μ 70 0 ((a2).toNatClampNeg)) then 1 else 0) : Int32) = 0)) → (¬ ((¬ (a1 = 7)) ∨ ((¬ ((μ 68 0 ((a2).toNatClampNeg)) = 3)) ∨ (¬ (a4 = (μ 69 0 ((a2).toNatClampNeg))))))) → ci_165 a2 μ) ∧ (((¬ (a1 = 1)) ∨ ((¬ ((μ 68 0 ((a2).toNatClampNeg)) = 1)) ∨ (((if a3 = (μ 70 0 ((a2).toNatClampNeg)) then 1 else 0) : Int32) = 0))) → (¬ ((¬ (a1 = 3)) ∨ ((((if a3 = (μ 70 0 ((a2).toNatClampNeg)) then 1 else 0) : Int32) = 0) ∨ (¬ (a4 = (μ 69 0 ((a2).toNatClampNeg))))))) → (¬ (((μ 68 0 ((a2).toNatClampNeg)) = 2) ∨ (¬ (((if (μ 68 0 ((a2).toNatClampNeg)) = 5 then 1 else ((if (μ 68 0 ((a2).toNatClampNeg)) = 6 then 1 else 0) : Int32)) : Int32) = 0)))) → (¬ ((¬ (a1 = 4)) ∨ (((if a3 = (μ 70 0 ((a2).toNatClampNeg)) then 1 else 0) : Int32) = 0))) → ((¬ (a1 = 7)) ∨ ((¬ ((μ 68 0 ((a2).toNatClampNeg)) = 3)) ∨ (¬ (a4 = (μ 69 0 ((a2).toNatClampNeg)))))) → (a1 = 9) → ci_156 a2 μ) ∧ (((¬ (a1 = 1)) ∨ ((¬ ((μ 68 0 ((a2).toNatClampNeg)) = 1)) ∨ (((if a3 = (μ 70 0 ((a2).toNatClampNeg)) then 1 else 0) : Int32) = 0))) → (¬ ((¬ (a1 = 3)) ∨ ((((if a3 = (μ 70 0 ((a2).toNatClampNeg)) then 1 else 0) : Int32) = 0) ∨ (¬ (a4 = (μ 69 0 ((a2).toNatClampNeg))))))) → (¬ (((μ 68 0 ((a2).toNatClampNeg)) = 2) ∨ (¬ (((if (μ 68 0 ((a2).toNatClampNeg)) = 5 then 1 else ((if (μ 68 0 ((a2).toNatClampNeg)) = 6 then 1 else 0) : Int32)) : Int32) = 0)))) → (¬ ((¬ (a1 = 4)) ∨ (((if a3 = (μ 70 0 ((a2).toNatClampNeg)) then 1 else 0) : Int32) = 0))) → ((¬ (a1 = 7)) ∨ ((¬ ((μ 68 0 ((a2).toNatClampNeg)) = 3)) ∨ (¬ (a4 = (μ 69 0 ((a2).toNatClampNeg)))))) → (a1 = 9) → (¬ ((cv_156 a2 μ) = 0)) → ((μ 76 0 ((a2).toNatClampNeg)) = 1) → tm_ix (μ 77 0 ((a2).toNatClampNeg)) 4 = true) ∧ (((¬ (a1 = 1)) ∨ ((¬ ((μ 68 0 ((a2).toNatClampNeg)) = 1)) ∨ (((if a3 = (μ 70 0 ((a2).toNatClampNeg)) then 1 else 0) : Int32) = 0))) → (¬ ((¬ (a1 = 3)) ∨ ((((if a3 = (μ 70 0 ((a2).toNatClampNeg)) then 1 else 0) : Int32) = 0) ∨ (¬ (a4 = (μ 69 0 ((a2).toNatClampNeg))))))) → (¬ (((μ 68 0 ((a2).toNatClampNeg)) = 2) ∨ (¬ (((if (μ 68 0 ((a2).toNatClampNeg)) = 5 then 1 else ((if (μ 68 0 ((a2).toNatClampNeg)) = 6 then 1 else 0) : Int32)) : Int32) = 0)))) → (¬ ((¬ (a1 = 4)) ∨ (((if a3 = (μ 70 0 ((a2).toNatClampNeg)) then 1 else 0) : Int32) = 0))) → ((¬ (a1 = 7)) ∨ ((¬ ((μ 68 0 ((a2).toNatClampNeg)) = 3)) ∨ (¬ (a4 = (μ 69 0 ((a2).toNatClampNeg)))))) → (a1 = 9) → (¬ (((cv_156 a2 μ) = 0) ∨ ((¬ ((μ 76 0 ((a2).toNatClampNeg)) = 1)) ∨ (¬ (a4 = (μ 51 0 (((μ 77 0 ((a2).toNatClampNeg)) : Int32).toNatClampNeg))))))) → (¬ (a1 = 11)) → (a5 = (μ 78 0 ((a2).toNatClampNeg))) → ci_166 a2 a4 a5 a6 μ) ∧ (((¬ (a1 = 1)) ∨ ((¬ ((μ 68 0 ((a2).toNatClampNeg)) = 1)) ∨ (((if a3 = (μ 70 0 ((a2).toNatClampNeg)) then 1 else 0) : Int32) = 0))) → (¬ ((¬ (a1 = 3)) ∨ ((((if a3 = (μ 70 0 ((a2).toNatClampNeg)) then 1 else 0) : Int32) = 0) ∨ (¬ (a4 = (μ 69 0 ((a2).toNatClampNeg))))))) → (¬ (((μ 68 0 ((a2).toNatClampNeg)) = 2) ∨ (¬ (((if (μ 68 0 ((a2).toNatClampNeg)) = 5 then 1 else ((if (μ 68 0 ((a2).toNatClampNeg)) = 6 then 1 else 0) : Int32)) : Int32) = 0)))) → (¬ ((¬ (a1 = 4)) ∨ (((if a3 = (μ 70 0 ((a2).toNatClampNeg)) then 1 else 0) : Int32) = 0))) → ((¬ (a1 = 7)) ∨ ((¬ ((μ 68 0 ((a2).toNatClampNeg)) = 3)) ∨ (¬ (a4 = (μ 69 0 ((a2).toNatClampNeg)))))) → (¬ (a1 = 9)) → (a1 = 11) → ci_156 a2 μ) ∧ (((¬ (a1 = 1)) ∨ ((¬ ((μ 68 0 ((a2).toNatClampNeg)) = 1)) ∨ (((if a3 = (μ 70 0 ((a2).toNatClampNeg)) then 1 else 0) : Int32) = 0))) → (¬ ((¬ (a1 = 3)) ∨ ((((if a3 = (μ 70 0 ((a2).toNatClampNeg)) then 1 else 0) : Int32) = 0) ∨ (¬ (a4 = (μ 69 0 ((a2).toNatClampNeg))))))) → (¬ (((μ 68 0 ((a2).toNatClampNeg)) = 2) ∨ (¬ (((if (μ 68 0 ((a2).toNatClampNeg)) = 5 then 1 else ((if (μ 68 0 ((a2).toNatClampNeg)) = 6 then 1 else 0) : Int32)) : Int32) = 0)))) → (¬ ((¬ (a1 = 4)) ∨ (((if a3 = (μ 70 0 ((a2).toNatClampNeg)) then 1 else 0) : Int32) = 0))) → ((¬ (a1 = 7)) ∨ ((¬ ((μ 68 0 ((a2).toNatClampNeg)) = 3)) ∨ (¬ (a4 = (μ 69 0 ((a2).toNatClampNeg)))))) → (¬ (a1 = 9)) → (a1 = 11) → (¬ ((cv_156 a2 μ) = 0)) → ((μ 76 0 ((a2).toNatClampNeg)) = 1) → tm_ix (μ 77 0 ((a2).toNatClampNeg)) 4 = true) ∧ (((¬ (a1 = 1)) ∨ ((¬ ((μ 68 0 ((a2).toNatClampNeg)) = 1)) ∨ (((if a3 = (μ 70 0 ((a2).toNatClampNeg)) then 1 else 0) : Int32) = 0))) → (¬ ((¬ (a1 = 3)) ∨ ((((if a3 = (μ 70 0 ((a2).toNatClampNeg)) then 1 else 0) : Int32) = 0) ∨ (¬ (a4 = (μ 69 0 ((a2).toNatClampNeg))))))) → (¬ (((μ 68 0 ((a2).toNatClampNeg)) = 2) ∨ (¬ (((if (μ 68 0 ((a2).toNatClampNeg)) = 5 then 1 else ((if (μ 68 0 ((a2).toNatClampNeg)) = 6 then 1 else 0) : Int32)) : Int32) = 0)))) → (¬ ((¬ (a1 = 4)) ∨ (((if a3 = (μ 70 0 ((a2).toNatClampNeg)) then 1 else 0) : Int32) = 0))) → ((¬ (a1 = 7)) ∨ ((¬ ((μ 68 0 ((a2).toNatClampNeg)) = 3)) ∨ (¬ (a4 = (μ 69 0 ((a2).toNatClampNeg)))))) → (¬ (a1 = 9)) → (¬ ((¬ (a1 = 11)) ∨ (((cv_156 a2 μ) = 0) ∨ ((¬ ((μ 76 0 ((a2).toNatClampNeg)) = 1)) ∨ (¬ (a4 = (μ 51 0 (((μ 77 0 ((a2).toNatClampNeg)) : Int32).toNatClampNeg)))))))) → (¬ (a1 = 11)) → (a5 = (μ 78 0 ((a2).toNatClampNeg))) → ci_166 a2 a4 a5 a6 μ) ∧ (((¬ (a1 = 1)) ∨ ((¬ ((μ 68 0 ((a2).toNatClampNeg)) = 1)) ∨ (((if a3 = (μ 70 0 ((a2).toNatClampNeg)) then 1 else 0) : Int32) = 0))) → (¬ ((¬ (a1 = 3)) ∨ ((((if a3 = (μ 70 0 ((a2).toNatClampNeg)) then 1 else 0) : Int32) = 0) ∨ (¬ (a4 = (μ 69 0 ((a2).toNatClampNeg))))))) → (¬ (((μ 68 0 ((a2).toNatClampNeg)) = 2) ∨ (¬ (((if (μ 68 0 ((a2).toNatClampNeg)) = 5 then 1 else ((if (μ 68 0 ((a2).toNatClampNeg)) = 6 then 1 else 0) : Int32)) : Int32) = 0)))) → (¬ ((¬ (a1 = 4)) ∨ (((if a3 = (μ 70 0 ((a2).toNatClampNeg)) then 1 else 0) : Int32) = 0))) → (¬ ((¬ (a1 = 7)) ∨ ((¬ ((μ 68 0 ((a2).toNatClampNeg)) = 3)) ∨ (¬ (a4 = (μ 69 0 ((a2).toNatClampNeg))))))) → ci_165 a2 μ) ∧ ((¬ ((¬ (a1 = 1)) ∨ ((¬ ((μ 68 0 ((a2).toNatClampNeg)) = 1)) ∨ (((if a3 = (μ 70 0 ((a2).toNatClampNeg)) then 1 else 0) : Int32) = 0)))) → ci_159 a2 (tm_wr (tm_wr (tm_wr μ 69 0 ((a2).toNatClampNeg) a4) 68 0 ((a2).toNatClampNeg) 2) 74 0 ((a2).toNatClampNeg) 1))
set_option maxHeartbeats 4000000 in
set_option maxRecDepth 10000 in
theorem tf_164 {a1 : Int32} {a2 : Int32} {a3 : Int32} {a4 : Int32} {a5 : Int32} {a6 : Int32} (hi : ci_164 a1 a2 a3 a4 a5 a6 μ) (h : Q none (cs_164 a1 a2 a3 a4 a5 a6 μ)) : xm_MW (tm_I L xs) (d + 5) 164 [.inr (some (36, 0)), .inl a1, .inl a2, .inl a3, .inl a4, .inl a5, .inl a6] μ Q := by
  refine xr_in2 [some (.inr (some (36, 0))), some (.inl a1), some (.inl a2), some (.inl a3), some (.inl a4), some (.inl a5), some (.inl a6), none, none] rfl rfl ?_
  unfold cs_164 at h
  unfold ci_164 at hi
  refine xr_go 4 (pc' := 6) (ls' := [some (.inr (some (36, 0))), some (.inl a1), some (.inl a2), some (.inl a3), some (.inl a4), some (.inl a5), some (.inl a6), none, none]) (st' := [.inl a2, .inr (some (70, 0)), .inl a3]) (s' := μ) rfl ?_
  refine xr_ial (n := 6) rfl rfl (hi.1) ?_
  suffices hj1 : xr_t (tm_I L xs) (d + 4) 164 15 [some (.inr (some (36, 0))), some (.inl a1), some (.inl a2), some (.inl a3), some (.inl a4), some (.inl a5), some (.inl a6), none, none] [.inl ((if a3 = (μ 70 0 ((a2).toNatClampNeg)) then 1 else 0) : Int32)] μ Q by
    refine xr_br 1 (c := a3 = (μ 70 0 ((a2).toNatClampNeg))) inferInstance (a := 10) (b := 14) (ls' := [some (.inr (some (36, 0))), some (.inl a1), some (.inl a2), some (.inl a3), some (.inl a4), some (.inl a5), some (.inl a6), none, none]) (st' := []) (s' := μ) rfl (fun c1 => ?_) (fun c1 => ?_)
    · skip
      refine xr_go 2 (pc' := 15) (ls' := [some (.inr (some (36, 0))), some (.inl a1), some (.inl a2), some (.inl a3), some (.inl a4), some (.inl a5), some (.inl a6), none, none]) (st' := [.inl 1]) (s' := μ) rfl ?_
      have ehj1 : ((if a3 = (μ 70 0 ((a2).toNatClampNeg)) then 1 else 0) : Int32) = 1 := by first | rfl | simp only [if_pos c1]
      rw [ehj1] at hj1
      exact hj1
    · skip
      refine xr_go 1 (pc' := 15) (ls' := [some (.inr (some (36, 0))), some (.inl a1), some (.inl a2), some (.inl a3), some (.inl a4), some (.inl a5), some (.inl a6), none, none]) (st' := [.inl 0]) (s' := μ) rfl ?_
      have ehj1 : ((if a3 = (μ 70 0 ((a2).toNatClampNeg)) then 1 else 0) : Int32) = 0 := by first | rfl | simp only [if_neg c1]
      rw [ehj1] at hj1
      exact hj1
  refine xr_go 4 (pc' := 22) (ls' := [some (.inr (some (36, 0))), some (.inl a1), some (.inl a2), some (.inl a3), some (.inl a4), some (.inl a5), some (.inl a6), some (.inl ((if a3 = (μ 70 0 ((a2).toNatClampNeg)) then 1 else 0) : Int32)), none]) (st' := [.inl a2, .inr (some (68, 0))]) (s' := μ) rfl ?_
  refine xr_ial (n := 6) rfl rfl (hi.1) ?_
  suffices hj2 : xr_t (tm_I L xs) (d + 4) 164 43 [some (.inr (some (36, 0))), some (.inl a1), some (.inl a2), some (.inl a3), some (.inl a4), some (.inl a5), some (.inl a6), some (.inl ((if a3 = (μ 70 0 ((a2).toNatClampNeg)) then 1 else 0) : Int32)), none] [.inl ((if (μ 68 0 ((a2).toNatClampNeg)) = 5 then 1 else ((if (μ 68 0 ((a2).toNatClampNeg)) = 6 then 1 else 0) : Int32)) : Int32)] μ Q by
    refine xr_br 2 (c := (μ 68 0 ((a2).toNatClampNeg)) = 5) inferInstance (a := 38) (b := 27) (ls' := [some (.inr (some (36, 0))), some (.inl a1), some (.inl a2), some (.inl a3), some (.inl a4), some (.inl a5), some (.inl a6), some (.inl ((if a3 = (μ 70 0 ((a2).toNatClampNeg)) then 1 else 0) : Int32)), none]) (st' := []) (s' := μ) rfl (fun c2 => ?_) (fun c2 => ?_)
    · skip
      refine xr_go 2 (pc' := 43) (ls' := [some (.inr (some (36, 0))), some (.inl a1), some (.inl a2), some (.inl a3), some (.inl a4), some (.inl a5), some (.inl a6), some (.inl ((if a3 = (μ 70 0 ((a2).toNatClampNeg)) then 1 else 0) : Int32)), none]) (st' := [.inl 1]) (s' := μ) rfl ?_
      have ehj2 : ((if (μ 68 0 ((a2).toNatClampNeg)) = 5 then 1 else ((if (μ 68 0 ((a2).toNatClampNeg)) = 6 then 1 else 0) : Int32)) : Int32) = 1 := by first | rfl | simp only [if_pos c2]
      rw [ehj2] at hj2
      exact hj2
    · skip
      refine xr_go 3 (pc' := 32) (ls' := [some (.inr (some (36, 0))), some (.inl a1), some (.inl a2), some (.inl a3), some (.inl a4), some (.inl a5), some (.inl a6), some (.inl ((if a3 = (μ 70 0 ((a2).toNatClampNeg)) then 1 else 0) : Int32)), none]) (st' := [.inl a2, .inr (some (68, 0))]) (s' := μ) rfl ?_
      refine xr_ial (n := 6) rfl rfl (hi.1) ?_
      suffices hj3 : xr_t (tm_I L xs) (d + 4) 164 43 [some (.inr (some (36, 0))), some (.inl a1), some (.inl a2), some (.inl a3), some (.inl a4), some (.inl a5), some (.inl a6), some (.inl ((if a3 = (μ 70 0 ((a2).toNatClampNeg)) then 1 else 0) : Int32)), none] [.inl ((if (μ 68 0 ((a2).toNatClampNeg)) = 6 then 1 else 0) : Int32)] μ Q by
        refine xr_br 2 (c := (μ 68 0 ((a2).toNatClampNeg)) = 6) inferInstance (a := 38) (b := 42) (ls' := [some (.inr (some (36, 0))), some (.inl a1), some (.inl a2), some (.inl a3), some (.inl a4), some (.inl a5), some (.inl a6), some (.inl ((if a3 = (μ 70 0 ((a2).toNatClampNeg)) then 1 else 0) : Int32)), none]) (st' := []) (s' := μ) rfl (fun c3 => ?_) (fun c3 => ?_)
        · skip
          refine xr_go 2 (pc' := 43) (ls' := [some (.inr (some (36, 0))), some (.inl a1), some (.inl a2), some (.inl a3), some (.inl a4), some (.inl a5), some (.inl a6), some (.inl ((if a3 = (μ 70 0 ((a2).toNatClampNeg)) then 1 else 0) : Int32)), none]) (st' := [.inl 1]) (s' := μ) rfl ?_
          have ehj3 : ((if (μ 68 0 ((a2).toNatClampNeg)) = 6 then 1 else 0) : Int32) = 1 := by first | rfl | simp only [if_pos c3]
          rw [ehj3] at hj3
          exact hj3
        · skip
          refine xr_go 1 (pc' := 43) (ls' := [some (.inr (some (36, 0))), some (.inl a1), some (.inl a2), some (.inl a3), some (.inl a4), some (.inl a5), some (.inl a6), some (.inl ((if a3 = (μ 70 0 ((a2).toNatClampNeg)) then 1 else 0) : Int32)), none]) (st' := [.inl 0]) (s' := μ) rfl ?_
          have ehj3 : ((if (μ 68 0 ((a2).toNatClampNeg)) = 6 then 1 else 0) : Int32) = 0 := by first | rfl | simp only [if_neg c3]
          rw [ehj3] at hj3
          exact hj3
      have ehj2 : ((if (μ 68 0 ((a2).toNatClampNeg)) = 5 then 1 else ((if (μ 68 0 ((a2).toNatClampNeg)) = 6 then 1 else 0) : Int32)) : Int32) = ((if (μ 68 0 ((a2).toNatClampNeg)) = 6 then 1 else 0) : Int32) := by first | rfl | simp only [if_neg c2]
      rw [ehj2] at hj2
      exact hj2
  suffices hE4 : (((¬ (a1 = 1)) ∨ ((¬ ((μ 68 0 ((a2).toNatClampNeg)) = 1)) ∨ (((if a3 = (μ 70 0 ((a2).toNatClampNeg)) then 1 else 0) : Int32) = 0))) → xr_t (tm_I L xs) (d + 4) 164 95 [some (.inr (some (36, 0))), some (.inl a1), some (.inl a2), some (.inl a3), some (.inl a4), some (.inl a5), some (.inl a6), some (.inl ((if a3 = (μ 70 0 ((a2).toNatClampNeg)) then 1 else 0) : Int32)), some (.inl ((if (μ 68 0 ((a2).toNatClampNeg)) = 5 then 1 else ((if (μ 68 0 ((a2).toNatClampNeg)) = 6 then 1 else 0) : Int32)) : Int32))] [] μ Q) ∧ (¬ ((¬ (a1 = 1)) ∨ ((¬ ((μ 68 0 ((a2).toNatClampNeg)) = 1)) ∨ (((if a3 = (μ 70 0 ((a2).toNatClampNeg)) then 1 else 0) : Int32) = 0))) → xr_t (tm_I L xs) (d + 4) 164 65 [some (.inr (some (36, 0))), some (.inl a1), some (.inl a2), some (.inl a3), some (.inl a4), some (.inl a5), some (.inl a6), some (.inl ((if a3 = (μ 70 0 ((a2).toNatClampNeg)) then 1 else 0) : Int32)), some (.inl ((if (μ 68 0 ((a2).toNatClampNeg)) = 5 then 1 else ((if (μ 68 0 ((a2).toNatClampNeg)) = 6 then 1 else 0) : Int32)) : Int32))] [] μ Q) by
    refine xr_br 4 (c := a1 = 1) inferInstance (a := 50) (b := 95) (ls' := [some (.inr (some (36, 0))), some (.inl a1), some (.inl a2), some (.inl a3), some (.inl a4), some (.inl a5), some (.inl a6), some (.inl ((if a3 = (μ 70 0 ((a2).toNatClampNeg)) then 1 else 0) : Int32)), some (.inl ((if (μ 68 0 ((a2).toNatClampNeg)) = 5 then 1 else ((if (μ 68 0 ((a2).toNatClampNeg)) = 6 then 1 else 0) : Int32)) : Int32))]) (st' := []) (s' := μ) rfl (fun c4 => ?_) (fun c4 => ?_)
    · skip
      refine xr_go 3 (pc' := 55) (ls' := [some (.inr (some (36, 0))), some (.inl a1), some (.inl a2), some (.inl a3), some (.inl a4), some (.inl a5), some (.inl a6), some (.inl ((if a3 = (μ 70 0 ((a2).toNatClampNeg)) then 1 else 0) : Int32)), some (.inl ((if (μ 68 0 ((a2).toNatClampNeg)) = 5 then 1 else ((if (μ 68 0 ((a2).toNatClampNeg)) = 6 then 1 else 0) : Int32)) : Int32))]) (st' := [.inl a2, .inr (some (68, 0))]) (s' := μ) rfl ?_
      refine xr_ial (n := 6) rfl rfl (hi.1) ?_
      refine xr_br 2 (c := (μ 68 0 ((a2).toNatClampNeg)) = 1) inferInstance (a := 60) (b := 95) (ls' := [some (.inr (some (36, 0))), some (.inl a1), some (.inl a2), some (.inl a3), some (.inl a4), some (.inl a5), some (.inl a6), some (.inl ((if a3 = (μ 70 0 ((a2).toNatClampNeg)) then 1 else 0) : Int32)), some (.inl ((if (μ 68 0 ((a2).toNatClampNeg)) = 5 then 1 else ((if (μ 68 0 ((a2).toNatClampNeg)) = 6 then 1 else 0) : Int32)) : Int32))]) (st' := []) (s' := μ) rfl (fun c5 => ?_) (fun c5 => ?_)
      · skip
        refine xr_br 2 (c := ((if a3 = (μ 70 0 ((a2).toNatClampNeg)) then 1 else 0) : Int32) = 0) inferInstance (a := 95) (b := 65) (ls' := [some (.inr (some (36, 0))), some (.inl a1), some (.inl a2), some (.inl a3), some (.inl a4), some (.inl a5), some (.inl a6), some (.inl ((if a3 = (μ 70 0 ((a2).toNatClampNeg)) then 1 else 0) : Int32)), some (.inl ((if (μ 68 0 ((a2).toNatClampNeg)) = 5 then 1 else ((if (μ 68 0 ((a2).toNatClampNeg)) = 6 then 1 else 0) : Int32)) : Int32))]) (st' := []) (s' := μ) rfl (fun c6 => ?_) (fun c6 => ?_)
        · skip
          exact hE4.1 (Or.inr (Or.inr c6))
        · skip
          exact hE4.2 (fun z => z.elim (fun w => w c4) (fun z => z.elim (fun w => w c5) c6))
      · skip
        exact hE4.1 (Or.inr (Or.inl c5))
    · skip
      exact hE4.1 (Or.inl c4)
  refine ⟨fun c7 => ?_, fun c7 => ?_⟩
  · skip
    suffices hE8 : (((¬ (a1 = 3)) ∨ ((((if a3 = (μ 70 0 ((a2).toNatClampNeg)) then 1 else 0) : Int32) = 0) ∨ (¬ (a4 = (μ 69 0 ((a2).toNatClampNeg)))))) → xr_t (tm_I L xs) (d + 4) 164 196 [some (.inr (some (36, 0))), some (.inl a1), some (.inl a2), some (.inl a3), some (.inl a4), some (.inl a5), some (.inl a6), some (.inl ((if a3 = (μ 70 0 ((a2).toNatClampNeg)) then 1 else 0) : Int32)), some (.inl ((if (μ 68 0 ((a2).toNatClampNeg)) = 5 then 1 else ((if (μ 68 0 ((a2).toNatClampNeg)) = 6 then 1 else 0) : Int32)) : Int32))] [] μ Q) ∧ (¬ ((¬ (a1 = 3)) ∨ ((((if a3 = (μ 70 0 ((a2).toNatClampNeg)) then 1 else 0) : Int32) = 0) ∨ (¬ (a4 = (μ 69 0 ((a2).toNatClampNeg)))))) → xr_t (tm_I L xs) (d + 4) 164 116 [some (.inr (some (36, 0))), some (.inl a1), some (.inl a2), some (.inl a3), some (.inl a4), some (.inl a5), some (.inl a6), some (.inl ((if a3 = (μ 70 0 ((a2).toNatClampNeg)) then 1 else 0) : Int32)), some (.inl ((if (μ 68 0 ((a2).toNatClampNeg)) = 5 then 1 else ((if (μ 68 0 ((a2).toNatClampNeg)) = 6 then 1 else 0) : Int32)) : Int32))] [] μ Q) by
      refine xr_br 3 (c := a1 = 3) inferInstance (a := 100) (b := 196) (ls' := [some (.inr (some (36, 0))), some (.inl a1), some (.inl a2), some (.inl a3), some (.inl a4), some (.inl a5), some (.inl a6), some (.inl ((if a3 = (μ 70 0 ((a2).toNatClampNeg)) then 1 else 0) : Int32)), some (.inl ((if (μ 68 0 ((a2).toNatClampNeg)) = 5 then 1 else ((if (μ 68 0 ((a2).toNatClampNeg)) = 6 then 1 else 0) : Int32)) : Int32))]) (st' := []) (s' := μ) rfl (fun c8 => ?_) (fun c8 => ?_)
      · skip
        refine xr_br 2 (c := ((if a3 = (μ 70 0 ((a2).toNatClampNeg)) then 1 else 0) : Int32) = 0) inferInstance (a := 196) (b := 105) (ls' := [some (.inr (some (36, 0))), some (.inl a1), some (.inl a2), some (.inl a3), some (.inl a4), some (.inl a5), some (.inl a6), some (.inl ((if a3 = (μ 70 0 ((a2).toNatClampNeg)) then 1 else 0) : Int32)), some (.inl ((if (μ 68 0 ((a2).toNatClampNeg)) = 5 then 1 else ((if (μ 68 0 ((a2).toNatClampNeg)) = 6 then 1 else 0) : Int32)) : Int32))]) (st' := []) (s' := μ) rfl (fun c9 => ?_) (fun c9 => ?_)
        · skip
          exact hE8.1 (Or.inr (Or.inl c9))
        · skip
          refine xr_go 4 (pc' := 112) (ls' := [some (.inr (some (36, 0))), some (.inl a1), some (.inl a2), some (.inl a3), some (.inl a4), some (.inl a5), some (.inl a6), some (.inl ((if a3 = (μ 70 0 ((a2).toNatClampNeg)) then 1 else 0) : Int32)), some (.inl ((if (μ 68 0 ((a2).toNatClampNeg)) = 5 then 1 else ((if (μ 68 0 ((a2).toNatClampNeg)) = 6 then 1 else 0) : Int32)) : Int32))]) (st' := [.inl a2, .inr (some (69, 0)), .inl a4]) (s' := μ) rfl ?_
          refine xr_ial (n := 6) rfl rfl (hi.1) ?_
          refine xr_br 1 (c := a4 = (μ 69 0 ((a2).toNatClampNeg))) inferInstance (a := 116) (b := 196) (ls' := [some (.inr (some (36, 0))), some (.inl a1), some (.inl a2), some (.inl a3), some (.inl a4), some (.inl a5), some (.inl a6), some (.inl ((if a3 = (μ 70 0 ((a2).toNatClampNeg)) then 1 else 0) : Int32)), some (.inl ((if (μ 68 0 ((a2).toNatClampNeg)) = 5 then 1 else ((if (μ 68 0 ((a2).toNatClampNeg)) = 6 then 1 else 0) : Int32)) : Int32))]) (st' := []) (s' := μ) rfl (fun c10 => ?_) (fun c10 => ?_)
          · skip
            exact hE8.2 (fun z => z.elim (fun w => w c8) (fun z => z.elim c9 (fun z => z c10)))
          · skip
            exact hE8.1 (Or.inr (Or.inr c10))
      · skip
        exact hE8.1 (Or.inl c8)
    refine ⟨fun c11 => ?_, fun c11 => ?_⟩
    · skip
      suffices hE12 : (((¬ (a1 = 4)) ∨ (((if a3 = (μ 70 0 ((a2).toNatClampNeg)) then 1 else 0) : Int32) = 0)) → xr_t (tm_I L xs) (d + 4) 164 229 [some (.inr (some (36, 0))), some (.inl a1), some (.inl a2), some (.inl a3), some (.inl a4), some (.inl a5), some (.inl a6), some (.inl ((if a3 = (μ 70 0 ((a2).toNatClampNeg)) then 1 else 0) : Int32)), some (.inl ((if (μ 68 0 ((a2).toNatClampNeg)) = 5 then 1 else ((if (μ 68 0 ((a2).toNatClampNeg)) = 6 then 1 else 0) : Int32)) : Int32))] [] μ Q) ∧ (¬ ((¬ (a1 = 4)) ∨ (((if a3 = (μ 70 0 ((a2).toNatClampNeg)) then 1 else 0) : Int32) = 0)) → xr_t (tm_I L xs) (d + 4) 164 206 [some (.inr (some (36, 0))), some (.inl a1), some (.inl a2), some (.inl a3), some (.inl a4), some (.inl a5), some (.inl a6), some (.inl ((if a3 = (μ 70 0 ((a2).toNatClampNeg)) then 1 else 0) : Int32)), some (.inl ((if (μ 68 0 ((a2).toNatClampNeg)) = 5 then 1 else ((if (μ 68 0 ((a2).toNatClampNeg)) = 6 then 1 else 0) : Int32)) : Int32))] [] μ Q) by
        refine xr_br 3 (c := a1 = 4) inferInstance (a := 201) (b := 229) (ls' := [some (.inr (some (36, 0))), some (.inl a1), some (.inl a2), some (.inl a3), some (.inl a4), some (.inl a5), some (.inl a6), some (.inl ((if a3 = (μ 70 0 ((a2).toNatClampNeg)) then 1 else 0) : Int32)), some (.inl ((if (μ 68 0 ((a2).toNatClampNeg)) = 5 then 1 else ((if (μ 68 0 ((a2).toNatClampNeg)) = 6 then 1 else 0) : Int32)) : Int32))]) (st' := []) (s' := μ) rfl (fun c12 => ?_) (fun c12 => ?_)
        · skip
          refine xr_br 2 (c := ((if a3 = (μ 70 0 ((a2).toNatClampNeg)) then 1 else 0) : Int32) = 0) inferInstance (a := 229) (b := 206) (ls' := [some (.inr (some (36, 0))), some (.inl a1), some (.inl a2), some (.inl a3), some (.inl a4), some (.inl a5), some (.inl a6), some (.inl ((if a3 = (μ 70 0 ((a2).toNatClampNeg)) then 1 else 0) : Int32)), some (.inl ((if (μ 68 0 ((a2).toNatClampNeg)) = 5 then 1 else ((if (μ 68 0 ((a2).toNatClampNeg)) = 6 then 1 else 0) : Int32)) : Int32))]) (st' := []) (s' := μ) rfl (fun c13 => ?_) (fun c13 => ?_)
          · skip
            exact hE12.1 (Or.inr c13)
          · skip
            exact hE12.2 (fun z => z.elim (fun w => w c12) c13)
        · skip
          exact hE12.1 (Or.inl c12)
      refine ⟨fun c14 => ?_, fun c14 => ?_⟩
      · skip
        suffices hE15 : (((¬ (a1 = 7)) ∨ ((¬ ((μ 68 0 ((a2).toNatClampNeg)) = 3)) ∨ (¬ (a4 = (μ 69 0 ((a2).toNatClampNeg)))))) → xr_t (tm_I L xs) (d + 4) 164 264 [some (.inr (some (36, 0))), some (.inl a1), some (.inl a2), some (.inl a3), some (.inl a4), some (.inl a5), some (.inl a6), some (.inl ((if a3 = (μ 70 0 ((a2).toNatClampNeg)) then 1 else 0) : Int32)), some (.inl ((if (μ 68 0 ((a2).toNatClampNeg)) = 5 then 1 else ((if (μ 68 0 ((a2).toNatClampNeg)) = 6 then 1 else 0) : Int32)) : Int32))] [] μ Q) ∧ (¬ ((¬ (a1 = 7)) ∨ ((¬ ((μ 68 0 ((a2).toNatClampNeg)) = 3)) ∨ (¬ (a4 = (μ 69 0 ((a2).toNatClampNeg)))))) → xr_t (tm_I L xs) (d + 4) 164 256 [some (.inr (some (36, 0))), some (.inl a1), some (.inl a2), some (.inl a3), some (.inl a4), some (.inl a5), some (.inl a6), some (.inl ((if a3 = (μ 70 0 ((a2).toNatClampNeg)) then 1 else 0) : Int32)), some (.inl ((if (μ 68 0 ((a2).toNatClampNeg)) = 5 then 1 else ((if (μ 68 0 ((a2).toNatClampNeg)) = 6 then 1 else 0) : Int32)) : Int32))] [] μ Q) by
          refine xr_br 3 (c := a1 = 7) inferInstance (a := 235) (b := 264) (ls' := [some (.inr (some (36, 0))), some (.inl a1), some (.inl a2), some (.inl a3), some (.inl a4), some (.inl a5), some (.inl a6), some (.inl ((if a3 = (μ 70 0 ((a2).toNatClampNeg)) then 1 else 0) : Int32)), some (.inl ((if (μ 68 0 ((a2).toNatClampNeg)) = 5 then 1 else ((if (μ 68 0 ((a2).toNatClampNeg)) = 6 then 1 else 0) : Int32)) : Int32))]) (st' := []) (s' := μ) rfl (fun c15 => ?_) (fun c15 => ?_)
          · skip
            refine xr_go 3 (pc' := 240) (ls' := [some (.inr (some (36, 0))), some (.inl a1), some (.inl a2), some (.inl a3), some (.inl a4), some (.inl a5), some (.inl a6), some (.inl ((if a3 = (μ 70 0 ((a2).toNatClampNeg)) then 1 else 0) : Int32)), some (.inl ((if (μ 68 0 ((a2).toNatClampNeg)) = 5 then 1 else ((if (μ 68 0 ((a2).toNatClampNeg)) = 6 then 1 else 0) : Int32)) : Int32))]) (st' := [.inl a2, .inr (some (68, 0))]) (s' := μ) rfl ?_
            refine xr_ial (n := 6) rfl rfl (hi.1) ?_
            refine xr_br 2 (c := (μ 68 0 ((a2).toNatClampNeg)) = 3) inferInstance (a := 245) (b := 264) (ls' := [some (.inr (some (36, 0))), some (.inl a1), some (.inl a2), some (.inl a3), some (.inl a4), some (.inl a5), some (.inl a6), some (.inl ((if a3 = (μ 70 0 ((a2).toNatClampNeg)) then 1 else 0) : Int32)), some (.inl ((if (μ 68 0 ((a2).toNatClampNeg)) = 5 then 1 else ((if (μ 68 0 ((a2).toNatClampNeg)) = 6 then 1 else 0) : Int32)) : Int32))]) (st' := []) (s' := μ) rfl (fun c16 => ?_) (fun c16 => ?_)
            · skip
              refine xr_go 4 (pc' := 252) (ls' := [some (.inr (some (36, 0))), some (.inl a1), some (.inl a2), some (.inl a3), some (.inl a4), some (.inl a5), some (.inl a6), some (.inl ((if a3 = (μ 70 0 ((a2).toNatClampNeg)) then 1 else 0) : Int32)), some (.inl ((if (μ 68 0 ((a2).toNatClampNeg)) = 5 then 1 else ((if (μ 68 0 ((a2).toNatClampNeg)) = 6 then 1 else 0) : Int32)) : Int32))]) (st' := [.inl a2, .inr (some (69, 0)), .inl a4]) (s' := μ) rfl ?_
              refine xr_ial (n := 6) rfl rfl (hi.1) ?_
              refine xr_br 1 (c := a4 = (μ 69 0 ((a2).toNatClampNeg))) inferInstance (a := 256) (b := 264) (ls' := [some (.inr (some (36, 0))), some (.inl a1), some (.inl a2), some (.inl a3), some (.inl a4), some (.inl a5), some (.inl a6), some (.inl ((if a3 = (μ 70 0 ((a2).toNatClampNeg)) then 1 else 0) : Int32)), some (.inl ((if (μ 68 0 ((a2).toNatClampNeg)) = 5 then 1 else ((if (μ 68 0 ((a2).toNatClampNeg)) = 6 then 1 else 0) : Int32)) : Int32))]) (st' := []) (s' := μ) rfl (fun c17 => ?_) (fun c17 => ?_)
              · skip
                exact hE15.2 (fun z => z.elim (fun w => w c15) (fun z => z.elim (fun w => w c16) (fun z => z c17)))
              · skip
                exact hE15.1 (Or.inr (Or.inr c17))
            · skip
              exact hE15.1 (Or.inr (Or.inl c16))
          · skip
            exact hE15.1 (Or.inl c15)
        refine ⟨fun c18 => ?_, fun c18 => ?_⟩
        · skip
          refine xr_br 3 (c := a1 = 9) inferInstance (a := 276) (b := 270) (ls' := [some (.inr (some (36, 0))), some (.inl a1), some (.inl a2), some (.inl a3), some (.inl a4), some (.inl a5), some (.inl a6), some (.inl ((if a3 = (μ 70 0 ((a2).toNatClampNeg)) then 1 else 0) : Int32)), some (.inl ((if (μ 68 0 ((a2).toNatClampNeg)) = 5 then 1 else ((if (μ 68 0 ((a2).toNatClampNeg)) = 6 then 1 else 0) : Int32)) : Int32))]) (st' := []) (s' := μ) rfl (fun c19 => ?_) (fun c19 => ?_)
          · skip
            refine xr_go 2 (pc' := 278) (ls' := [some (.inr (some (36, 0))), some (.inl a1), some (.inl a2), some (.inl a3), some (.inl a4), some (.inl a5), some (.inl a6), some (.inl ((if a3 = (μ 70 0 ((a2).toNatClampNeg)) then 1 else 0) : Int32)), some (.inl ((if (μ 68 0 ((a2).toNatClampNeg)) = 5 then 1 else ((if (μ 68 0 ((a2).toNatClampNeg)) = 6 then 1 else 0) : Int32)) : Int32))]) (st' := [.inl a2, .inr (some (36, 0))]) (s' := μ) rfl ?_
            refine xr_cl (y' := 156) (as := [.inr (some (36, 0)), .inl a2]) (r := []) rfl rfl ?_
            refine tf_156 (d := d + 3) (μ := μ) (a1 := a2) (hi.2.1 c7 c11 c14 c18 c19) ?_
            show xr_t (tm_I L xs) (d + 4) 164 281 [some (.inr (some (36, 0))), some (.inl a1), some (.inl a2), some (.inl a3), some (.inl a4), some (.inl a5), some (.inl a6), some (.inl ((if a3 = (μ 70 0 ((a2).toNatClampNeg)) then 1 else 0) : Int32)), some (.inl ((if (μ 68 0 ((a2).toNatClampNeg)) = 5 then 1 else ((if (μ 68 0 ((a2).toNatClampNeg)) = 6 then 1 else 0) : Int32)) : Int32))] [.inl (cv_156 a2 μ)] μ Q
            have z49 : (cv_156 a2 μ) = 0 ∨ (cv_156 a2 μ) = 1 := cz_156
            generalize gv49 : (cv_156 a2 μ) = v49 at h hi z49 ⊢
            suffices hE20 : (((v49 = 0) ∨ ((¬ ((μ 76 0 ((a2).toNatClampNeg)) = 1)) ∨ (¬ (a4 = (μ 51 0 (((μ 77 0 ((a2).toNatClampNeg)) : Int32).toNatClampNeg)))))) → xr_t (tm_I L xs) (d + 4) 164 348 [some (.inr (some (36, 0))), some (.inl a1), some (.inl a2), some (.inl a3), some (.inl a4), some (.inl a5), some (.inl a6), some (.inl ((if a3 = (μ 70 0 ((a2).toNatClampNeg)) then 1 else 0) : Int32)), some (.inl ((if (μ 68 0 ((a2).toNatClampNeg)) = 5 then 1 else ((if (μ 68 0 ((a2).toNatClampNeg)) = 6 then 1 else 0) : Int32)) : Int32))] [] μ Q) ∧ (¬ ((v49 = 0) ∨ ((¬ ((μ 76 0 ((a2).toNatClampNeg)) = 1)) ∨ (¬ (a4 = (μ 51 0 (((μ 77 0 ((a2).toNatClampNeg)) : Int32).toNatClampNeg)))))) → xr_t (tm_I L xs) (d + 4) 164 310 [some (.inr (some (36, 0))), some (.inl a1), some (.inl a2), some (.inl a3), some (.inl a4), some (.inl a5), some (.inl a6), some (.inl ((if a3 = (μ 70 0 ((a2).toNatClampNeg)) then 1 else 0) : Int32)), some (.inl ((if (μ 68 0 ((a2).toNatClampNeg)) = 5 then 1 else ((if (μ 68 0 ((a2).toNatClampNeg)) = 6 then 1 else 0) : Int32)) : Int32))] [] μ Q) by
              refine xr_br 1 (c := v49 = 0) inferInstance (a := 348) (b := 284) (ls' := [some (.inr (some (36, 0))), some (.inl a1), some (.inl a2), some (.inl a3), some (.inl a4), some (.inl a5), some (.inl a6), some (.inl ((if a3 = (μ 70 0 ((a2).toNatClampNeg)) then 1 else 0) : Int32)), some (.inl ((if (μ 68 0 ((a2).toNatClampNeg)) = 5 then 1 else ((if (μ 68 0 ((a2).toNatClampNeg)) = 6 then 1 else 0) : Int32)) : Int32))]) (st' := []) (s' := μ) rfl (fun c20 => ?_) (fun c20 => ?_)
              · skip
                exact hE20.1 (Or.inl c20)
              · skip
                refine xr_go 3 (pc' := 289) (ls' := [some (.inr (some (36, 0))), some (.inl a1), some (.inl a2), some (.inl a3), some (.inl a4), some (.inl a5), some (.inl a6), some (.inl ((if a3 = (μ 70 0 ((a2).toNatClampNeg)) then 1 else 0) : Int32)), some (.inl ((if (μ 68 0 ((a2).toNatClampNeg)) = 5 then 1 else ((if (μ 68 0 ((a2).toNatClampNeg)) = 6 then 1 else 0) : Int32)) : Int32))]) (st' := [.inl a2, .inr (some (76, 0))]) (s' := μ) rfl ?_
                refine xr_ial (n := 6) rfl rfl (hi.1) ?_
                refine xr_br 2 (c := (μ 76 0 ((a2).toNatClampNeg)) = 1) inferInstance (a := 294) (b := 348) (ls' := [some (.inr (some (36, 0))), some (.inl a1), some (.inl a2), some (.inl a3), some (.inl a4), some (.inl a5), some (.inl a6), some (.inl ((if a3 = (μ 70 0 ((a2).toNatClampNeg)) then 1 else 0) : Int32)), some (.inl ((if (μ 68 0 ((a2).toNatClampNeg)) = 5 then 1 else ((if (μ 68 0 ((a2).toNatClampNeg)) = 6 then 1 else 0) : Int32)) : Int32))]) (st' := []) (s' := μ) rfl (fun c21 => ?_) (fun c21 => ?_)
                · skip
                  refine xr_go 6 (pc' := 305) (ls' := [some (.inr (some (36, 0))), some (.inl a1), some (.inl a2), some (.inl a3), some (.inl a4), some (.inl a5), some (.inl a6), some (.inl ((if a3 = (μ 70 0 ((a2).toNatClampNeg)) then 1 else 0) : Int32)), some (.inl ((if (μ 68 0 ((a2).toNatClampNeg)) = 5 then 1 else ((if (μ 68 0 ((a2).toNatClampNeg)) = 6 then 1 else 0) : Int32)) : Int32))]) (st' := [.inl a2, .inr (some (77, 0)), .inr (some (51, 0)), .inl a4]) (s' := μ) rfl ?_
                  refine xr_ial (n := 6) rfl rfl (hi.1) ?_
                  refine xr_ial (n := 4) rfl rfl (hi.2.2.1 c7 c11 c14 c18 c19 c20 c21) ?_
                  refine xr_br 1 (c := a4 = (μ 51 0 (((μ 77 0 ((a2).toNatClampNeg)) : Int32).toNatClampNeg))) inferInstance (a := 310) (b := 348) (ls' := [some (.inr (some (36, 0))), some (.inl a1), some (.inl a2), some (.inl a3), some (.inl a4), some (.inl a5), some (.inl a6), some (.inl ((if a3 = (μ 70 0 ((a2).toNatClampNeg)) then 1 else 0) : Int32)), some (.inl ((if (μ 68 0 ((a2).toNatClampNeg)) = 5 then 1 else ((if (μ 68 0 ((a2).toNatClampNeg)) = 6 then 1 else 0) : Int32)) : Int32))]) (st' := []) (s' := μ) rfl (fun c22 => ?_) (fun c22 => ?_)
                  · skip
                    exact hE20.2 (fun z => z.elim c20 (fun z => z.elim (fun w => w c21) (fun z => z c22)))
                  · skip
                    exact hE20.1 (Or.inr (Or.inr c22))
                · skip
                  exact hE20.1 (Or.inr (Or.inl c21))
            refine ⟨fun c23 => ?_, fun c23 => ?_⟩
            · skip
              try simp only [if_pos c7, if_pos c11, if_pos c14, if_pos c18, if_pos c19, if_pos c23] at h
              exact xr_rt (v := none) rfl h
            · skip
              refine xr_br 3 (c := a1 = 11) inferInstance (a := 316) (b := 326) (ls' := [some (.inr (some (36, 0))), some (.inl a1), some (.inl a2), some (.inl a3), some (.inl a4), some (.inl a5), some (.inl a6), some (.inl ((if a3 = (μ 70 0 ((a2).toNatClampNeg)) then 1 else 0) : Int32)), some (.inl ((if (μ 68 0 ((a2).toNatClampNeg)) = 5 then 1 else ((if (μ 68 0 ((a2).toNatClampNeg)) = 6 then 1 else 0) : Int32)) : Int32))]) (st' := []) (s' := μ) rfl (fun c24 => ?_) (fun c24 => ?_)
              · skip
                refine xr_go 4 (pc' := 322) (ls' := [some (.inr (some (36, 0))), some (.inl a1), some (.inl a2), some (.inl a3), some (.inl a4), some (.inl a5), some (.inl a6), some (.inl ((if a3 = (μ 70 0 ((a2).toNatClampNeg)) then 1 else 0) : Int32)), some (.inl ((if (μ 68 0 ((a2).toNatClampNeg)) = 5 then 1 else ((if (μ 68 0 ((a2).toNatClampNeg)) = 6 then 1 else 0) : Int32)) : Int32))]) (st' := [.inl 3, .inl a2, .inr (some (76, 0))]) (s' := μ) rfl ?_
                refine xr_ias (n := 6) rfl rfl (hi.1) ?_
                refine xr_go 1 (pc' := 348) (ls' := [some (.inr (some (36, 0))), some (.inl a1), some (.inl a2), some (.inl a3), some (.inl a4), some (.inl a5), some (.inl a6), some (.inl ((if a3 = (μ 70 0 ((a2).toNatClampNeg)) then 1 else 0) : Int32)), some (.inl ((if (μ 68 0 ((a2).toNatClampNeg)) = 5 then 1 else ((if (μ 68 0 ((a2).toNatClampNeg)) = 6 then 1 else 0) : Int32)) : Int32))]) (st' := []) (s' := (tm_wr μ 76 0 ((a2).toNatClampNeg) 3)) rfl ?_
                try simp only [if_pos c7, if_pos c11, if_pos c14, if_pos c18, if_pos c19, if_neg c23, if_pos c24] at h
                exact xr_rt (v := none) rfl h
              · skip
                refine xr_go 4 (pc' := 333) (ls' := [some (.inr (some (36, 0))), some (.inl a1), some (.inl a2), some (.inl a3), some (.inl a4), some (.inl a5), some (.inl a6), some (.inl ((if a3 = (μ 70 0 ((a2).toNatClampNeg)) then 1 else 0) : Int32)), some (.inl ((if (μ 68 0 ((a2).toNatClampNeg)) = 5 then 1 else ((if (μ 68 0 ((a2).toNatClampNeg)) = 6 then 1 else 0) : Int32)) : Int32))]) (st' := [.inl a2, .inr (some (78, 0)), .inl a5]) (s' := μ) rfl ?_
                refine xr_ial (n := 6) rfl rfl (hi.1) ?_
                refine xr_br 1 (c := a5 = (μ 78 0 ((a2).toNatClampNeg))) inferInstance (a := 337) (b := 348) (ls' := [some (.inr (some (36, 0))), some (.inl a1), some (.inl a2), some (.inl a3), some (.inl a4), some (.inl a5), some (.inl a6), some (.inl ((if a3 = (μ 70 0 ((a2).toNatClampNeg)) then 1 else 0) : Int32)), some (.inl ((if (μ 68 0 ((a2).toNatClampNeg)) = 5 then 1 else ((if (μ 68 0 ((a2).toNatClampNeg)) = 6 then 1 else 0) : Int32)) : Int32))]) (st' := []) (s' := μ) rfl (fun c25 => ?_) (fun c25 => ?_)
                · skip
                  refine xr_go 5 (pc' := 345) (ls' := [some (.inr (some (36, 0))), some (.inl a1), some (.inl a2), some (.inl a3), some (.inl a4), some (.inl a5), some (.inl a6), some (.inl ((if a3 = (μ 70 0 ((a2).toNatClampNeg)) then 1 else 0) : Int32)), some (.inl ((if (μ 68 0 ((a2).toNatClampNeg)) = 5 then 1 else ((if (μ 68 0 ((a2).toNatClampNeg)) = 6 then 1 else 0) : Int32)) : Int32))]) (st' := [.inl a6, .inl a5, .inl a4, .inl a2, .inr (some (36, 0))]) (s' := μ) rfl ?_
                  refine xr_cl (y' := 166) (as := [.inr (some (36, 0)), .inl a2, .inl a4, .inl a5, .inl a6]) (r := []) rfl rfl ?_
                  refine tf_166 (d := d + 0) (μ := μ) (a1 := a2) (a2 := a4) (a3 := a5) (a4 := a6) (hi.2.2.2.1 c7 c11 c14 c18 c19 c23 c24 c25) ?_
                  show xr_t (tm_I L xs) (d + 4) 164 348 [some (.inr (some (36, 0))), some (.inl a1), some (.inl a2), some (.inl a3), some (.inl a4), some (.inl a5), some (.inl a6), some (.inl ((if a3 = (μ 70 0 ((a2).toNatClampNeg)) then 1 else 0) : Int32)), some (.inl ((if (μ 68 0 ((a2).toNatClampNeg)) = 5 then 1 else ((if (μ 68 0 ((a2).toNatClampNeg)) = 6 then 1 else 0) : Int32)) : Int32))] [] (cs_166 a2 a4 a5 a6 μ) Q
                  generalize gμ51 : (cs_166 a2 a4 a5 a6 μ) = μ51 at h hi ⊢
                  try simp only [if_pos c7, if_pos c11, if_pos c14, if_pos c18, if_pos c19, if_neg c23, if_neg c24, if_pos c25] at h
                  exact xr_rt (v := none) rfl h
                · skip
                  try simp only [if_pos c7, if_pos c11, if_pos c14, if_pos c18, if_pos c19, if_neg c23, if_neg c24, if_neg c25] at h
                  exact xr_rt (v := none) rfl h
          · skip
            suffices hE26 : (((¬ (a1 = 11)) ∨ (((cv_156 a2 μ) = 0) ∨ ((¬ ((μ 76 0 ((a2).toNatClampNeg)) = 1)) ∨ (¬ (a4 = (μ 51 0 (((μ 77 0 ((a2).toNatClampNeg)) : Int32).toNatClampNeg))))))) → xr_t (tm_I L xs) (d + 4) 164 348 [some (.inr (some (36, 0))), some (.inl a1), some (.inl a2), some (.inl a3), some (.inl a4), some (.inl a5), some (.inl a6), some (.inl ((if a3 = (μ 70 0 ((a2).toNatClampNeg)) then 1 else 0) : Int32)), some (.inl ((if (μ 68 0 ((a2).toNatClampNeg)) = 5 then 1 else ((if (μ 68 0 ((a2).toNatClampNeg)) = 6 then 1 else 0) : Int32)) : Int32))] [] μ Q) ∧ (¬ ((¬ (a1 = 11)) ∨ (((cv_156 a2 μ) = 0) ∨ ((¬ ((μ 76 0 ((a2).toNatClampNeg)) = 1)) ∨ (¬ (a4 = (μ 51 0 (((μ 77 0 ((a2).toNatClampNeg)) : Int32).toNatClampNeg))))))) → xr_t (tm_I L xs) (d + 4) 164 310 [some (.inr (some (36, 0))), some (.inl a1), some (.inl a2), some (.inl a3), some (.inl a4), some (.inl a5), some (.inl a6), some (.inl ((if a3 = (μ 70 0 ((a2).toNatClampNeg)) then 1 else 0) : Int32)), some (.inl ((if (μ 68 0 ((a2).toNatClampNeg)) = 5 then 1 else ((if (μ 68 0 ((a2).toNatClampNeg)) = 6 then 1 else 0) : Int32)) : Int32))] [] μ Q) by
              refine xr_br 3 (c := a1 = 11) inferInstance (a := 276) (b := 348) (ls' := [some (.inr (some (36, 0))), some (.inl a1), some (.inl a2), some (.inl a3), some (.inl a4), some (.inl a5), some (.inl a6), some (.inl ((if a3 = (μ 70 0 ((a2).toNatClampNeg)) then 1 else 0) : Int32)), some (.inl ((if (μ 68 0 ((a2).toNatClampNeg)) = 5 then 1 else ((if (μ 68 0 ((a2).toNatClampNeg)) = 6 then 1 else 0) : Int32)) : Int32))]) (st' := []) (s' := μ) rfl (fun c26 => ?_) (fun c26 => ?_)
              · skip
                refine xr_go 2 (pc' := 278) (ls' := [some (.inr (some (36, 0))), some (.inl a1), some (.inl a2), some (.inl a3), some (.inl a4), some (.inl a5), some (.inl a6), some (.inl ((if a3 = (μ 70 0 ((a2).toNatClampNeg)) then 1 else 0) : Int32)), some (.inl ((if (μ 68 0 ((a2).toNatClampNeg)) = 5 then 1 else ((if (μ 68 0 ((a2).toNatClampNeg)) = 6 then 1 else 0) : Int32)) : Int32))]) (st' := [.inl a2, .inr (some (36, 0))]) (s' := μ) rfl ?_
                refine xr_cl (y' := 156) (as := [.inr (some (36, 0)), .inl a2]) (r := []) rfl rfl ?_
                refine tf_156 (d := d + 3) (μ := μ) (a1 := a2) (hi.2.2.2.2.1 c7 c11 c14 c18 c19 c26) ?_
                show xr_t (tm_I L xs) (d + 4) 164 281 [some (.inr (some (36, 0))), some (.inl a1), some (.inl a2), some (.inl a3), some (.inl a4), some (.inl a5), some (.inl a6), some (.inl ((if a3 = (μ 70 0 ((a2).toNatClampNeg)) then 1 else 0) : Int32)), some (.inl ((if (μ 68 0 ((a2).toNatClampNeg)) = 5 then 1 else ((if (μ 68 0 ((a2).toNatClampNeg)) = 6 then 1 else 0) : Int32)) : Int32))] [.inl (cv_156 a2 μ)] μ Q
                refine xr_br 1 (c := (cv_156 a2 μ) = 0) inferInstance (a := 348) (b := 284) (ls' := [some (.inr (some (36, 0))), some (.inl a1), some (.inl a2), some (.inl a3), some (.inl a4), some (.inl a5), some (.inl a6), some (.inl ((if a3 = (μ 70 0 ((a2).toNatClampNeg)) then 1 else 0) : Int32)), some (.inl ((if (μ 68 0 ((a2).toNatClampNeg)) = 5 then 1 else ((if (μ 68 0 ((a2).toNatClampNeg)) = 6 then 1 else 0) : Int32)) : Int32))]) (st' := []) (s' := μ) rfl (fun c27 => ?_) (fun c27 => ?_)
                · skip
                  exact hE26.1 (Or.inr (Or.inl c27))
                · skip
                  refine xr_go 3 (pc' := 289) (ls' := [some (.inr (some (36, 0))), some (.inl a1), some (.inl a2), some (.inl a3), some (.inl a4), some (.inl a5), some (.inl a6), some (.inl ((if a3 = (μ 70 0 ((a2).toNatClampNeg)) then 1 else 0) : Int32)), some (.inl ((if (μ 68 0 ((a2).toNatClampNeg)) = 5 then 1 else ((if (μ 68 0 ((a2).toNatClampNeg)) = 6 then 1 else 0) : Int32)) : Int32))]) (st' := [.inl a2, .inr (some (76, 0))]) (s' := μ) rfl ?_
                  refine xr_ial (n := 6) rfl rfl (hi.1) ?_
                  refine xr_br 2 (c := (μ 76 0 ((a2).toNatClampNeg)) = 1) inferInstance (a := 294) (b := 348) (ls' := [some (.inr (some (36, 0))), some (.inl a1), some (.inl a2), some (.inl a3), some (.inl a4), some (.inl a5), some (.inl a6), some (.inl ((if a3 = (μ 70 0 ((a2).toNatClampNeg)) then 1 else 0) : Int32)), some (.inl ((if (μ 68 0 ((a2).toNatClampNeg)) = 5 then 1 else ((if (μ 68 0 ((a2).toNatClampNeg)) = 6 then 1 else 0) : Int32)) : Int32))]) (st' := []) (s' := μ) rfl (fun c28 => ?_) (fun c28 => ?_)
                  · skip
                    refine xr_go 6 (pc' := 305) (ls' := [some (.inr (some (36, 0))), some (.inl a1), some (.inl a2), some (.inl a3), some (.inl a4), some (.inl a5), some (.inl a6), some (.inl ((if a3 = (μ 70 0 ((a2).toNatClampNeg)) then 1 else 0) : Int32)), some (.inl ((if (μ 68 0 ((a2).toNatClampNeg)) = 5 then 1 else ((if (μ 68 0 ((a2).toNatClampNeg)) = 6 then 1 else 0) : Int32)) : Int32))]) (st' := [.inl a2, .inr (some (77, 0)), .inr (some (51, 0)), .inl a4]) (s' := μ) rfl ?_
                    refine xr_ial (n := 6) rfl rfl (hi.1) ?_
                    refine xr_ial (n := 4) rfl rfl (hi.2.2.2.2.2.1 c7 c11 c14 c18 c19 c26 c27 c28) ?_
                    refine xr_br 1 (c := a4 = (μ 51 0 (((μ 77 0 ((a2).toNatClampNeg)) : Int32).toNatClampNeg))) inferInstance (a := 310) (b := 348) (ls' := [some (.inr (some (36, 0))), some (.inl a1), some (.inl a2), some (.inl a3), some (.inl a4), some (.inl a5), some (.inl a6), some (.inl ((if a3 = (μ 70 0 ((a2).toNatClampNeg)) then 1 else 0) : Int32)), some (.inl ((if (μ 68 0 ((a2).toNatClampNeg)) = 5 then 1 else ((if (μ 68 0 ((a2).toNatClampNeg)) = 6 then 1 else 0) : Int32)) : Int32))]) (st' := []) (s' := μ) rfl (fun c29 => ?_) (fun c29 => ?_)
                    · skip
                      exact hE26.2 (fun z => z.elim (fun w => w c26) (fun z => z.elim c27 (fun z => z.elim (fun w => w c28) (fun z => z c29))))
                    · skip
                      exact hE26.1 (Or.inr (Or.inr (Or.inr c29)))
                  · skip
                    exact hE26.1 (Or.inr (Or.inr (Or.inl c28)))
              · skip
                exact hE26.1 (Or.inl c26)
            refine ⟨fun c30 => ?_, fun c30 => ?_⟩
            · skip
              try simp only [if_pos c7, if_pos c11, if_pos c14, if_pos c18, if_neg c19, if_pos c30] at h
              exact xr_rt (v := none) rfl h
            · skip
              refine xr_br 3 (c := a1 = 11) inferInstance (a := 316) (b := 326) (ls' := [some (.inr (some (36, 0))), some (.inl a1), some (.inl a2), some (.inl a3), some (.inl a4), some (.inl a5), some (.inl a6), some (.inl ((if a3 = (μ 70 0 ((a2).toNatClampNeg)) then 1 else 0) : Int32)), some (.inl ((if (μ 68 0 ((a2).toNatClampNeg)) = 5 then 1 else ((if (μ 68 0 ((a2).toNatClampNeg)) = 6 then 1 else 0) : Int32)) : Int32))]) (st' := []) (s' := μ) rfl (fun c31 => ?_) (fun c31 => ?_)
              · skip
                refine xr_go 4 (pc' := 322) (ls' := [some (.inr (some (36, 0))), some (.inl a1), some (.inl a2), some (.inl a3), some (.inl a4), some (.inl a5), some (.inl a6), some (.inl ((if a3 = (μ 70 0 ((a2).toNatClampNeg)) then 1 else 0) : Int32)), some (.inl ((if (μ 68 0 ((a2).toNatClampNeg)) = 5 then 1 else ((if (μ 68 0 ((a2).toNatClampNeg)) = 6 then 1 else 0) : Int32)) : Int32))]) (st' := [.inl 3, .inl a2, .inr (some (76, 0))]) (s' := μ) rfl ?_
                refine xr_ias (n := 6) rfl rfl (hi.1) ?_
                refine xr_go 1 (pc' := 348) (ls' := [some (.inr (some (36, 0))), some (.inl a1), some (.inl a2), some (.inl a3), some (.inl a4), some (.inl a5), some (.inl a6), some (.inl ((if a3 = (μ 70 0 ((a2).toNatClampNeg)) then 1 else 0) : Int32)), some (.inl ((if (μ 68 0 ((a2).toNatClampNeg)) = 5 then 1 else ((if (μ 68 0 ((a2).toNatClampNeg)) = 6 then 1 else 0) : Int32)) : Int32))]) (st' := []) (s' := (tm_wr μ 76 0 ((a2).toNatClampNeg) 3)) rfl ?_
                try simp only [if_pos c7, if_pos c11, if_pos c14, if_pos c18, if_neg c19, if_neg c30, if_pos c31] at h
                exact xr_rt (v := none) rfl h
              · skip
                refine xr_go 4 (pc' := 333) (ls' := [some (.inr (some (36, 0))), some (.inl a1), some (.inl a2), some (.inl a3), some (.inl a4), some (.inl a5), some (.inl a6), some (.inl ((if a3 = (μ 70 0 ((a2).toNatClampNeg)) then 1 else 0) : Int32)), some (.inl ((if (μ 68 0 ((a2).toNatClampNeg)) = 5 then 1 else ((if (μ 68 0 ((a2).toNatClampNeg)) = 6 then 1 else 0) : Int32)) : Int32))]) (st' := [.inl a2, .inr (some (78, 0)), .inl a5]) (s' := μ) rfl ?_
                refine xr_ial (n := 6) rfl rfl (hi.1) ?_
                refine xr_br 1 (c := a5 = (μ 78 0 ((a2).toNatClampNeg))) inferInstance (a := 337) (b := 348) (ls' := [some (.inr (some (36, 0))), some (.inl a1), some (.inl a2), some (.inl a3), some (.inl a4), some (.inl a5), some (.inl a6), some (.inl ((if a3 = (μ 70 0 ((a2).toNatClampNeg)) then 1 else 0) : Int32)), some (.inl ((if (μ 68 0 ((a2).toNatClampNeg)) = 5 then 1 else ((if (μ 68 0 ((a2).toNatClampNeg)) = 6 then 1 else 0) : Int32)) : Int32))]) (st' := []) (s' := μ) rfl (fun c32 => ?_) (fun c32 => ?_)
                · skip
                  refine xr_go 5 (pc' := 345) (ls' := [some (.inr (some (36, 0))), some (.inl a1), some (.inl a2), some (.inl a3), some (.inl a4), some (.inl a5), some (.inl a6), some (.inl ((if a3 = (μ 70 0 ((a2).toNatClampNeg)) then 1 else 0) : Int32)), some (.inl ((if (μ 68 0 ((a2).toNatClampNeg)) = 5 then 1 else ((if (μ 68 0 ((a2).toNatClampNeg)) = 6 then 1 else 0) : Int32)) : Int32))]) (st' := [.inl a6, .inl a5, .inl a4, .inl a2, .inr (some (36, 0))]) (s' := μ) rfl ?_
                  refine xr_cl (y' := 166) (as := [.inr (some (36, 0)), .inl a2, .inl a4, .inl a5, .inl a6]) (r := []) rfl rfl ?_
                  refine tf_166 (d := d + 0) (μ := μ) (a1 := a2) (a2 := a4) (a3 := a5) (a4 := a6) (hi.2.2.2.2.2.2.1 c7 c11 c14 c18 c19 c30 c31 c32) ?_
                  show xr_t (tm_I L xs) (d + 4) 164 348 [some (.inr (some (36, 0))), some (.inl a1), some (.inl a2), some (.inl a3), some (.inl a4), some (.inl a5), some (.inl a6), some (.inl ((if a3 = (μ 70 0 ((a2).toNatClampNeg)) then 1 else 0) : Int32)), some (.inl ((if (μ 68 0 ((a2).toNatClampNeg)) = 5 then 1 else ((if (μ 68 0 ((a2).toNatClampNeg)) = 6 then 1 else 0) : Int32)) : Int32))] [] (cs_166 a2 a4 a5 a6 μ) Q
                  generalize gμ53 : (cs_166 a2 a4 a5 a6 μ) = μ53 at h hi ⊢
                  try simp only [if_pos c7, if_pos c11, if_pos c14, if_pos c18, if_neg c19, if_neg c30, if_neg c31, if_pos c32] at h
                  exact xr_rt (v := none) rfl h
                · skip
                  try simp only [if_pos c7, if_pos c11, if_pos c14, if_pos c18, if_neg c19, if_neg c30, if_neg c31, if_neg c32] at h
                  exact xr_rt (v := none) rfl h
        · skip
          refine xr_go 2 (pc' := 258) (ls' := [some (.inr (some (36, 0))), some (.inl a1), some (.inl a2), some (.inl a3), some (.inl a4), some (.inl a5), some (.inl a6), some (.inl ((if a3 = (μ 70 0 ((a2).toNatClampNeg)) then 1 else 0) : Int32)), some (.inl ((if (μ 68 0 ((a2).toNatClampNeg)) = 5 then 1 else ((if (μ 68 0 ((a2).toNatClampNeg)) = 6 then 1 else 0) : Int32)) : Int32))]) (st' := [.inl a2, .inr (some (36, 0))]) (s' := μ) rfl ?_
          refine xr_cl (y' := 165) (as := [.inr (some (36, 0)), .inl a2]) (r := []) rfl rfl ?_
          refine tf_165 (d := d + 0) (μ := μ) (a1 := a2) (hi.2.2.2.2.2.2.2.1 c7 c11 c14 c18) ?_
          show xr_t (tm_I L xs) (d + 4) 164 261 [some (.inr (some (36, 0))), some (.inl a1), some (.inl a2), some (.inl a3), some (.inl a4), some (.inl a5), some (.inl a6), some (.inl ((if a3 = (μ 70 0 ((a2).toNatClampNeg)) then 1 else 0) : Int32)), some (.inl ((if (μ 68 0 ((a2).toNatClampNeg)) = 5 then 1 else ((if (μ 68 0 ((a2).toNatClampNeg)) = 6 then 1 else 0) : Int32)) : Int32))] [] (cs_165 a2 μ) Q
          generalize gμ54 : (cs_165 a2 μ) = μ54 at h hi ⊢
          refine xr_go 1 (pc' := 348) (ls' := [some (.inr (some (36, 0))), some (.inl a1), some (.inl a2), some (.inl a3), some (.inl a4), some (.inl a5), some (.inl a6), some (.inl ((if a3 = (μ 70 0 ((a2).toNatClampNeg)) then 1 else 0) : Int32)), some (.inl ((if (μ 68 0 ((a2).toNatClampNeg)) = 5 then 1 else ((if (μ 68 0 ((a2).toNatClampNeg)) = 6 then 1 else 0) : Int32)) : Int32))]) (st' := []) (s' := μ54) rfl ?_
          try simp only [if_pos c7, if_pos c11, if_pos c14, if_neg c18] at h
          exact xr_rt (v := none) rfl h
      · skip
        refine xr_go 3 (pc' := 211) (ls' := [some (.inr (some (36, 0))), some (.inl a1), some (.inl a2), some (.inl a3), some (.inl a4), some (.inl a5), some (.inl a6), some (.inl ((if a3 = (μ 70 0 ((a2).toNatClampNeg)) then 1 else 0) : Int32)), some (.inl ((if (μ 68 0 ((a2).toNatClampNeg)) = 5 then 1 else ((if (μ 68 0 ((a2).toNatClampNeg)) = 6 then 1 else 0) : Int32)) : Int32))]) (st' := [.inl a2, .inr (some (68, 0))]) (s' := μ) rfl ?_
        refine xr_ial (n := 6) rfl rfl (hi.1) ?_
        suffices hE33 : ((((μ 68 0 ((a2).toNatClampNeg)) = 2) ∨ (¬ (((if (μ 68 0 ((a2).toNatClampNeg)) = 5 then 1 else ((if (μ 68 0 ((a2).toNatClampNeg)) = 6 then 1 else 0) : Int32)) : Int32) = 0))) → xr_t (tm_I L xs) (d + 4) 164 221 [some (.inr (some (36, 0))), some (.inl a1), some (.inl a2), some (.inl a3), some (.inl a4), some (.inl a5), some (.inl a6), some (.inl ((if a3 = (μ 70 0 ((a2).toNatClampNeg)) then 1 else 0) : Int32)), some (.inl ((if (μ 68 0 ((a2).toNatClampNeg)) = 5 then 1 else ((if (μ 68 0 ((a2).toNatClampNeg)) = 6 then 1 else 0) : Int32)) : Int32))] [] μ Q) ∧ (¬ (((μ 68 0 ((a2).toNatClampNeg)) = 2) ∨ (¬ (((if (μ 68 0 ((a2).toNatClampNeg)) = 5 then 1 else ((if (μ 68 0 ((a2).toNatClampNeg)) = 6 then 1 else 0) : Int32)) : Int32) = 0))) → xr_t (tm_I L xs) (d + 4) 164 229 [some (.inr (some (36, 0))), some (.inl a1), some (.inl a2), some (.inl a3), some (.inl a4), some (.inl a5), some (.inl a6), some (.inl ((if a3 = (μ 70 0 ((a2).toNatClampNeg)) then 1 else 0) : Int32)), some (.inl ((if (μ 68 0 ((a2).toNatClampNeg)) = 5 then 1 else ((if (μ 68 0 ((a2).toNatClampNeg)) = 6 then 1 else 0) : Int32)) : Int32))] [] μ Q) by
          refine xr_br 2 (c := (μ 68 0 ((a2).toNatClampNeg)) = 2) inferInstance (a := 221) (b := 216) (ls' := [some (.inr (some (36, 0))), some (.inl a1), some (.inl a2), some (.inl a3), some (.inl a4), some (.inl a5), some (.inl a6), some (.inl ((if a3 = (μ 70 0 ((a2).toNatClampNeg)) then 1 else 0) : Int32)), some (.inl ((if (μ 68 0 ((a2).toNatClampNeg)) = 5 then 1 else ((if (μ 68 0 ((a2).toNatClampNeg)) = 6 then 1 else 0) : Int32)) : Int32))]) (st' := []) (s' := μ) rfl (fun c33 => ?_) (fun c33 => ?_)
          · skip
            exact hE33.1 (Or.inl c33)
          · skip
            refine xr_br 2 (c := ((if (μ 68 0 ((a2).toNatClampNeg)) = 5 then 1 else ((if (μ 68 0 ((a2).toNatClampNeg)) = 6 then 1 else 0) : Int32)) : Int32) = 0) inferInstance (a := 229) (b := 221) (ls' := [some (.inr (some (36, 0))), some (.inl a1), some (.inl a2), some (.inl a3), some (.inl a4), some (.inl a5), some (.inl a6), some (.inl ((if a3 = (μ 70 0 ((a2).toNatClampNeg)) then 1 else 0) : Int32)), some (.inl ((if (μ 68 0 ((a2).toNatClampNeg)) = 5 then 1 else ((if (μ 68 0 ((a2).toNatClampNeg)) = 6 then 1 else 0) : Int32)) : Int32))]) (st' := []) (s' := μ) rfl (fun c34 => ?_) (fun c34 => ?_)
            · skip
              exact hE33.2 (fun z => z.elim c33 (fun z => z c34))
            · skip
              exact hE33.1 (Or.inr c34)
        refine ⟨fun c35 => ?_, fun c35 => ?_⟩
        · skip
          refine xr_go 2 (pc' := 223) (ls' := [some (.inr (some (36, 0))), some (.inl a1), some (.inl a2), some (.inl a3), some (.inl a4), some (.inl a5), some (.inl a6), some (.inl ((if a3 = (μ 70 0 ((a2).toNatClampNeg)) then 1 else 0) : Int32)), some (.inl ((if (μ 68 0 ((a2).toNatClampNeg)) = 5 then 1 else ((if (μ 68 0 ((a2).toNatClampNeg)) = 6 then 1 else 0) : Int32)) : Int32))]) (st' := [.inl a2, .inr (some (36, 0))]) (s' := μ) rfl ?_
          refine xr_cl (y' := 158) (as := [.inr (some (36, 0)), .inl a2]) (r := []) rfl rfl ?_
          refine tf_158 (d := d + 1) (μ := μ) (a1 := a2) (hi.2.2.2.2.2.2.2.2.1 c7 c11 c14 c35) ?_
          show xr_t (tm_I L xs) (d + 4) 164 226 [some (.inr (some (36, 0))), some (.inl a1), some (.inl a2), some (.inl a3), some (.inl a4), some (.inl a5), some (.inl a6), some (.inl ((if a3 = (μ 70 0 ((a2).toNatClampNeg)) then 1 else 0) : Int32)), some (.inl ((if (μ 68 0 ((a2).toNatClampNeg)) = 5 then 1 else ((if (μ 68 0 ((a2).toNatClampNeg)) = 6 then 1 else 0) : Int32)) : Int32))] [] (cs_158 a2 μ) Q
          generalize gμ56 : (cs_158 a2 μ) = μ56 at h hi ⊢
          refine xr_go 1 (pc' := 348) (ls' := [some (.inr (some (36, 0))), some (.inl a1), some (.inl a2), some (.inl a3), some (.inl a4), some (.inl a5), some (.inl a6), some (.inl ((if a3 = (μ 70 0 ((a2).toNatClampNeg)) then 1 else 0) : Int32)), some (.inl ((if (μ 68 0 ((a2).toNatClampNeg)) = 5 then 1 else ((if (μ 68 0 ((a2).toNatClampNeg)) = 6 then 1 else 0) : Int32)) : Int32))]) (st' := []) (s' := μ56) rfl ?_
          try simp only [if_pos c7, if_pos c11, if_neg c14, if_pos c35] at h
          exact xr_rt (v := none) rfl h
        · skip
          suffices hE36 : (((¬ (a1 = 7)) ∨ ((¬ ((μ 68 0 ((a2).toNatClampNeg)) = 3)) ∨ (¬ (a4 = (μ 69 0 ((a2).toNatClampNeg)))))) → xr_t (tm_I L xs) (d + 4) 164 264 [some (.inr (some (36, 0))), some (.inl a1), some (.inl a2), some (.inl a3), some (.inl a4), some (.inl a5), some (.inl a6), some (.inl ((if a3 = (μ 70 0 ((a2).toNatClampNeg)) then 1 else 0) : Int32)), some (.inl ((if (μ 68 0 ((a2).toNatClampNeg)) = 5 then 1 else ((if (μ 68 0 ((a2).toNatClampNeg)) = 6 then 1 else 0) : Int32)) : Int32))] [] μ Q) ∧ (¬ ((¬ (a1 = 7)) ∨ ((¬ ((μ 68 0 ((a2).toNatClampNeg)) = 3)) ∨ (¬ (a4 = (μ 69 0 ((a2).toNatClampNeg)))))) → xr_t (tm_I L xs) (d + 4) 164 256 [some (.inr (some (36, 0))), some (.inl a1), some (.inl a2), some (.inl a3), some (.inl a4), some (.inl a5), some (.inl a6), some (.inl ((if a3 = (μ 70 0 ((a2).toNatClampNeg)) then 1 else 0) : Int32)), some (.inl ((if (μ 68 0 ((a2).toNatClampNeg)) = 5 then 1 else ((if (μ 68 0 ((a2).toNatClampNeg)) = 6 then 1 else 0) : Int32)) : Int32))] [] μ Q) by
            refine xr_br 3 (c := a1 = 7) inferInstance (a := 235) (b := 264) (ls' := [some (.inr (some (36, 0))), some (.inl a1), some (.inl a2), some (.inl a3), some (.inl a4), some (.inl a5), some (.inl a6), some (.inl ((if a3 = (μ 70 0 ((a2).toNatClampNeg)) then 1 else 0) : Int32)), some (.inl ((if (μ 68 0 ((a2).toNatClampNeg)) = 5 then 1 else ((if (μ 68 0 ((a2).toNatClampNeg)) = 6 then 1 else 0) : Int32)) : Int32))]) (st' := []) (s' := μ) rfl (fun c36 => ?_) (fun c36 => ?_)
            · skip
              refine xr_go 3 (pc' := 240) (ls' := [some (.inr (some (36, 0))), some (.inl a1), some (.inl a2), some (.inl a3), some (.inl a4), some (.inl a5), some (.inl a6), some (.inl ((if a3 = (μ 70 0 ((a2).toNatClampNeg)) then 1 else 0) : Int32)), some (.inl ((if (μ 68 0 ((a2).toNatClampNeg)) = 5 then 1 else ((if (μ 68 0 ((a2).toNatClampNeg)) = 6 then 1 else 0) : Int32)) : Int32))]) (st' := [.inl a2, .inr (some (68, 0))]) (s' := μ) rfl ?_
              refine xr_ial (n := 6) rfl rfl (hi.1) ?_
              refine xr_br 2 (c := (μ 68 0 ((a2).toNatClampNeg)) = 3) inferInstance (a := 245) (b := 264) (ls' := [some (.inr (some (36, 0))), some (.inl a1), some (.inl a2), some (.inl a3), some (.inl a4), some (.inl a5), some (.inl a6), some (.inl ((if a3 = (μ 70 0 ((a2).toNatClampNeg)) then 1 else 0) : Int32)), some (.inl ((if (μ 68 0 ((a2).toNatClampNeg)) = 5 then 1 else ((if (μ 68 0 ((a2).toNatClampNeg)) = 6 then 1 else 0) : Int32)) : Int32))]) (st' := []) (s' := μ) rfl (fun c37 => ?_) (fun c37 => ?_)
              · skip
                refine xr_go 4 (pc' := 252) (ls' := [some (.inr (some (36, 0))), some (.inl a1), some (.inl a2), some (.inl a3), some (.inl a4), some (.inl a5), some (.inl a6), some (.inl ((if a3 = (μ 70 0 ((a2).toNatClampNeg)) then 1 else 0) : Int32)), some (.inl ((if (μ 68 0 ((a2).toNatClampNeg)) = 5 then 1 else ((if (μ 68 0 ((a2).toNatClampNeg)) = 6 then 1 else 0) : Int32)) : Int32))]) (st' := [.inl a2, .inr (some (69, 0)), .inl a4]) (s' := μ) rfl ?_
                refine xr_ial (n := 6) rfl rfl (hi.1) ?_
                refine xr_br 1 (c := a4 = (μ 69 0 ((a2).toNatClampNeg))) inferInstance (a := 256) (b := 264) (ls' := [some (.inr (some (36, 0))), some (.inl a1), some (.inl a2), some (.inl a3), some (.inl a4), some (.inl a5), some (.inl a6), some (.inl ((if a3 = (μ 70 0 ((a2).toNatClampNeg)) then 1 else 0) : Int32)), some (.inl ((if (μ 68 0 ((a2).toNatClampNeg)) = 5 then 1 else ((if (μ 68 0 ((a2).toNatClampNeg)) = 6 then 1 else 0) : Int32)) : Int32))]) (st' := []) (s' := μ) rfl (fun c38 => ?_) (fun c38 => ?_)
                · skip
                  exact hE36.2 (fun z => z.elim (fun w => w c36) (fun z => z.elim (fun w => w c37) (fun z => z c38)))
                · skip
                  exact hE36.1 (Or.inr (Or.inr c38))
              · skip
                exact hE36.1 (Or.inr (Or.inl c37))
            · skip
              exact hE36.1 (Or.inl c36)
          refine ⟨fun c39 => ?_, fun c39 => ?_⟩
          · skip
            refine xr_br 3 (c := a1 = 9) inferInstance (a := 276) (b := 270) (ls' := [some (.inr (some (36, 0))), some (.inl a1), some (.inl a2), some (.inl a3), some (.inl a4), some (.inl a5), some (.inl a6), some (.inl ((if a3 = (μ 70 0 ((a2).toNatClampNeg)) then 1 else 0) : Int32)), some (.inl ((if (μ 68 0 ((a2).toNatClampNeg)) = 5 then 1 else ((if (μ 68 0 ((a2).toNatClampNeg)) = 6 then 1 else 0) : Int32)) : Int32))]) (st' := []) (s' := μ) rfl (fun c40 => ?_) (fun c40 => ?_)
            · skip
              refine xr_go 2 (pc' := 278) (ls' := [some (.inr (some (36, 0))), some (.inl a1), some (.inl a2), some (.inl a3), some (.inl a4), some (.inl a5), some (.inl a6), some (.inl ((if a3 = (μ 70 0 ((a2).toNatClampNeg)) then 1 else 0) : Int32)), some (.inl ((if (μ 68 0 ((a2).toNatClampNeg)) = 5 then 1 else ((if (μ 68 0 ((a2).toNatClampNeg)) = 6 then 1 else 0) : Int32)) : Int32))]) (st' := [.inl a2, .inr (some (36, 0))]) (s' := μ) rfl ?_
              refine xr_cl (y' := 156) (as := [.inr (some (36, 0)), .inl a2]) (r := []) rfl rfl ?_
              refine tf_156 (d := d + 3) (μ := μ) (a1 := a2) (hi.2.2.2.2.2.2.2.2.2.1 c7 c11 c14 c35 c39 c40) ?_
              show xr_t (tm_I L xs) (d + 4) 164 281 [some (.inr (some (36, 0))), some (.inl a1), some (.inl a2), some (.inl a3), some (.inl a4), some (.inl a5), some (.inl a6), some (.inl ((if a3 = (μ 70 0 ((a2).toNatClampNeg)) then 1 else 0) : Int32)), some (.inl ((if (μ 68 0 ((a2).toNatClampNeg)) = 5 then 1 else ((if (μ 68 0 ((a2).toNatClampNeg)) = 6 then 1 else 0) : Int32)) : Int32))] [.inl (cv_156 a2 μ)] μ Q
              have z59 : (cv_156 a2 μ) = 0 ∨ (cv_156 a2 μ) = 1 := cz_156
              generalize gv59 : (cv_156 a2 μ) = v59 at h hi z59 ⊢
              suffices hE41 : (((v59 = 0) ∨ ((¬ ((μ 76 0 ((a2).toNatClampNeg)) = 1)) ∨ (¬ (a4 = (μ 51 0 (((μ 77 0 ((a2).toNatClampNeg)) : Int32).toNatClampNeg)))))) → xr_t (tm_I L xs) (d + 4) 164 348 [some (.inr (some (36, 0))), some (.inl a1), some (.inl a2), some (.inl a3), some (.inl a4), some (.inl a5), some (.inl a6), some (.inl ((if a3 = (μ 70 0 ((a2).toNatClampNeg)) then 1 else 0) : Int32)), some (.inl ((if (μ 68 0 ((a2).toNatClampNeg)) = 5 then 1 else ((if (μ 68 0 ((a2).toNatClampNeg)) = 6 then 1 else 0) : Int32)) : Int32))] [] μ Q) ∧ (¬ ((v59 = 0) ∨ ((¬ ((μ 76 0 ((a2).toNatClampNeg)) = 1)) ∨ (¬ (a4 = (μ 51 0 (((μ 77 0 ((a2).toNatClampNeg)) : Int32).toNatClampNeg)))))) → xr_t (tm_I L xs) (d + 4) 164 310 [some (.inr (some (36, 0))), some (.inl a1), some (.inl a2), some (.inl a3), some (.inl a4), some (.inl a5), some (.inl a6), some (.inl ((if a3 = (μ 70 0 ((a2).toNatClampNeg)) then 1 else 0) : Int32)), some (.inl ((if (μ 68 0 ((a2).toNatClampNeg)) = 5 then 1 else ((if (μ 68 0 ((a2).toNatClampNeg)) = 6 then 1 else 0) : Int32)) : Int32))] [] μ Q) by
                refine xr_br 1 (c := v59 = 0) inferInstance (a := 348) (b := 284) (ls' := [some (.inr (some (36, 0))), some (.inl a1), some (.inl a2), some (.inl a3), some (.inl a4), some (.inl a5), some (.inl a6), some (.inl ((if a3 = (μ 70 0 ((a2).toNatClampNeg)) then 1 else 0) : Int32)), some (.inl ((if (μ 68 0 ((a2).toNatClampNeg)) = 5 then 1 else ((if (μ 68 0 ((a2).toNatClampNeg)) = 6 then 1 else 0) : Int32)) : Int32))]) (st' := []) (s' := μ) rfl (fun c41 => ?_) (fun c41 => ?_)
                · skip
                  exact hE41.1 (Or.inl c41)
                · skip
                  refine xr_go 3 (pc' := 289) (ls' := [some (.inr (some (36, 0))), some (.inl a1), some (.inl a2), some (.inl a3), some (.inl a4), some (.inl a5), some (.inl a6), some (.inl ((if a3 = (μ 70 0 ((a2).toNatClampNeg)) then 1 else 0) : Int32)), some (.inl ((if (μ 68 0 ((a2).toNatClampNeg)) = 5 then 1 else ((if (μ 68 0 ((a2).toNatClampNeg)) = 6 then 1 else 0) : Int32)) : Int32))]) (st' := [.inl a2, .inr (some (76, 0))]) (s' := μ) rfl ?_
                  refine xr_ial (n := 6) rfl rfl (hi.1) ?_
                  refine xr_br 2 (c := (μ 76 0 ((a2).toNatClampNeg)) = 1) inferInstance (a := 294) (b := 348) (ls' := [some (.inr (some (36, 0))), some (.inl a1), some (.inl a2), some (.inl a3), some (.inl a4), some (.inl a5), some (.inl a6), some (.inl ((if a3 = (μ 70 0 ((a2).toNatClampNeg)) then 1 else 0) : Int32)), some (.inl ((if (μ 68 0 ((a2).toNatClampNeg)) = 5 then 1 else ((if (μ 68 0 ((a2).toNatClampNeg)) = 6 then 1 else 0) : Int32)) : Int32))]) (st' := []) (s' := μ) rfl (fun c42 => ?_) (fun c42 => ?_)
                  · skip
                    refine xr_go 6 (pc' := 305) (ls' := [some (.inr (some (36, 0))), some (.inl a1), some (.inl a2), some (.inl a3), some (.inl a4), some (.inl a5), some (.inl a6), some (.inl ((if a3 = (μ 70 0 ((a2).toNatClampNeg)) then 1 else 0) : Int32)), some (.inl ((if (μ 68 0 ((a2).toNatClampNeg)) = 5 then 1 else ((if (μ 68 0 ((a2).toNatClampNeg)) = 6 then 1 else 0) : Int32)) : Int32))]) (st' := [.inl a2, .inr (some (77, 0)), .inr (some (51, 0)), .inl a4]) (s' := μ) rfl ?_
                    refine xr_ial (n := 6) rfl rfl (hi.1) ?_
                    refine xr_ial (n := 4) rfl rfl (hi.2.2.2.2.2.2.2.2.2.2.1 c7 c11 c14 c35 c39 c40 c41 c42) ?_
                    refine xr_br 1 (c := a4 = (μ 51 0 (((μ 77 0 ((a2).toNatClampNeg)) : Int32).toNatClampNeg))) inferInstance (a := 310) (b := 348) (ls' := [some (.inr (some (36, 0))), some (.inl a1), some (.inl a2), some (.inl a3), some (.inl a4), some (.inl a5), some (.inl a6), some (.inl ((if a3 = (μ 70 0 ((a2).toNatClampNeg)) then 1 else 0) : Int32)), some (.inl ((if (μ 68 0 ((a2).toNatClampNeg)) = 5 then 1 else ((if (μ 68 0 ((a2).toNatClampNeg)) = 6 then 1 else 0) : Int32)) : Int32))]) (st' := []) (s' := μ) rfl (fun c43 => ?_) (fun c43 => ?_)
                    · skip
                      exact hE41.2 (fun z => z.elim c41 (fun z => z.elim (fun w => w c42) (fun z => z c43)))
                    · skip
                      exact hE41.1 (Or.inr (Or.inr c43))
                  · skip
                    exact hE41.1 (Or.inr (Or.inl c42))
              refine ⟨fun c44 => ?_, fun c44 => ?_⟩
              · skip
                try simp only [if_pos c7, if_pos c11, if_neg c14, if_neg c35, if_pos c39, if_pos c40, if_pos c44] at h
                exact xr_rt (v := none) rfl h
              · skip
                refine xr_br 3 (c := a1 = 11) inferInstance (a := 316) (b := 326) (ls' := [some (.inr (some (36, 0))), some (.inl a1), some (.inl a2), some (.inl a3), some (.inl a4), some (.inl a5), some (.inl a6), some (.inl ((if a3 = (μ 70 0 ((a2).toNatClampNeg)) then 1 else 0) : Int32)), some (.inl ((if (μ 68 0 ((a2).toNatClampNeg)) = 5 then 1 else ((if (μ 68 0 ((a2).toNatClampNeg)) = 6 then 1 else 0) : Int32)) : Int32))]) (st' := []) (s' := μ) rfl (fun c45 => ?_) (fun c45 => ?_)
                · skip
                  refine xr_go 4 (pc' := 322) (ls' := [some (.inr (some (36, 0))), some (.inl a1), some (.inl a2), some (.inl a3), some (.inl a4), some (.inl a5), some (.inl a6), some (.inl ((if a3 = (μ 70 0 ((a2).toNatClampNeg)) then 1 else 0) : Int32)), some (.inl ((if (μ 68 0 ((a2).toNatClampNeg)) = 5 then 1 else ((if (μ 68 0 ((a2).toNatClampNeg)) = 6 then 1 else 0) : Int32)) : Int32))]) (st' := [.inl 3, .inl a2, .inr (some (76, 0))]) (s' := μ) rfl ?_
                  refine xr_ias (n := 6) rfl rfl (hi.1) ?_
                  refine xr_go 1 (pc' := 348) (ls' := [some (.inr (some (36, 0))), some (.inl a1), some (.inl a2), some (.inl a3), some (.inl a4), some (.inl a5), some (.inl a6), some (.inl ((if a3 = (μ 70 0 ((a2).toNatClampNeg)) then 1 else 0) : Int32)), some (.inl ((if (μ 68 0 ((a2).toNatClampNeg)) = 5 then 1 else ((if (μ 68 0 ((a2).toNatClampNeg)) = 6 then 1 else 0) : Int32)) : Int32))]) (st' := []) (s' := (tm_wr μ 76 0 ((a2).toNatClampNeg) 3)) rfl ?_
                  try simp only [if_pos c7, if_pos c11, if_neg c14, if_neg c35, if_pos c39, if_pos c40, if_neg c44, if_pos c45] at h
                  exact xr_rt (v := none) rfl h
                · skip
                  refine xr_go 4 (pc' := 333) (ls' := [some (.inr (some (36, 0))), some (.inl a1), some (.inl a2), some (.inl a3), some (.inl a4), some (.inl a5), some (.inl a6), some (.inl ((if a3 = (μ 70 0 ((a2).toNatClampNeg)) then 1 else 0) : Int32)), some (.inl ((if (μ 68 0 ((a2).toNatClampNeg)) = 5 then 1 else ((if (μ 68 0 ((a2).toNatClampNeg)) = 6 then 1 else 0) : Int32)) : Int32))]) (st' := [.inl a2, .inr (some (78, 0)), .inl a5]) (s' := μ) rfl ?_
                  refine xr_ial (n := 6) rfl rfl (hi.1) ?_
                  refine xr_br 1 (c := a5 = (μ 78 0 ((a2).toNatClampNeg))) inferInstance (a := 337) (b := 348) (ls' := [some (.inr (some (36, 0))), some (.inl a1), some (.inl a2), some (.inl a3), some (.inl a4), some (.inl a5), some (.inl a6), some (.inl ((if a3 = (μ 70 0 ((a2).toNatClampNeg)) then 1 else 0) : Int32)), some (.inl ((if (μ 68 0 ((a2).toNatClampNeg)) = 5 then 1 else ((if (μ 68 0 ((a2).toNatClampNeg)) = 6 then 1 else 0) : Int32)) : Int32))]) (st' := []) (s' := μ) rfl (fun c46 => ?_) (fun c46 => ?_)
                  · skip
                    refine xr_go 5 (pc' := 345) (ls' := [some (.inr (some (36, 0))), some (.inl a1), some (.inl a2), some (.inl a3), some (.inl a4), some (.inl a5), some (.inl a6), some (.inl ((if a3 = (μ 70 0 ((a2).toNatClampNeg)) then 1 else 0) : Int32)), some (.inl ((if (μ 68 0 ((a2).toNatClampNeg)) = 5 then 1 else ((if (μ 68 0 ((a2).toNatClampNeg)) = 6 then 1 else 0) : Int32)) : Int32))]) (st' := [.inl a6, .inl a5, .inl a4, .inl a2, .inr (some (36, 0))]) (s' := μ) rfl ?_
                    refine xr_cl (y' := 166) (as := [.inr (some (36, 0)), .inl a2, .inl a4, .inl a5, .inl a6]) (r := []) rfl rfl ?_
                    refine tf_166 (d := d + 0) (μ := μ) (a1 := a2) (a2 := a4) (a3 := a5) (a4 := a6) (hi.2.2.2.2.2.2.2.2.2.2.2.1 c7 c11 c14 c35 c39 c40 c44 c45 c46) ?_
                    show xr_t (tm_I L xs) (d + 4) 164 348 [some (.inr (some (36, 0))), some (.inl a1), some (.inl a2), some (.inl a3), some (.inl a4), some (.inl a5), some (.inl a6), some (.inl ((if a3 = (μ 70 0 ((a2).toNatClampNeg)) then 1 else 0) : Int32)), some (.inl ((if (μ 68 0 ((a2).toNatClampNeg)) = 5 then 1 else ((if (μ 68 0 ((a2).toNatClampNeg)) = 6 then 1 else 0) : Int32)) : Int32))] [] (cs_166 a2 a4 a5 a6 μ) Q
                    generalize gμ61 : (cs_166 a2 a4 a5 a6 μ) = μ61 at h hi ⊢
                    try simp only [if_pos c7, if_pos c11, if_neg c14, if_neg c35, if_pos c39, if_pos c40, if_neg c44, if_neg c45, if_pos c46] at h
                    exact xr_rt (v := none) rfl h
                  · skip
                    try simp only [if_pos c7, if_pos c11, if_neg c14, if_neg c35, if_pos c39, if_pos c40, if_neg c44, if_neg c45, if_neg c46] at h
                    exact xr_rt (v := none) rfl h
            · skip
              suffices hE47 : (((¬ (a1 = 11)) ∨ (((cv_156 a2 μ) = 0) ∨ ((¬ ((μ 76 0 ((a2).toNatClampNeg)) = 1)) ∨ (¬ (a4 = (μ 51 0 (((μ 77 0 ((a2).toNatClampNeg)) : Int32).toNatClampNeg))))))) → xr_t (tm_I L xs) (d + 4) 164 348 [some (.inr (some (36, 0))), some (.inl a1), some (.inl a2), some (.inl a3), some (.inl a4), some (.inl a5), some (.inl a6), some (.inl ((if a3 = (μ 70 0 ((a2).toNatClampNeg)) then 1 else 0) : Int32)), some (.inl ((if (μ 68 0 ((a2).toNatClampNeg)) = 5 then 1 else ((if (μ 68 0 ((a2).toNatClampNeg)) = 6 then 1 else 0) : Int32)) : Int32))] [] μ Q) ∧ (¬ ((¬ (a1 = 11)) ∨ (((cv_156 a2 μ) = 0) ∨ ((¬ ((μ 76 0 ((a2).toNatClampNeg)) = 1)) ∨ (¬ (a4 = (μ 51 0 (((μ 77 0 ((a2).toNatClampNeg)) : Int32).toNatClampNeg))))))) → xr_t (tm_I L xs) (d + 4) 164 310 [some (.inr (some (36, 0))), some (.inl a1), some (.inl a2), some (.inl a3), some (.inl a4), some (.inl a5), some (.inl a6), some (.inl ((if a3 = (μ 70 0 ((a2).toNatClampNeg)) then 1 else 0) : Int32)), some (.inl ((if (μ 68 0 ((a2).toNatClampNeg)) = 5 then 1 else ((if (μ 68 0 ((a2).toNatClampNeg)) = 6 then 1 else 0) : Int32)) : Int32))] [] μ Q) by
                refine xr_br 3 (c := a1 = 11) inferInstance (a := 276) (b := 348) (ls' := [some (.inr (some (36, 0))), some (.inl a1), some (.inl a2), some (.inl a3), some (.inl a4), some (.inl a5), some (.inl a6), some (.inl ((if a3 = (μ 70 0 ((a2).toNatClampNeg)) then 1 else 0) : Int32)), some (.inl ((if (μ 68 0 ((a2).toNatClampNeg)) = 5 then 1 else ((if (μ 68 0 ((a2).toNatClampNeg)) = 6 then 1 else 0) : Int32)) : Int32))]) (st' := []) (s' := μ) rfl (fun c47 => ?_) (fun c47 => ?_)
                · skip
                  refine xr_go 2 (pc' := 278) (ls' := [some (.inr (some (36, 0))), some (.inl a1), some (.inl a2), some (.inl a3), some (.inl a4), some (.inl a5), some (.inl a6), some (.inl ((if a3 = (μ 70 0 ((a2).toNatClampNeg)) then 1 else 0) : Int32)), some (.inl ((if (μ 68 0 ((a2).toNatClampNeg)) = 5 then 1 else ((if (μ 68 0 ((a2).toNatClampNeg)) = 6 then 1 else 0) : Int32)) : Int32))]) (st' := [.inl a2, .inr (some (36, 0))]) (s' := μ) rfl ?_
                  refine xr_cl (y' := 156) (as := [.inr (some (36, 0)), .inl a2]) (r := []) rfl rfl ?_
                  refine tf_156 (d := d + 3) (μ := μ) (a1 := a2) (hi.2.2.2.2.2.2.2.2.2.2.2.2.1 c7 c11 c14 c35 c39 c40 c47) ?_
                  show xr_t (tm_I L xs) (d + 4) 164 281 [some (.inr (some (36, 0))), some (.inl a1), some (.inl a2), some (.inl a3), some (.inl a4), some (.inl a5), some (.inl a6), some (.inl ((if a3 = (μ 70 0 ((a2).toNatClampNeg)) then 1 else 0) : Int32)), some (.inl ((if (μ 68 0 ((a2).toNatClampNeg)) = 5 then 1 else ((if (μ 68 0 ((a2).toNatClampNeg)) = 6 then 1 else 0) : Int32)) : Int32))] [.inl (cv_156 a2 μ)] μ Q
                  refine xr_br 1 (c := (cv_156 a2 μ) = 0) inferInstance (a := 348) (b := 284) (ls' := [some (.inr (some (36, 0))), some (.inl a1), some (.inl a2), some (.inl a3), some (.inl a4), some (.inl a5), some (.inl a6), some (.inl ((if a3 = (μ 70 0 ((a2).toNatClampNeg)) then 1 else 0) : Int32)), some (.inl ((if (μ 68 0 ((a2).toNatClampNeg)) = 5 then 1 else ((if (μ 68 0 ((a2).toNatClampNeg)) = 6 then 1 else 0) : Int32)) : Int32))]) (st' := []) (s' := μ) rfl (fun c48 => ?_) (fun c48 => ?_)
                  · skip
                    exact hE47.1 (Or.inr (Or.inl c48))
                  · skip
                    refine xr_go 3 (pc' := 289) (ls' := [some (.inr (some (36, 0))), some (.inl a1), some (.inl a2), some (.inl a3), some (.inl a4), some (.inl a5), some (.inl a6), some (.inl ((if a3 = (μ 70 0 ((a2).toNatClampNeg)) then 1 else 0) : Int32)), some (.inl ((if (μ 68 0 ((a2).toNatClampNeg)) = 5 then 1 else ((if (μ 68 0 ((a2).toNatClampNeg)) = 6 then 1 else 0) : Int32)) : Int32))]) (st' := [.inl a2, .inr (some (76, 0))]) (s' := μ) rfl ?_
                    refine xr_ial (n := 6) rfl rfl (hi.1) ?_
                    refine xr_br 2 (c := (μ 76 0 ((a2).toNatClampNeg)) = 1) inferInstance (a := 294) (b := 348) (ls' := [some (.inr (some (36, 0))), some (.inl a1), some (.inl a2), some (.inl a3), some (.inl a4), some (.inl a5), some (.inl a6), some (.inl ((if a3 = (μ 70 0 ((a2).toNatClampNeg)) then 1 else 0) : Int32)), some (.inl ((if (μ 68 0 ((a2).toNatClampNeg)) = 5 then 1 else ((if (μ 68 0 ((a2).toNatClampNeg)) = 6 then 1 else 0) : Int32)) : Int32))]) (st' := []) (s' := μ) rfl (fun c49 => ?_) (fun c49 => ?_)
                    · skip
                      refine xr_go 6 (pc' := 305) (ls' := [some (.inr (some (36, 0))), some (.inl a1), some (.inl a2), some (.inl a3), some (.inl a4), some (.inl a5), some (.inl a6), some (.inl ((if a3 = (μ 70 0 ((a2).toNatClampNeg)) then 1 else 0) : Int32)), some (.inl ((if (μ 68 0 ((a2).toNatClampNeg)) = 5 then 1 else ((if (μ 68 0 ((a2).toNatClampNeg)) = 6 then 1 else 0) : Int32)) : Int32))]) (st' := [.inl a2, .inr (some (77, 0)), .inr (some (51, 0)), .inl a4]) (s' := μ) rfl ?_
                      refine xr_ial (n := 6) rfl rfl (hi.1) ?_
                      refine xr_ial (n := 4) rfl rfl (hi.2.2.2.2.2.2.2.2.2.2.2.2.2.1 c7 c11 c14 c35 c39 c40 c47 c48 c49) ?_
                      refine xr_br 1 (c := a4 = (μ 51 0 (((μ 77 0 ((a2).toNatClampNeg)) : Int32).toNatClampNeg))) inferInstance (a := 310) (b := 348) (ls' := [some (.inr (some (36, 0))), some (.inl a1), some (.inl a2), some (.inl a3), some (.inl a4), some (.inl a5), some (.inl a6), some (.inl ((if a3 = (μ 70 0 ((a2).toNatClampNeg)) then 1 else 0) : Int32)), some (.inl ((if (μ 68 0 ((a2).toNatClampNeg)) = 5 then 1 else ((if (μ 68 0 ((a2).toNatClampNeg)) = 6 then 1 else 0) : Int32)) : Int32))]) (st' := []) (s' := μ) rfl (fun c50 => ?_) (fun c50 => ?_)
                      · skip
                        exact hE47.2 (fun z => z.elim (fun w => w c47) (fun z => z.elim c48 (fun z => z.elim (fun w => w c49) (fun z => z c50))))
                      · skip
                        exact hE47.1 (Or.inr (Or.inr (Or.inr c50)))
                    · skip
                      exact hE47.1 (Or.inr (Or.inr (Or.inl c49)))
                · skip
                  exact hE47.1 (Or.inl c47)
              refine ⟨fun c51 => ?_, fun c51 => ?_⟩
              · skip
                try simp only [if_pos c7, if_pos c11, if_neg c14, if_neg c35, if_pos c39, if_neg c40, if_pos c51] at h
                exact xr_rt (v := none) rfl h
              · skip
                refine xr_br 3 (c := a1 = 11) inferInstance (a := 316) (b := 326) (ls' := [some (.inr (some (36, 0))), some (.inl a1), some (.inl a2), some (.inl a3), some (.inl a4), some (.inl a5), some (.inl a6), some (.inl ((if a3 = (μ 70 0 ((a2).toNatClampNeg)) then 1 else 0) : Int32)), some (.inl ((if (μ 68 0 ((a2).toNatClampNeg)) = 5 then 1 else ((if (μ 68 0 ((a2).toNatClampNeg)) = 6 then 1 else 0) : Int32)) : Int32))]) (st' := []) (s' := μ) rfl (fun c52 => ?_) (fun c52 => ?_)
                · skip
                  refine xr_go 4 (pc' := 322) (ls' := [some (.inr (some (36, 0))), some (.inl a1), some (.inl a2), some (.inl a3), some (.inl a4), some (.inl a5), some (.inl a6), some (.inl ((if a3 = (μ 70 0 ((a2).toNatClampNeg)) then 1 else 0) : Int32)), some (.inl ((if (μ 68 0 ((a2).toNatClampNeg)) = 5 then 1 else ((if (μ 68 0 ((a2).toNatClampNeg)) = 6 then 1 else 0) : Int32)) : Int32))]) (st' := [.inl 3, .inl a2, .inr (some (76, 0))]) (s' := μ) rfl ?_
                  refine xr_ias (n := 6) rfl rfl (hi.1) ?_
                  refine xr_go 1 (pc' := 348) (ls' := [some (.inr (some (36, 0))), some (.inl a1), some (.inl a2), some (.inl a3), some (.inl a4), some (.inl a5), some (.inl a6), some (.inl ((if a3 = (μ 70 0 ((a2).toNatClampNeg)) then 1 else 0) : Int32)), some (.inl ((if (μ 68 0 ((a2).toNatClampNeg)) = 5 then 1 else ((if (μ 68 0 ((a2).toNatClampNeg)) = 6 then 1 else 0) : Int32)) : Int32))]) (st' := []) (s' := (tm_wr μ 76 0 ((a2).toNatClampNeg) 3)) rfl ?_
                  try simp only [if_pos c7, if_pos c11, if_neg c14, if_neg c35, if_pos c39, if_neg c40, if_neg c51, if_pos c52] at h
                  exact xr_rt (v := none) rfl h
                · skip
                  refine xr_go 4 (pc' := 333) (ls' := [some (.inr (some (36, 0))), some (.inl a1), some (.inl a2), some (.inl a3), some (.inl a4), some (.inl a5), some (.inl a6), some (.inl ((if a3 = (μ 70 0 ((a2).toNatClampNeg)) then 1 else 0) : Int32)), some (.inl ((if (μ 68 0 ((a2).toNatClampNeg)) = 5 then 1 else ((if (μ 68 0 ((a2).toNatClampNeg)) = 6 then 1 else 0) : Int32)) : Int32))]) (st' := [.inl a2, .inr (some (78, 0)), .inl a5]) (s' := μ) rfl ?_
                  refine xr_ial (n := 6) rfl rfl (hi.1) ?_
                  refine xr_br 1 (c := a5 = (μ 78 0 ((a2).toNatClampNeg))) inferInstance (a := 337) (b := 348) (ls' := [some (.inr (some (36, 0))), some (.inl a1), some (.inl a2), some (.inl a3), some (.inl a4), some (.inl a5), some (.inl a6), some (.inl ((if a3 = (μ 70 0 ((a2).toNatClampNeg)) then 1 else 0) : Int32)), some (.inl ((if (μ 68 0 ((a2).toNatClampNeg)) = 5 then 1 else ((if (μ 68 0 ((a2).toNatClampNeg)) = 6 then 1 else 0) : Int32)) : Int32))]) (st' := []) (s' := μ) rfl (fun c53 => ?_) (fun c53 => ?_)
                  · skip
                    refine xr_go 5 (pc' := 345) (ls' := [some (.inr (some (36, 0))), some (.inl a1), some (.inl a2), some (.inl a3), some (.inl a4), some (.inl a5), some (.inl a6), some (.inl ((if a3 = (μ 70 0 ((a2).toNatClampNeg)) then 1 else 0) : Int32)), some (.inl ((if (μ 68 0 ((a2).toNatClampNeg)) = 5 then 1 else ((if (μ 68 0 ((a2).toNatClampNeg)) = 6 then 1 else 0) : Int32)) : Int32))]) (st' := [.inl a6, .inl a5, .inl a4, .inl a2, .inr (some (36, 0))]) (s' := μ) rfl ?_
                    refine xr_cl (y' := 166) (as := [.inr (some (36, 0)), .inl a2, .inl a4, .inl a5, .inl a6]) (r := []) rfl rfl ?_
                    refine tf_166 (d := d + 0) (μ := μ) (a1 := a2) (a2 := a4) (a3 := a5) (a4 := a6) (hi.2.2.2.2.2.2.2.2.2.2.2.2.2.2.1 c7 c11 c14 c35 c39 c40 c51 c52 c53) ?_
                    show xr_t (tm_I L xs) (d + 4) 164 348 [some (.inr (some (36, 0))), some (.inl a1), some (.inl a2), some (.inl a3), some (.inl a4), some (.inl a5), some (.inl a6), some (.inl ((if a3 = (μ 70 0 ((a2).toNatClampNeg)) then 1 else 0) : Int32)), some (.inl ((if (μ 68 0 ((a2).toNatClampNeg)) = 5 then 1 else ((if (μ 68 0 ((a2).toNatClampNeg)) = 6 then 1 else 0) : Int32)) : Int32))] [] (cs_166 a2 a4 a5 a6 μ) Q
                    generalize gμ63 : (cs_166 a2 a4 a5 a6 μ) = μ63 at h hi ⊢
                    try simp only [if_pos c7, if_pos c11, if_neg c14, if_neg c35, if_pos c39, if_neg c40, if_neg c51, if_neg c52, if_pos c53] at h
                    exact xr_rt (v := none) rfl h
                  · skip
                    try simp only [if_pos c7, if_pos c11, if_neg c14, if_neg c35, if_pos c39, if_neg c40, if_neg c51, if_neg c52, if_neg c53] at h
                    exact xr_rt (v := none) rfl h
          · skip
            refine xr_go 2 (pc' := 258) (ls' := [some (.inr (some (36, 0))), some (.inl a1), some (.inl a2), some (.inl a3), some (.inl a4), some (.inl a5), some (.inl a6), some (.inl ((if a3 = (μ 70 0 ((a2).toNatClampNeg)) then 1 else 0) : Int32)), some (.inl ((if (μ 68 0 ((a2).toNatClampNeg)) = 5 then 1 else ((if (μ 68 0 ((a2).toNatClampNeg)) = 6 then 1 else 0) : Int32)) : Int32))]) (st' := [.inl a2, .inr (some (36, 0))]) (s' := μ) rfl ?_
            refine xr_cl (y' := 165) (as := [.inr (some (36, 0)), .inl a2]) (r := []) rfl rfl ?_
            refine tf_165 (d := d + 0) (μ := μ) (a1 := a2) (hi.2.2.2.2.2.2.2.2.2.2.2.2.2.2.2.1 c7 c11 c14 c35 c39) ?_
            show xr_t (tm_I L xs) (d + 4) 164 261 [some (.inr (some (36, 0))), some (.inl a1), some (.inl a2), some (.inl a3), some (.inl a4), some (.inl a5), some (.inl a6), some (.inl ((if a3 = (μ 70 0 ((a2).toNatClampNeg)) then 1 else 0) : Int32)), some (.inl ((if (μ 68 0 ((a2).toNatClampNeg)) = 5 then 1 else ((if (μ 68 0 ((a2).toNatClampNeg)) = 6 then 1 else 0) : Int32)) : Int32))] [] (cs_165 a2 μ) Q
            generalize gμ64 : (cs_165 a2 μ) = μ64 at h hi ⊢
            refine xr_go 1 (pc' := 348) (ls' := [some (.inr (some (36, 0))), some (.inl a1), some (.inl a2), some (.inl a3), some (.inl a4), some (.inl a5), some (.inl a6), some (.inl ((if a3 = (μ 70 0 ((a2).toNatClampNeg)) then 1 else 0) : Int32)), some (.inl ((if (μ 68 0 ((a2).toNatClampNeg)) = 5 then 1 else ((if (μ 68 0 ((a2).toNatClampNeg)) = 6 then 1 else 0) : Int32)) : Int32))]) (st' := []) (s' := μ64) rfl ?_
            try simp only [if_pos c7, if_pos c11, if_neg c14, if_neg c35, if_neg c39] at h
            exact xr_rt (v := none) rfl h
    · skip
      refine xr_go 3 (pc' := 121) (ls' := [some (.inr (some (36, 0))), some (.inl a1), some (.inl a2), some (.inl a3), some (.inl a4), some (.inl a5), some (.inl a6), some (.inl ((if a3 = (μ 70 0 ((a2).toNatClampNeg)) then 1 else 0) : Int32)), some (.inl ((if (μ 68 0 ((a2).toNatClampNeg)) = 5 then 1 else ((if (μ 68 0 ((a2).toNatClampNeg)) = 6 then 1 else 0) : Int32)) : Int32))]) (st' := [.inl a2, .inr (some (68, 0))]) (s' := μ) rfl ?_
      refine xr_ial (n := 6) rfl rfl (hi.1) ?_
      suffices hE54 : ((((μ 68 0 ((a2).toNatClampNeg)) = 2) ∨ (¬ (((if (μ 68 0 ((a2).toNatClampNeg)) = 5 then 1 else ((if (μ 68 0 ((a2).toNatClampNeg)) = 6 then 1 else 0) : Int32)) : Int32) = 0))) → xr_t (tm_I L xs) (d + 4) 164 131 [some (.inr (some (36, 0))), some (.inl a1), some (.inl a2), some (.inl a3), some (.inl a4), some (.inl a5), some (.inl a6), some (.inl ((if a3 = (μ 70 0 ((a2).toNatClampNeg)) then 1 else 0) : Int32)), some (.inl ((if (μ 68 0 ((a2).toNatClampNeg)) = 5 then 1 else ((if (μ 68 0 ((a2).toNatClampNeg)) = 6 then 1 else 0) : Int32)) : Int32))] [] μ Q) ∧ (¬ (((μ 68 0 ((a2).toNatClampNeg)) = 2) ∨ (¬ (((if (μ 68 0 ((a2).toNatClampNeg)) = 5 then 1 else ((if (μ 68 0 ((a2).toNatClampNeg)) = 6 then 1 else 0) : Int32)) : Int32) = 0))) → xr_t (tm_I L xs) (d + 4) 164 196 [some (.inr (some (36, 0))), some (.inl a1), some (.inl a2), some (.inl a3), some (.inl a4), some (.inl a5), some (.inl a6), some (.inl ((if a3 = (μ 70 0 ((a2).toNatClampNeg)) then 1 else 0) : Int32)), some (.inl ((if (μ 68 0 ((a2).toNatClampNeg)) = 5 then 1 else ((if (μ 68 0 ((a2).toNatClampNeg)) = 6 then 1 else 0) : Int32)) : Int32))] [] μ Q) by
        refine xr_br 2 (c := (μ 68 0 ((a2).toNatClampNeg)) = 2) inferInstance (a := 131) (b := 126) (ls' := [some (.inr (some (36, 0))), some (.inl a1), some (.inl a2), some (.inl a3), some (.inl a4), some (.inl a5), some (.inl a6), some (.inl ((if a3 = (μ 70 0 ((a2).toNatClampNeg)) then 1 else 0) : Int32)), some (.inl ((if (μ 68 0 ((a2).toNatClampNeg)) = 5 then 1 else ((if (μ 68 0 ((a2).toNatClampNeg)) = 6 then 1 else 0) : Int32)) : Int32))]) (st' := []) (s' := μ) rfl (fun c54 => ?_) (fun c54 => ?_)
        · skip
          exact hE54.1 (Or.inl c54)
        · skip
          refine xr_br 2 (c := ((if (μ 68 0 ((a2).toNatClampNeg)) = 5 then 1 else ((if (μ 68 0 ((a2).toNatClampNeg)) = 6 then 1 else 0) : Int32)) : Int32) = 0) inferInstance (a := 196) (b := 131) (ls' := [some (.inr (some (36, 0))), some (.inl a1), some (.inl a2), some (.inl a3), some (.inl a4), some (.inl a5), some (.inl a6), some (.inl ((if a3 = (μ 70 0 ((a2).toNatClampNeg)) then 1 else 0) : Int32)), some (.inl ((if (μ 68 0 ((a2).toNatClampNeg)) = 5 then 1 else ((if (μ 68 0 ((a2).toNatClampNeg)) = 6 then 1 else 0) : Int32)) : Int32))]) (st' := []) (s' := μ) rfl (fun c55 => ?_) (fun c55 => ?_)
          · skip
            exact hE54.2 (fun z => z.elim c54 (fun z => z c55))
          · skip
            exact hE54.1 (Or.inr c55)
      refine ⟨fun c56 => ?_, fun c56 => ?_⟩
      · skip
        refine xr_go 6 (pc' := 141) (ls' := [some (.inr (some (36, 0))), some (.inl a1), some (.inl a2), some (.inl a3), some (.inl a4), some (.inl a5), some (.inl a6), some (.inl ((if a3 = (μ 70 0 ((a2).toNatClampNeg)) then 1 else 0) : Int32)), some (.inl ((if (μ 68 0 ((a2).toNatClampNeg)) = 5 then 1 else ((if (μ 68 0 ((a2).toNatClampNeg)) = 6 then 1 else 0) : Int32)) : Int32))]) (st' := [.inl a2, .inr (some (71, 0)), .inl a2, .inr (some (72, 0))]) (s' := μ) rfl ?_
        refine xr_ial (n := 6) rfl rfl (hi.1) ?_
        refine xr_go 3 (pc' := 147) (ls' := [some (.inr (some (36, 0))), some (.inl a1), some (.inl a2), some (.inl a3), some (.inl a4), some (.inl a5), some (.inl a6), some (.inl ((if a3 = (μ 70 0 ((a2).toNatClampNeg)) then 1 else 0) : Int32)), some (.inl ((if (μ 68 0 ((a2).toNatClampNeg)) = 5 then 1 else ((if (μ 68 0 ((a2).toNatClampNeg)) = 6 then 1 else 0) : Int32)) : Int32))]) (st' := [.inl ((μ 71 0 ((a2).toNatClampNeg)) + (μ 36 0 0)), .inl a2, .inr (some (72, 0))]) (s' := μ) rfl ?_
        refine xr_ias (n := 6) rfl rfl (hi.1) ?_
        refine xr_br 2 (c := ((if (μ 68 0 ((a2).toNatClampNeg)) = 5 then 1 else ((if (μ 68 0 ((a2).toNatClampNeg)) = 6 then 1 else 0) : Int32)) : Int32) = 0) inferInstance (a := 163) (b := 153) (ls' := [some (.inr (some (36, 0))), some (.inl a1), some (.inl a2), some (.inl a3), some (.inl a4), some (.inl a5), some (.inl a6), some (.inl ((if a3 = (μ 70 0 ((a2).toNatClampNeg)) then 1 else 0) : Int32)), some (.inl ((if (μ 68 0 ((a2).toNatClampNeg)) = 5 then 1 else ((if (μ 68 0 ((a2).toNatClampNeg)) = 6 then 1 else 0) : Int32)) : Int32))]) (st' := []) (s' := (tm_wr μ 72 0 ((a2).toNatClampNeg) ((μ 71 0 ((a2).toNatClampNeg)) + (μ 36 0 0)))) rfl (fun c57 => ?_) (fun c57 => ?_)
        · skip
          refine xr_go 4 (pc' := 169) (ls' := [some (.inr (some (36, 0))), some (.inl a1), some (.inl a2), some (.inl a3), some (.inl a4), some (.inl a5), some (.inl a6), some (.inl ((if a3 = (μ 70 0 ((a2).toNatClampNeg)) then 1 else 0) : Int32)), some (.inl ((if (μ 68 0 ((a2).toNatClampNeg)) = 5 then 1 else ((if (μ 68 0 ((a2).toNatClampNeg)) = 6 then 1 else 0) : Int32)) : Int32))]) (st' := [.inl 3, .inl a2, .inr (some (68, 0))]) (s' := (tm_wr μ 72 0 ((a2).toNatClampNeg) ((μ 71 0 ((a2).toNatClampNeg)) + (μ 36 0 0)))) rfl ?_
          refine xr_ias (n := 6) rfl rfl (hi.1) ?_
          refine xr_go 6 (pc' := 178) (ls' := [some (.inr (some (36, 0))), some (.inl a1), some (.inl a2), some (.inl a3), some (.inl a4), some (.inl a5), some (.inl a6), some (.inl ((if a3 = (μ 70 0 ((a2).toNatClampNeg)) then 1 else 0) : Int32)), some (.inl ((if (μ 68 0 ((a2).toNatClampNeg)) = 5 then 1 else ((if (μ 68 0 ((a2).toNatClampNeg)) = 6 then 1 else 0) : Int32)) : Int32))]) (st' := [.inl 0, .inl a4, .inl 0, .inl a2, .inl 6, .inr (some (36, 0))]) (s' := (tm_wr (tm_wr μ 72 0 ((a2).toNatClampNeg) ((μ 71 0 ((a2).toNatClampNeg)) + (μ 36 0 0))) 68 0 ((a2).toNatClampNeg) 3)) rfl ?_
          refine xr_cl (y' := 135) (as := [.inr (some (36, 0)), .inl 6, .inl a2, .inl 0, .inl a4, .inl 0]) (r := []) rfl rfl ?_
          refine tf_135 (d := d + 2) (μ := (tm_wr (tm_wr μ 72 0 ((a2).toNatClampNeg) ((μ 71 0 ((a2).toNatClampNeg)) + (μ 36 0 0))) 68 0 ((a2).toNatClampNeg) 3)) (a1 := 6) (a2 := a2) (a3 := 0) (a4 := a4) (a5 := 0) (hi.2.2.2.2.2.2.2.2.2.2.2.2.2.2.2.2.1 c7 c11 c56 c57) ?_
          show xr_t (tm_I L xs) (d + 4) 164 181 [some (.inr (some (36, 0))), some (.inl a1), some (.inl a2), some (.inl a3), some (.inl a4), some (.inl a5), some (.inl a6), some (.inl ((if a3 = (μ 70 0 ((a2).toNatClampNeg)) then 1 else 0) : Int32)), some (.inl ((if (μ 68 0 ((a2).toNatClampNeg)) = 5 then 1 else ((if (μ 68 0 ((a2).toNatClampNeg)) = 6 then 1 else 0) : Int32)) : Int32))] [] (cs_135 6 a2 0 a4 0 (tm_wr (tm_wr μ 72 0 ((a2).toNatClampNeg) ((μ 71 0 ((a2).toNatClampNeg)) + (μ 36 0 0))) 68 0 ((a2).toNatClampNeg) 3)) Q
          generalize gμ68 : (cs_135 6 a2 0 a4 0 (tm_wr (tm_wr μ 72 0 ((a2).toNatClampNeg) ((μ 71 0 ((a2).toNatClampNeg)) + (μ 36 0 0))) 68 0 ((a2).toNatClampNeg) 3)) = μ68 at h hi ⊢
          refine xr_go 7 (pc' := 192) (ls' := [some (.inr (some (36, 0))), some (.inl a1), some (.inl a2), some (.inl a3), some (.inl a4), some (.inl a5), some (.inl a6), some (.inl ((if a3 = (μ 70 0 ((a2).toNatClampNeg)) then 1 else 0) : Int32)), some (.inl ((if (μ 68 0 ((a2).toNatClampNeg)) = 5 then 1 else ((if (μ 68 0 ((a2).toNatClampNeg)) = 6 then 1 else 0) : Int32)) : Int32))]) (st' := [.inl ((μ68 36 0 3) + 3), .inl a2, .inr (some (73, 0))]) (s' := μ68) rfl ?_
          refine xr_ias (n := 6) rfl rfl (hi.1) ?_
          refine xr_go 1 (pc' := 348) (ls' := [some (.inr (some (36, 0))), some (.inl a1), some (.inl a2), some (.inl a3), some (.inl a4), some (.inl a5), some (.inl a6), some (.inl ((if a3 = (μ 70 0 ((a2).toNatClampNeg)) then 1 else 0) : Int32)), some (.inl ((if (μ 68 0 ((a2).toNatClampNeg)) = 5 then 1 else ((if (μ 68 0 ((a2).toNatClampNeg)) = 6 then 1 else 0) : Int32)) : Int32))]) (st' := []) (s' := (tm_wr μ68 73 0 ((a2).toNatClampNeg) ((μ68 36 0 3) + 3))) rfl ?_
          try simp only [if_pos c7, if_neg c11, if_pos c56, if_pos c57] at h
          exact xr_rt (v := none) rfl h
        · skip
          refine xr_go 4 (pc' := 159) (ls' := [some (.inr (some (36, 0))), some (.inl a1), some (.inl a2), some (.inl a3), some (.inl a4), some (.inl a5), some (.inl a6), some (.inl ((if a3 = (μ 70 0 ((a2).toNatClampNeg)) then 1 else 0) : Int32)), some (.inl ((if (μ 68 0 ((a2).toNatClampNeg)) = 5 then 1 else ((if (μ 68 0 ((a2).toNatClampNeg)) = 6 then 1 else 0) : Int32)) : Int32))]) (st' := [.inl 4, .inl a2, .inr (some (68, 0))]) (s' := (tm_wr μ 72 0 ((a2).toNatClampNeg) ((μ 71 0 ((a2).toNatClampNeg)) + (μ 36 0 0)))) rfl ?_
          refine xr_ias (n := 6) rfl rfl (hi.1) ?_
          refine xr_go 1 (pc' := 348) (ls' := [some (.inr (some (36, 0))), some (.inl a1), some (.inl a2), some (.inl a3), some (.inl a4), some (.inl a5), some (.inl a6), some (.inl ((if a3 = (μ 70 0 ((a2).toNatClampNeg)) then 1 else 0) : Int32)), some (.inl ((if (μ 68 0 ((a2).toNatClampNeg)) = 5 then 1 else ((if (μ 68 0 ((a2).toNatClampNeg)) = 6 then 1 else 0) : Int32)) : Int32))]) (st' := []) (s' := (tm_wr (tm_wr μ 72 0 ((a2).toNatClampNeg) ((μ 71 0 ((a2).toNatClampNeg)) + (μ 36 0 0))) 68 0 ((a2).toNatClampNeg) 4)) rfl ?_
          try simp only [if_pos c7, if_neg c11, if_pos c56, if_neg c57] at h
          exact xr_rt (v := none) rfl h
      · skip
        suffices hE58 : (((¬ (a1 = 4)) ∨ (((if a3 = (μ 70 0 ((a2).toNatClampNeg)) then 1 else 0) : Int32) = 0)) → xr_t (tm_I L xs) (d + 4) 164 229 [some (.inr (some (36, 0))), some (.inl a1), some (.inl a2), some (.inl a3), some (.inl a4), some (.inl a5), some (.inl a6), some (.inl ((if a3 = (μ 70 0 ((a2).toNatClampNeg)) then 1 else 0) : Int32)), some (.inl ((if (μ 68 0 ((a2).toNatClampNeg)) = 5 then 1 else ((if (μ 68 0 ((a2).toNatClampNeg)) = 6 then 1 else 0) : Int32)) : Int32))] [] μ Q) ∧ (¬ ((¬ (a1 = 4)) ∨ (((if a3 = (μ 70 0 ((a2).toNatClampNeg)) then 1 else 0) : Int32) = 0)) → xr_t (tm_I L xs) (d + 4) 164 206 [some (.inr (some (36, 0))), some (.inl a1), some (.inl a2), some (.inl a3), some (.inl a4), some (.inl a5), some (.inl a6), some (.inl ((if a3 = (μ 70 0 ((a2).toNatClampNeg)) then 1 else 0) : Int32)), some (.inl ((if (μ 68 0 ((a2).toNatClampNeg)) = 5 then 1 else ((if (μ 68 0 ((a2).toNatClampNeg)) = 6 then 1 else 0) : Int32)) : Int32))] [] μ Q) by
          refine xr_br 3 (c := a1 = 4) inferInstance (a := 201) (b := 229) (ls' := [some (.inr (some (36, 0))), some (.inl a1), some (.inl a2), some (.inl a3), some (.inl a4), some (.inl a5), some (.inl a6), some (.inl ((if a3 = (μ 70 0 ((a2).toNatClampNeg)) then 1 else 0) : Int32)), some (.inl ((if (μ 68 0 ((a2).toNatClampNeg)) = 5 then 1 else ((if (μ 68 0 ((a2).toNatClampNeg)) = 6 then 1 else 0) : Int32)) : Int32))]) (st' := []) (s' := μ) rfl (fun c58 => ?_) (fun c58 => ?_)
          · skip
            refine xr_br 2 (c := ((if a3 = (μ 70 0 ((a2).toNatClampNeg)) then 1 else 0) : Int32) = 0) inferInstance (a := 229) (b := 206) (ls' := [some (.inr (some (36, 0))), some (.inl a1), some (.inl a2), some (.inl a3), some (.inl a4), some (.inl a5), some (.inl a6), some (.inl ((if a3 = (μ 70 0 ((a2).toNatClampNeg)) then 1 else 0) : Int32)), some (.inl ((if (μ 68 0 ((a2).toNatClampNeg)) = 5 then 1 else ((if (μ 68 0 ((a2).toNatClampNeg)) = 6 then 1 else 0) : Int32)) : Int32))]) (st' := []) (s' := μ) rfl (fun c59 => ?_) (fun c59 => ?_)
            · skip
              exact hE58.1 (Or.inr c59)
            · skip
              exact hE58.2 (fun z => z.elim (fun w => w c58) c59)
          · skip
            exact hE58.1 (Or.inl c58)
        refine ⟨fun c60 => ?_, fun c60 => ?_⟩
        · skip
          suffices hE61 : (((¬ (a1 = 7)) ∨ ((¬ ((μ 68 0 ((a2).toNatClampNeg)) = 3)) ∨ (¬ (a4 = (μ 69 0 ((a2).toNatClampNeg)))))) → xr_t (tm_I L xs) (d + 4) 164 264 [some (.inr (some (36, 0))), some (.inl a1), some (.inl a2), some (.inl a3), some (.inl a4), some (.inl a5), some (.inl a6), some (.inl ((if a3 = (μ 70 0 ((a2).toNatClampNeg)) then 1 else 0) : Int32)), some (.inl ((if (μ 68 0 ((a2).toNatClampNeg)) = 5 then 1 else ((if (μ 68 0 ((a2).toNatClampNeg)) = 6 then 1 else 0) : Int32)) : Int32))] [] μ Q) ∧ (¬ ((¬ (a1 = 7)) ∨ ((¬ ((μ 68 0 ((a2).toNatClampNeg)) = 3)) ∨ (¬ (a4 = (μ 69 0 ((a2).toNatClampNeg)))))) → xr_t (tm_I L xs) (d + 4) 164 256 [some (.inr (some (36, 0))), some (.inl a1), some (.inl a2), some (.inl a3), some (.inl a4), some (.inl a5), some (.inl a6), some (.inl ((if a3 = (μ 70 0 ((a2).toNatClampNeg)) then 1 else 0) : Int32)), some (.inl ((if (μ 68 0 ((a2).toNatClampNeg)) = 5 then 1 else ((if (μ 68 0 ((a2).toNatClampNeg)) = 6 then 1 else 0) : Int32)) : Int32))] [] μ Q) by
            refine xr_br 3 (c := a1 = 7) inferInstance (a := 235) (b := 264) (ls' := [some (.inr (some (36, 0))), some (.inl a1), some (.inl a2), some (.inl a3), some (.inl a4), some (.inl a5), some (.inl a6), some (.inl ((if a3 = (μ 70 0 ((a2).toNatClampNeg)) then 1 else 0) : Int32)), some (.inl ((if (μ 68 0 ((a2).toNatClampNeg)) = 5 then 1 else ((if (μ 68 0 ((a2).toNatClampNeg)) = 6 then 1 else 0) : Int32)) : Int32))]) (st' := []) (s' := μ) rfl (fun c61 => ?_) (fun c61 => ?_)
            · skip
              refine xr_go 3 (pc' := 240) (ls' := [some (.inr (some (36, 0))), some (.inl a1), some (.inl a2), some (.inl a3), some (.inl a4), some (.inl a5), some (.inl a6), some (.inl ((if a3 = (μ 70 0 ((a2).toNatClampNeg)) then 1 else 0) : Int32)), some (.inl ((if (μ 68 0 ((a2).toNatClampNeg)) = 5 then 1 else ((if (μ 68 0 ((a2).toNatClampNeg)) = 6 then 1 else 0) : Int32)) : Int32))]) (st' := [.inl a2, .inr (some (68, 0))]) (s' := μ) rfl ?_
              refine xr_ial (n := 6) rfl rfl (hi.1) ?_
              refine xr_br 2 (c := (μ 68 0 ((a2).toNatClampNeg)) = 3) inferInstance (a := 245) (b := 264) (ls' := [some (.inr (some (36, 0))), some (.inl a1), some (.inl a2), some (.inl a3), some (.inl a4), some (.inl a5), some (.inl a6), some (.inl ((if a3 = (μ 70 0 ((a2).toNatClampNeg)) then 1 else 0) : Int32)), some (.inl ((if (μ 68 0 ((a2).toNatClampNeg)) = 5 then 1 else ((if (μ 68 0 ((a2).toNatClampNeg)) = 6 then 1 else 0) : Int32)) : Int32))]) (st' := []) (s' := μ) rfl (fun c62 => ?_) (fun c62 => ?_)
              · skip
                refine xr_go 4 (pc' := 252) (ls' := [some (.inr (some (36, 0))), some (.inl a1), some (.inl a2), some (.inl a3), some (.inl a4), some (.inl a5), some (.inl a6), some (.inl ((if a3 = (μ 70 0 ((a2).toNatClampNeg)) then 1 else 0) : Int32)), some (.inl ((if (μ 68 0 ((a2).toNatClampNeg)) = 5 then 1 else ((if (μ 68 0 ((a2).toNatClampNeg)) = 6 then 1 else 0) : Int32)) : Int32))]) (st' := [.inl a2, .inr (some (69, 0)), .inl a4]) (s' := μ) rfl ?_
                refine xr_ial (n := 6) rfl rfl (hi.1) ?_
                refine xr_br 1 (c := a4 = (μ 69 0 ((a2).toNatClampNeg))) inferInstance (a := 256) (b := 264) (ls' := [some (.inr (some (36, 0))), some (.inl a1), some (.inl a2), some (.inl a3), some (.inl a4), some (.inl a5), some (.inl a6), some (.inl ((if a3 = (μ 70 0 ((a2).toNatClampNeg)) then 1 else 0) : Int32)), some (.inl ((if (μ 68 0 ((a2).toNatClampNeg)) = 5 then 1 else ((if (μ 68 0 ((a2).toNatClampNeg)) = 6 then 1 else 0) : Int32)) : Int32))]) (st' := []) (s' := μ) rfl (fun c63 => ?_) (fun c63 => ?_)
                · skip
                  exact hE61.2 (fun z => z.elim (fun w => w c61) (fun z => z.elim (fun w => w c62) (fun z => z c63)))
                · skip
                  exact hE61.1 (Or.inr (Or.inr c63))
              · skip
                exact hE61.1 (Or.inr (Or.inl c62))
            · skip
              exact hE61.1 (Or.inl c61)
          refine ⟨fun c64 => ?_, fun c64 => ?_⟩
          · skip
            refine xr_br 3 (c := a1 = 9) inferInstance (a := 276) (b := 270) (ls' := [some (.inr (some (36, 0))), some (.inl a1), some (.inl a2), some (.inl a3), some (.inl a4), some (.inl a5), some (.inl a6), some (.inl ((if a3 = (μ 70 0 ((a2).toNatClampNeg)) then 1 else 0) : Int32)), some (.inl ((if (μ 68 0 ((a2).toNatClampNeg)) = 5 then 1 else ((if (μ 68 0 ((a2).toNatClampNeg)) = 6 then 1 else 0) : Int32)) : Int32))]) (st' := []) (s' := μ) rfl (fun c65 => ?_) (fun c65 => ?_)
            · skip
              refine xr_go 2 (pc' := 278) (ls' := [some (.inr (some (36, 0))), some (.inl a1), some (.inl a2), some (.inl a3), some (.inl a4), some (.inl a5), some (.inl a6), some (.inl ((if a3 = (μ 70 0 ((a2).toNatClampNeg)) then 1 else 0) : Int32)), some (.inl ((if (μ 68 0 ((a2).toNatClampNeg)) = 5 then 1 else ((if (μ 68 0 ((a2).toNatClampNeg)) = 6 then 1 else 0) : Int32)) : Int32))]) (st' := [.inl a2, .inr (some (36, 0))]) (s' := μ) rfl ?_
              refine xr_cl (y' := 156) (as := [.inr (some (36, 0)), .inl a2]) (r := []) rfl rfl ?_
              refine tf_156 (d := d + 3) (μ := μ) (a1 := a2) (hi.2.2.2.2.2.2.2.2.2.2.2.2.2.2.2.2.2.1 c7 c11 c56 c60 c64 c65) ?_
              show xr_t (tm_I L xs) (d + 4) 164 281 [some (.inr (some (36, 0))), some (.inl a1), some (.inl a2), some (.inl a3), some (.inl a4), some (.inl a5), some (.inl a6), some (.inl ((if a3 = (μ 70 0 ((a2).toNatClampNeg)) then 1 else 0) : Int32)), some (.inl ((if (μ 68 0 ((a2).toNatClampNeg)) = 5 then 1 else ((if (μ 68 0 ((a2).toNatClampNeg)) = 6 then 1 else 0) : Int32)) : Int32))] [.inl (cv_156 a2 μ)] μ Q
              have z75 : (cv_156 a2 μ) = 0 ∨ (cv_156 a2 μ) = 1 := cz_156
              generalize gv75 : (cv_156 a2 μ) = v75 at h hi z75 ⊢
              suffices hE66 : (((v75 = 0) ∨ ((¬ ((μ 76 0 ((a2).toNatClampNeg)) = 1)) ∨ (¬ (a4 = (μ 51 0 (((μ 77 0 ((a2).toNatClampNeg)) : Int32).toNatClampNeg)))))) → xr_t (tm_I L xs) (d + 4) 164 348 [some (.inr (some (36, 0))), some (.inl a1), some (.inl a2), some (.inl a3), some (.inl a4), some (.inl a5), some (.inl a6), some (.inl ((if a3 = (μ 70 0 ((a2).toNatClampNeg)) then 1 else 0) : Int32)), some (.inl ((if (μ 68 0 ((a2).toNatClampNeg)) = 5 then 1 else ((if (μ 68 0 ((a2).toNatClampNeg)) = 6 then 1 else 0) : Int32)) : Int32))] [] μ Q) ∧ (¬ ((v75 = 0) ∨ ((¬ ((μ 76 0 ((a2).toNatClampNeg)) = 1)) ∨ (¬ (a4 = (μ 51 0 (((μ 77 0 ((a2).toNatClampNeg)) : Int32).toNatClampNeg)))))) → xr_t (tm_I L xs) (d + 4) 164 310 [some (.inr (some (36, 0))), some (.inl a1), some (.inl a2), some (.inl a3), some (.inl a4), some (.inl a5), some (.inl a6), some (.inl ((if a3 = (μ 70 0 ((a2).toNatClampNeg)) then 1 else 0) : Int32)), some (.inl ((if (μ 68 0 ((a2).toNatClampNeg)) = 5 then 1 else ((if (μ 68 0 ((a2).toNatClampNeg)) = 6 then 1 else 0) : Int32)) : Int32))] [] μ Q) by
                refine xr_br 1 (c := v75 = 0) inferInstance (a := 348) (b := 284) (ls' := [some (.inr (some (36, 0))), some (.inl a1), some (.inl a2), some (.inl a3), some (.inl a4), some (.inl a5), some (.inl a6), some (.inl ((if a3 = (μ 70 0 ((a2).toNatClampNeg)) then 1 else 0) : Int32)), some (.inl ((if (μ 68 0 ((a2).toNatClampNeg)) = 5 then 1 else ((if (μ 68 0 ((a2).toNatClampNeg)) = 6 then 1 else 0) : Int32)) : Int32))]) (st' := []) (s' := μ) rfl (fun c66 => ?_) (fun c66 => ?_)
                · skip
                  exact hE66.1 (Or.inl c66)
                · skip
                  refine xr_go 3 (pc' := 289) (ls' := [some (.inr (some (36, 0))), some (.inl a1), some (.inl a2), some (.inl a3), some (.inl a4), some (.inl a5), some (.inl a6), some (.inl ((if a3 = (μ 70 0 ((a2).toNatClampNeg)) then 1 else 0) : Int32)), some (.inl ((if (μ 68 0 ((a2).toNatClampNeg)) = 5 then 1 else ((if (μ 68 0 ((a2).toNatClampNeg)) = 6 then 1 else 0) : Int32)) : Int32))]) (st' := [.inl a2, .inr (some (76, 0))]) (s' := μ) rfl ?_
                  refine xr_ial (n := 6) rfl rfl (hi.1) ?_
                  refine xr_br 2 (c := (μ 76 0 ((a2).toNatClampNeg)) = 1) inferInstance (a := 294) (b := 348) (ls' := [some (.inr (some (36, 0))), some (.inl a1), some (.inl a2), some (.inl a3), some (.inl a4), some (.inl a5), some (.inl a6), some (.inl ((if a3 = (μ 70 0 ((a2).toNatClampNeg)) then 1 else 0) : Int32)), some (.inl ((if (μ 68 0 ((a2).toNatClampNeg)) = 5 then 1 else ((if (μ 68 0 ((a2).toNatClampNeg)) = 6 then 1 else 0) : Int32)) : Int32))]) (st' := []) (s' := μ) rfl (fun c67 => ?_) (fun c67 => ?_)
                  · skip
                    refine xr_go 6 (pc' := 305) (ls' := [some (.inr (some (36, 0))), some (.inl a1), some (.inl a2), some (.inl a3), some (.inl a4), some (.inl a5), some (.inl a6), some (.inl ((if a3 = (μ 70 0 ((a2).toNatClampNeg)) then 1 else 0) : Int32)), some (.inl ((if (μ 68 0 ((a2).toNatClampNeg)) = 5 then 1 else ((if (μ 68 0 ((a2).toNatClampNeg)) = 6 then 1 else 0) : Int32)) : Int32))]) (st' := [.inl a2, .inr (some (77, 0)), .inr (some (51, 0)), .inl a4]) (s' := μ) rfl ?_
                    refine xr_ial (n := 6) rfl rfl (hi.1) ?_
                    refine xr_ial (n := 4) rfl rfl (hi.2.2.2.2.2.2.2.2.2.2.2.2.2.2.2.2.2.2.1 c7 c11 c56 c60 c64 c65 c66 c67) ?_
                    refine xr_br 1 (c := a4 = (μ 51 0 (((μ 77 0 ((a2).toNatClampNeg)) : Int32).toNatClampNeg))) inferInstance (a := 310) (b := 348) (ls' := [some (.inr (some (36, 0))), some (.inl a1), some (.inl a2), some (.inl a3), some (.inl a4), some (.inl a5), some (.inl a6), some (.inl ((if a3 = (μ 70 0 ((a2).toNatClampNeg)) then 1 else 0) : Int32)), some (.inl ((if (μ 68 0 ((a2).toNatClampNeg)) = 5 then 1 else ((if (μ 68 0 ((a2).toNatClampNeg)) = 6 then 1 else 0) : Int32)) : Int32))]) (st' := []) (s' := μ) rfl (fun c68 => ?_) (fun c68 => ?_)
                    · skip
                      exact hE66.2 (fun z => z.elim c66 (fun z => z.elim (fun w => w c67) (fun z => z c68)))
                    · skip
                      exact hE66.1 (Or.inr (Or.inr c68))
                  · skip
                    exact hE66.1 (Or.inr (Or.inl c67))
              refine ⟨fun c69 => ?_, fun c69 => ?_⟩
              · skip
                try simp only [if_pos c7, if_neg c11, if_neg c56, if_pos c60, if_pos c64, if_pos c65, if_pos c69] at h
                exact xr_rt (v := none) rfl h
              · skip
                refine xr_br 3 (c := a1 = 11) inferInstance (a := 316) (b := 326) (ls' := [some (.inr (some (36, 0))), some (.inl a1), some (.inl a2), some (.inl a3), some (.inl a4), some (.inl a5), some (.inl a6), some (.inl ((if a3 = (μ 70 0 ((a2).toNatClampNeg)) then 1 else 0) : Int32)), some (.inl ((if (μ 68 0 ((a2).toNatClampNeg)) = 5 then 1 else ((if (μ 68 0 ((a2).toNatClampNeg)) = 6 then 1 else 0) : Int32)) : Int32))]) (st' := []) (s' := μ) rfl (fun c70 => ?_) (fun c70 => ?_)
                · skip
                  refine xr_go 4 (pc' := 322) (ls' := [some (.inr (some (36, 0))), some (.inl a1), some (.inl a2), some (.inl a3), some (.inl a4), some (.inl a5), some (.inl a6), some (.inl ((if a3 = (μ 70 0 ((a2).toNatClampNeg)) then 1 else 0) : Int32)), some (.inl ((if (μ 68 0 ((a2).toNatClampNeg)) = 5 then 1 else ((if (μ 68 0 ((a2).toNatClampNeg)) = 6 then 1 else 0) : Int32)) : Int32))]) (st' := [.inl 3, .inl a2, .inr (some (76, 0))]) (s' := μ) rfl ?_
                  refine xr_ias (n := 6) rfl rfl (hi.1) ?_
                  refine xr_go 1 (pc' := 348) (ls' := [some (.inr (some (36, 0))), some (.inl a1), some (.inl a2), some (.inl a3), some (.inl a4), some (.inl a5), some (.inl a6), some (.inl ((if a3 = (μ 70 0 ((a2).toNatClampNeg)) then 1 else 0) : Int32)), some (.inl ((if (μ 68 0 ((a2).toNatClampNeg)) = 5 then 1 else ((if (μ 68 0 ((a2).toNatClampNeg)) = 6 then 1 else 0) : Int32)) : Int32))]) (st' := []) (s' := (tm_wr μ 76 0 ((a2).toNatClampNeg) 3)) rfl ?_
                  try simp only [if_pos c7, if_neg c11, if_neg c56, if_pos c60, if_pos c64, if_pos c65, if_neg c69, if_pos c70] at h
                  exact xr_rt (v := none) rfl h
                · skip
                  refine xr_go 4 (pc' := 333) (ls' := [some (.inr (some (36, 0))), some (.inl a1), some (.inl a2), some (.inl a3), some (.inl a4), some (.inl a5), some (.inl a6), some (.inl ((if a3 = (μ 70 0 ((a2).toNatClampNeg)) then 1 else 0) : Int32)), some (.inl ((if (μ 68 0 ((a2).toNatClampNeg)) = 5 then 1 else ((if (μ 68 0 ((a2).toNatClampNeg)) = 6 then 1 else 0) : Int32)) : Int32))]) (st' := [.inl a2, .inr (some (78, 0)), .inl a5]) (s' := μ) rfl ?_
                  refine xr_ial (n := 6) rfl rfl (hi.1) ?_
                  refine xr_br 1 (c := a5 = (μ 78 0 ((a2).toNatClampNeg))) inferInstance (a := 337) (b := 348) (ls' := [some (.inr (some (36, 0))), some (.inl a1), some (.inl a2), some (.inl a3), some (.inl a4), some (.inl a5), some (.inl a6), some (.inl ((if a3 = (μ 70 0 ((a2).toNatClampNeg)) then 1 else 0) : Int32)), some (.inl ((if (μ 68 0 ((a2).toNatClampNeg)) = 5 then 1 else ((if (μ 68 0 ((a2).toNatClampNeg)) = 6 then 1 else 0) : Int32)) : Int32))]) (st' := []) (s' := μ) rfl (fun c71 => ?_) (fun c71 => ?_)
                  · skip
                    refine xr_go 5 (pc' := 345) (ls' := [some (.inr (some (36, 0))), some (.inl a1), some (.inl a2), some (.inl a3), some (.inl a4), some (.inl a5), some (.inl a6), some (.inl ((if a3 = (μ 70 0 ((a2).toNatClampNeg)) then 1 else 0) : Int32)), some (.inl ((if (μ 68 0 ((a2).toNatClampNeg)) = 5 then 1 else ((if (μ 68 0 ((a2).toNatClampNeg)) = 6 then 1 else 0) : Int32)) : Int32))]) (st' := [.inl a6, .inl a5, .inl a4, .inl a2, .inr (some (36, 0))]) (s' := μ) rfl ?_
                    refine xr_cl (y' := 166) (as := [.inr (some (36, 0)), .inl a2, .inl a4, .inl a5, .inl a6]) (r := []) rfl rfl ?_
                    refine tf_166 (d := d + 0) (μ := μ) (a1 := a2) (a2 := a4) (a3 := a5) (a4 := a6) (hi.2.2.2.2.2.2.2.2.2.2.2.2.2.2.2.2.2.2.2.1 c7 c11 c56 c60 c64 c65 c69 c70 c71) ?_
                    show xr_t (tm_I L xs) (d + 4) 164 348 [some (.inr (some (36, 0))), some (.inl a1), some (.inl a2), some (.inl a3), some (.inl a4), some (.inl a5), some (.inl a6), some (.inl ((if a3 = (μ 70 0 ((a2).toNatClampNeg)) then 1 else 0) : Int32)), some (.inl ((if (μ 68 0 ((a2).toNatClampNeg)) = 5 then 1 else ((if (μ 68 0 ((a2).toNatClampNeg)) = 6 then 1 else 0) : Int32)) : Int32))] [] (cs_166 a2 a4 a5 a6 μ) Q
                    generalize gμ77 : (cs_166 a2 a4 a5 a6 μ) = μ77 at h hi ⊢
                    try simp only [if_pos c7, if_neg c11, if_neg c56, if_pos c60, if_pos c64, if_pos c65, if_neg c69, if_neg c70, if_pos c71] at h
                    exact xr_rt (v := none) rfl h
                  · skip
                    try simp only [if_pos c7, if_neg c11, if_neg c56, if_pos c60, if_pos c64, if_pos c65, if_neg c69, if_neg c70, if_neg c71] at h
                    exact xr_rt (v := none) rfl h
            · skip
              suffices hE72 : (((¬ (a1 = 11)) ∨ (((cv_156 a2 μ) = 0) ∨ ((¬ ((μ 76 0 ((a2).toNatClampNeg)) = 1)) ∨ (¬ (a4 = (μ 51 0 (((μ 77 0 ((a2).toNatClampNeg)) : Int32).toNatClampNeg))))))) → xr_t (tm_I L xs) (d + 4) 164 348 [some (.inr (some (36, 0))), some (.inl a1), some (.inl a2), some (.inl a3), some (.inl a4), some (.inl a5), some (.inl a6), some (.inl ((if a3 = (μ 70 0 ((a2).toNatClampNeg)) then 1 else 0) : Int32)), some (.inl ((if (μ 68 0 ((a2).toNatClampNeg)) = 5 then 1 else ((if (μ 68 0 ((a2).toNatClampNeg)) = 6 then 1 else 0) : Int32)) : Int32))] [] μ Q) ∧ (¬ ((¬ (a1 = 11)) ∨ (((cv_156 a2 μ) = 0) ∨ ((¬ ((μ 76 0 ((a2).toNatClampNeg)) = 1)) ∨ (¬ (a4 = (μ 51 0 (((μ 77 0 ((a2).toNatClampNeg)) : Int32).toNatClampNeg))))))) → xr_t (tm_I L xs) (d + 4) 164 310 [some (.inr (some (36, 0))), some (.inl a1), some (.inl a2), some (.inl a3), some (.inl a4), some (.inl a5), some (.inl a6), some (.inl ((if a3 = (μ 70 0 ((a2).toNatClampNeg)) then 1 else 0) : Int32)), some (.inl ((if (μ 68 0 ((a2).toNatClampNeg)) = 5 then 1 else ((if (μ 68 0 ((a2).toNatClampNeg)) = 6 then 1 else 0) : Int32)) : Int32))] [] μ Q) by
                refine xr_br 3 (c := a1 = 11) inferInstance (a := 276) (b := 348) (ls' := [some (.inr (some (36, 0))), some (.inl a1), some (.inl a2), some (.inl a3), some (.inl a4), some (.inl a5), some (.inl a6), some (.inl ((if a3 = (μ 70 0 ((a2).toNatClampNeg)) then 1 else 0) : Int32)), some (.inl ((if (μ 68 0 ((a2).toNatClampNeg)) = 5 then 1 else ((if (μ 68 0 ((a2).toNatClampNeg)) = 6 then 1 else 0) : Int32)) : Int32))]) (st' := []) (s' := μ) rfl (fun c72 => ?_) (fun c72 => ?_)
                · skip
                  refine xr_go 2 (pc' := 278) (ls' := [some (.inr (some (36, 0))), some (.inl a1), some (.inl a2), some (.inl a3), some (.inl a4), some (.inl a5), some (.inl a6), some (.inl ((if a3 = (μ 70 0 ((a2).toNatClampNeg)) then 1 else 0) : Int32)), some (.inl ((if (μ 68 0 ((a2).toNatClampNeg)) = 5 then 1 else ((if (μ 68 0 ((a2).toNatClampNeg)) = 6 then 1 else 0) : Int32)) : Int32))]) (st' := [.inl a2, .inr (some (36, 0))]) (s' := μ) rfl ?_
                  refine xr_cl (y' := 156) (as := [.inr (some (36, 0)), .inl a2]) (r := []) rfl rfl ?_
                  refine tf_156 (d := d + 3) (μ := μ) (a1 := a2) (hi.2.2.2.2.2.2.2.2.2.2.2.2.2.2.2.2.2.2.2.2.1 c7 c11 c56 c60 c64 c65 c72) ?_
                  show xr_t (tm_I L xs) (d + 4) 164 281 [some (.inr (some (36, 0))), some (.inl a1), some (.inl a2), some (.inl a3), some (.inl a4), some (.inl a5), some (.inl a6), some (.inl ((if a3 = (μ 70 0 ((a2).toNatClampNeg)) then 1 else 0) : Int32)), some (.inl ((if (μ 68 0 ((a2).toNatClampNeg)) = 5 then 1 else ((if (μ 68 0 ((a2).toNatClampNeg)) = 6 then 1 else 0) : Int32)) : Int32))] [.inl (cv_156 a2 μ)] μ Q
                  refine xr_br 1 (c := (cv_156 a2 μ) = 0) inferInstance (a := 348) (b := 284) (ls' := [some (.inr (some (36, 0))), some (.inl a1), some (.inl a2), some (.inl a3), some (.inl a4), some (.inl a5), some (.inl a6), some (.inl ((if a3 = (μ 70 0 ((a2).toNatClampNeg)) then 1 else 0) : Int32)), some (.inl ((if (μ 68 0 ((a2).toNatClampNeg)) = 5 then 1 else ((if (μ 68 0 ((a2).toNatClampNeg)) = 6 then 1 else 0) : Int32)) : Int32))]) (st' := []) (s' := μ) rfl (fun c73 => ?_) (fun c73 => ?_)
                  · skip
                    exact hE72.1 (Or.inr (Or.inl c73))
                  · skip
                    refine xr_go 3 (pc' := 289) (ls' := [some (.inr (some (36, 0))), some (.inl a1), some (.inl a2), some (.inl a3), some (.inl a4), some (.inl a5), some (.inl a6), some (.inl ((if a3 = (μ 70 0 ((a2).toNatClampNeg)) then 1 else 0) : Int32)), some (.inl ((if (μ 68 0 ((a2).toNatClampNeg)) = 5 then 1 else ((if (μ 68 0 ((a2).toNatClampNeg)) = 6 then 1 else 0) : Int32)) : Int32))]) (st' := [.inl a2, .inr (some (76, 0))]) (s' := μ) rfl ?_
                    refine xr_ial (n := 6) rfl rfl (hi.1) ?_
                    refine xr_br 2 (c := (μ 76 0 ((a2).toNatClampNeg)) = 1) inferInstance (a := 294) (b := 348) (ls' := [some (.inr (some (36, 0))), some (.inl a1), some (.inl a2), some (.inl a3), some (.inl a4), some (.inl a5), some (.inl a6), some (.inl ((if a3 = (μ 70 0 ((a2).toNatClampNeg)) then 1 else 0) : Int32)), some (.inl ((if (μ 68 0 ((a2).toNatClampNeg)) = 5 then 1 else ((if (μ 68 0 ((a2).toNatClampNeg)) = 6 then 1 else 0) : Int32)) : Int32))]) (st' := []) (s' := μ) rfl (fun c74 => ?_) (fun c74 => ?_)
                    · skip
                      refine xr_go 6 (pc' := 305) (ls' := [some (.inr (some (36, 0))), some (.inl a1), some (.inl a2), some (.inl a3), some (.inl a4), some (.inl a5), some (.inl a6), some (.inl ((if a3 = (μ 70 0 ((a2).toNatClampNeg)) then 1 else 0) : Int32)), some (.inl ((if (μ 68 0 ((a2).toNatClampNeg)) = 5 then 1 else ((if (μ 68 0 ((a2).toNatClampNeg)) = 6 then 1 else 0) : Int32)) : Int32))]) (st' := [.inl a2, .inr (some (77, 0)), .inr (some (51, 0)), .inl a4]) (s' := μ) rfl ?_
                      refine xr_ial (n := 6) rfl rfl (hi.1) ?_
                      refine xr_ial (n := 4) rfl rfl (hi.2.2.2.2.2.2.2.2.2.2.2.2.2.2.2.2.2.2.2.2.2.1 c7 c11 c56 c60 c64 c65 c72 c73 c74) ?_
                      refine xr_br 1 (c := a4 = (μ 51 0 (((μ 77 0 ((a2).toNatClampNeg)) : Int32).toNatClampNeg))) inferInstance (a := 310) (b := 348) (ls' := [some (.inr (some (36, 0))), some (.inl a1), some (.inl a2), some (.inl a3), some (.inl a4), some (.inl a5), some (.inl a6), some (.inl ((if a3 = (μ 70 0 ((a2).toNatClampNeg)) then 1 else 0) : Int32)), some (.inl ((if (μ 68 0 ((a2).toNatClampNeg)) = 5 then 1 else ((if (μ 68 0 ((a2).toNatClampNeg)) = 6 then 1 else 0) : Int32)) : Int32))]) (st' := []) (s' := μ) rfl (fun c75 => ?_) (fun c75 => ?_)
                      · skip
                        exact hE72.2 (fun z => z.elim (fun w => w c72) (fun z => z.elim c73 (fun z => z.elim (fun w => w c74) (fun z => z c75))))
                      · skip
                        exact hE72.1 (Or.inr (Or.inr (Or.inr c75)))
                    · skip
                      exact hE72.1 (Or.inr (Or.inr (Or.inl c74)))
                · skip
                  exact hE72.1 (Or.inl c72)
              refine ⟨fun c76 => ?_, fun c76 => ?_⟩
              · skip
                try simp only [if_pos c7, if_neg c11, if_neg c56, if_pos c60, if_pos c64, if_neg c65, if_pos c76] at h
                exact xr_rt (v := none) rfl h
              · skip
                refine xr_br 3 (c := a1 = 11) inferInstance (a := 316) (b := 326) (ls' := [some (.inr (some (36, 0))), some (.inl a1), some (.inl a2), some (.inl a3), some (.inl a4), some (.inl a5), some (.inl a6), some (.inl ((if a3 = (μ 70 0 ((a2).toNatClampNeg)) then 1 else 0) : Int32)), some (.inl ((if (μ 68 0 ((a2).toNatClampNeg)) = 5 then 1 else ((if (μ 68 0 ((a2).toNatClampNeg)) = 6 then 1 else 0) : Int32)) : Int32))]) (st' := []) (s' := μ) rfl (fun c77 => ?_) (fun c77 => ?_)
                · skip
                  refine xr_go 4 (pc' := 322) (ls' := [some (.inr (some (36, 0))), some (.inl a1), some (.inl a2), some (.inl a3), some (.inl a4), some (.inl a5), some (.inl a6), some (.inl ((if a3 = (μ 70 0 ((a2).toNatClampNeg)) then 1 else 0) : Int32)), some (.inl ((if (μ 68 0 ((a2).toNatClampNeg)) = 5 then 1 else ((if (μ 68 0 ((a2).toNatClampNeg)) = 6 then 1 else 0) : Int32)) : Int32))]) (st' := [.inl 3, .inl a2, .inr (some (76, 0))]) (s' := μ) rfl ?_
                  refine xr_ias (n := 6) rfl rfl (hi.1) ?_
                  refine xr_go 1 (pc' := 348) (ls' := [some (.inr (some (36, 0))), some (.inl a1), some (.inl a2), some (.inl a3), some (.inl a4), some (.inl a5), some (.inl a6), some (.inl ((if a3 = (μ 70 0 ((a2).toNatClampNeg)) then 1 else 0) : Int32)), some (.inl ((if (μ 68 0 ((a2).toNatClampNeg)) = 5 then 1 else ((if (μ 68 0 ((a2).toNatClampNeg)) = 6 then 1 else 0) : Int32)) : Int32))]) (st' := []) (s' := (tm_wr μ 76 0 ((a2).toNatClampNeg) 3)) rfl ?_
                  try simp only [if_pos c7, if_neg c11, if_neg c56, if_pos c60, if_pos c64, if_neg c65, if_neg c76, if_pos c77] at h
                  exact xr_rt (v := none) rfl h
                · skip
                  refine xr_go 4 (pc' := 333) (ls' := [some (.inr (some (36, 0))), some (.inl a1), some (.inl a2), some (.inl a3), some (.inl a4), some (.inl a5), some (.inl a6), some (.inl ((if a3 = (μ 70 0 ((a2).toNatClampNeg)) then 1 else 0) : Int32)), some (.inl ((if (μ 68 0 ((a2).toNatClampNeg)) = 5 then 1 else ((if (μ 68 0 ((a2).toNatClampNeg)) = 6 then 1 else 0) : Int32)) : Int32))]) (st' := [.inl a2, .inr (some (78, 0)), .inl a5]) (s' := μ) rfl ?_
                  refine xr_ial (n := 6) rfl rfl (hi.1) ?_
                  refine xr_br 1 (c := a5 = (μ 78 0 ((a2).toNatClampNeg))) inferInstance (a := 337) (b := 348) (ls' := [some (.inr (some (36, 0))), some (.inl a1), some (.inl a2), some (.inl a3), some (.inl a4), some (.inl a5), some (.inl a6), some (.inl ((if a3 = (μ 70 0 ((a2).toNatClampNeg)) then 1 else 0) : Int32)), some (.inl ((if (μ 68 0 ((a2).toNatClampNeg)) = 5 then 1 else ((if (μ 68 0 ((a2).toNatClampNeg)) = 6 then 1 else 0) : Int32)) : Int32))]) (st' := []) (s' := μ) rfl (fun c78 => ?_) (fun c78 => ?_)
                  · skip
                    refine xr_go 5 (pc' := 345) (ls' := [some (.inr (some (36, 0))), some (.inl a1), some (.inl a2), some (.inl a3), some (.inl a4), some (.inl a5), some (.inl a6), some (.inl ((if a3 = (μ 70 0 ((a2).toNatClampNeg)) then 1 else 0) : Int32)), some (.inl ((if (μ 68 0 ((a2).toNatClampNeg)) = 5 then 1 else ((if (μ 68 0 ((a2).toNatClampNeg)) = 6 then 1 else 0) : Int32)) : Int32))]) (st' := [.inl a6, .inl a5, .inl a4, .inl a2, .inr (some (36, 0))]) (s' := μ) rfl ?_
                    refine xr_cl (y' := 166) (as := [.inr (some (36, 0)), .inl a2, .inl a4, .inl a5, .inl a6]) (r := []) rfl rfl ?_
                    refine tf_166 (d := d + 0) (μ := μ) (a1 := a2) (a2 := a4) (a3 := a5) (a4 := a6) (hi.2.2.2.2.2.2.2.2.2.2.2.2.2.2.2.2.2.2.2.2.2.2.1 c7 c11 c56 c60 c64 c65 c76 c77 c78) ?_
                    show xr_t (tm_I L xs) (d + 4) 164 348 [some (.inr (some (36, 0))), some (.inl a1), some (.inl a2), some (.inl a3), some (.inl a4), some (.inl a5), some (.inl a6), some (.inl ((if a3 = (μ 70 0 ((a2).toNatClampNeg)) then 1 else 0) : Int32)), some (.inl ((if (μ 68 0 ((a2).toNatClampNeg)) = 5 then 1 else ((if (μ 68 0 ((a2).toNatClampNeg)) = 6 then 1 else 0) : Int32)) : Int32))] [] (cs_166 a2 a4 a5 a6 μ) Q
                    generalize gμ79 : (cs_166 a2 a4 a5 a6 μ) = μ79 at h hi ⊢
                    try simp only [if_pos c7, if_neg c11, if_neg c56, if_pos c60, if_pos c64, if_neg c65, if_neg c76, if_neg c77, if_pos c78] at h
                    exact xr_rt (v := none) rfl h
                  · skip
                    try simp only [if_pos c7, if_neg c11, if_neg c56, if_pos c60, if_pos c64, if_neg c65, if_neg c76, if_neg c77, if_neg c78] at h
                    exact xr_rt (v := none) rfl h
          · skip
            refine xr_go 2 (pc' := 258) (ls' := [some (.inr (some (36, 0))), some (.inl a1), some (.inl a2), some (.inl a3), some (.inl a4), some (.inl a5), some (.inl a6), some (.inl ((if a3 = (μ 70 0 ((a2).toNatClampNeg)) then 1 else 0) : Int32)), some (.inl ((if (μ 68 0 ((a2).toNatClampNeg)) = 5 then 1 else ((if (μ 68 0 ((a2).toNatClampNeg)) = 6 then 1 else 0) : Int32)) : Int32))]) (st' := [.inl a2, .inr (some (36, 0))]) (s' := μ) rfl ?_
            refine xr_cl (y' := 165) (as := [.inr (some (36, 0)), .inl a2]) (r := []) rfl rfl ?_
            refine tf_165 (d := d + 0) (μ := μ) (a1 := a2) (hi.2.2.2.2.2.2.2.2.2.2.2.2.2.2.2.2.2.2.2.2.2.2.2.1 c7 c11 c56 c60 c64) ?_
            show xr_t (tm_I L xs) (d + 4) 164 261 [some (.inr (some (36, 0))), some (.inl a1), some (.inl a2), some (.inl a3), some (.inl a4), some (.inl a5), some (.inl a6), some (.inl ((if a3 = (μ 70 0 ((a2).toNatClampNeg)) then 1 else 0) : Int32)), some (.inl ((if (μ 68 0 ((a2).toNatClampNeg)) = 5 then 1 else ((if (μ 68 0 ((a2).toNatClampNeg)) = 6 then 1 else 0) : Int32)) : Int32))] [] (cs_165 a2 μ) Q
            generalize gμ80 : (cs_165 a2 μ) = μ80 at h hi ⊢
            refine xr_go 1 (pc' := 348) (ls' := [some (.inr (some (36, 0))), some (.inl a1), some (.inl a2), some (.inl a3), some (.inl a4), some (.inl a5), some (.inl a6), some (.inl ((if a3 = (μ 70 0 ((a2).toNatClampNeg)) then 1 else 0) : Int32)), some (.inl ((if (μ 68 0 ((a2).toNatClampNeg)) = 5 then 1 else ((if (μ 68 0 ((a2).toNatClampNeg)) = 6 then 1 else 0) : Int32)) : Int32))]) (st' := []) (s' := μ80) rfl ?_
            try simp only [if_pos c7, if_neg c11, if_neg c56, if_pos c60, if_neg c64] at h
            exact xr_rt (v := none) rfl h
        · skip
          refine xr_go 3 (pc' := 211) (ls' := [some (.inr (some (36, 0))), some (.inl a1), some (.inl a2), some (.inl a3), some (.inl a4), some (.inl a5), some (.inl a6), some (.inl ((if a3 = (μ 70 0 ((a2).toNatClampNeg)) then 1 else 0) : Int32)), some (.inl ((if (μ 68 0 ((a2).toNatClampNeg)) = 5 then 1 else ((if (μ 68 0 ((a2).toNatClampNeg)) = 6 then 1 else 0) : Int32)) : Int32))]) (st' := [.inl a2, .inr (some (68, 0))]) (s' := μ) rfl ?_
          refine xr_ial (n := 6) rfl rfl (hi.1) ?_
          suffices hE79 : ((((μ 68 0 ((a2).toNatClampNeg)) = 2) ∨ (¬ (((if (μ 68 0 ((a2).toNatClampNeg)) = 5 then 1 else ((if (μ 68 0 ((a2).toNatClampNeg)) = 6 then 1 else 0) : Int32)) : Int32) = 0))) → xr_t (tm_I L xs) (d + 4) 164 221 [some (.inr (some (36, 0))), some (.inl a1), some (.inl a2), some (.inl a3), some (.inl a4), some (.inl a5), some (.inl a6), some (.inl ((if a3 = (μ 70 0 ((a2).toNatClampNeg)) then 1 else 0) : Int32)), some (.inl ((if (μ 68 0 ((a2).toNatClampNeg)) = 5 then 1 else ((if (μ 68 0 ((a2).toNatClampNeg)) = 6 then 1 else 0) : Int32)) : Int32))] [] μ Q) ∧ (¬ (((μ 68 0 ((a2).toNatClampNeg)) = 2) ∨ (¬ (((if (μ 68 0 ((a2).toNatClampNeg)) = 5 then 1 else ((if (μ 68 0 ((a2).toNatClampNeg)) = 6 then 1 else 0) : Int32)) : Int32) = 0))) → xr_t (tm_I L xs) (d + 4) 164 229 [some (.inr (some (36, 0))), some (.inl a1), some (.inl a2), some (.inl a3), some (.inl a4), some (.inl a5), some (.inl a6), some (.inl ((if a3 = (μ 70 0 ((a2).toNatClampNeg)) then 1 else 0) : Int32)), some (.inl ((if (μ 68 0 ((a2).toNatClampNeg)) = 5 then 1 else ((if (μ 68 0 ((a2).toNatClampNeg)) = 6 then 1 else 0) : Int32)) : Int32))] [] μ Q) by
            refine xr_br 2 (c := (μ 68 0 ((a2).toNatClampNeg)) = 2) inferInstance (a := 221) (b := 216) (ls' := [some (.inr (some (36, 0))), some (.inl a1), some (.inl a2), some (.inl a3), some (.inl a4), some (.inl a5), some (.inl a6), some (.inl ((if a3 = (μ 70 0 ((a2).toNatClampNeg)) then 1 else 0) : Int32)), some (.inl ((if (μ 68 0 ((a2).toNatClampNeg)) = 5 then 1 else ((if (μ 68 0 ((a2).toNatClampNeg)) = 6 then 1 else 0) : Int32)) : Int32))]) (st' := []) (s' := μ) rfl (fun c79 => ?_) (fun c79 => ?_)
            · skip
              exact hE79.1 (Or.inl c79)
            · skip
              refine xr_br 2 (c := ((if (μ 68 0 ((a2).toNatClampNeg)) = 5 then 1 else ((if (μ 68 0 ((a2).toNatClampNeg)) = 6 then 1 else 0) : Int32)) : Int32) = 0) inferInstance (a := 229) (b := 221) (ls' := [some (.inr (some (36, 0))), some (.inl a1), some (.inl a2), some (.inl a3), some (.inl a4), some (.inl a5), some (.inl a6), some (.inl ((if a3 = (μ 70 0 ((a2).toNatClampNeg)) then 1 else 0) : Int32)), some (.inl ((if (μ 68 0 ((a2).toNatClampNeg)) = 5 then 1 else ((if (μ 68 0 ((a2).toNatClampNeg)) = 6 then 1 else 0) : Int32)) : Int32))]) (st' := []) (s' := μ) rfl (fun c80 => ?_) (fun c80 => ?_)
              · skip
                exact hE79.2 (fun z => z.elim c79 (fun z => z c80))
              · skip
                exact hE79.1 (Or.inr c80)
          refine ⟨fun c81 => absurd c81 c56, fun _ => ?_⟩
          suffices hE82 : (((¬ (a1 = 7)) ∨ ((¬ ((μ 68 0 ((a2).toNatClampNeg)) = 3)) ∨ (¬ (a4 = (μ 69 0 ((a2).toNatClampNeg)))))) → xr_t (tm_I L xs) (d + 4) 164 264 [some (.inr (some (36, 0))), some (.inl a1), some (.inl a2), some (.inl a3), some (.inl a4), some (.inl a5), some (.inl a6), some (.inl ((if a3 = (μ 70 0 ((a2).toNatClampNeg)) then 1 else 0) : Int32)), some (.inl ((if (μ 68 0 ((a2).toNatClampNeg)) = 5 then 1 else ((if (μ 68 0 ((a2).toNatClampNeg)) = 6 then 1 else 0) : Int32)) : Int32))] [] μ Q) ∧ (¬ ((¬ (a1 = 7)) ∨ ((¬ ((μ 68 0 ((a2).toNatClampNeg)) = 3)) ∨ (¬ (a4 = (μ 69 0 ((a2).toNatClampNeg)))))) → xr_t (tm_I L xs) (d + 4) 164 256 [some (.inr (some (36, 0))), some (.inl a1), some (.inl a2), some (.inl a3), some (.inl a4), some (.inl a5), some (.inl a6), some (.inl ((if a3 = (μ 70 0 ((a2).toNatClampNeg)) then 1 else 0) : Int32)), some (.inl ((if (μ 68 0 ((a2).toNatClampNeg)) = 5 then 1 else ((if (μ 68 0 ((a2).toNatClampNeg)) = 6 then 1 else 0) : Int32)) : Int32))] [] μ Q) by
            refine xr_br 3 (c := a1 = 7) inferInstance (a := 235) (b := 264) (ls' := [some (.inr (some (36, 0))), some (.inl a1), some (.inl a2), some (.inl a3), some (.inl a4), some (.inl a5), some (.inl a6), some (.inl ((if a3 = (μ 70 0 ((a2).toNatClampNeg)) then 1 else 0) : Int32)), some (.inl ((if (μ 68 0 ((a2).toNatClampNeg)) = 5 then 1 else ((if (μ 68 0 ((a2).toNatClampNeg)) = 6 then 1 else 0) : Int32)) : Int32))]) (st' := []) (s' := μ) rfl (fun c82 => ?_) (fun c82 => ?_)
            · skip
              refine xr_go 3 (pc' := 240) (ls' := [some (.inr (some (36, 0))), some (.inl a1), some (.inl a2), some (.inl a3), some (.inl a4), some (.inl a5), some (.inl a6), some (.inl ((if a3 = (μ 70 0 ((a2).toNatClampNeg)) then 1 else 0) : Int32)), some (.inl ((if (μ 68 0 ((a2).toNatClampNeg)) = 5 then 1 else ((if (μ 68 0 ((a2).toNatClampNeg)) = 6 then 1 else 0) : Int32)) : Int32))]) (st' := [.inl a2, .inr (some (68, 0))]) (s' := μ) rfl ?_
              refine xr_ial (n := 6) rfl rfl (hi.1) ?_
              refine xr_br 2 (c := (μ 68 0 ((a2).toNatClampNeg)) = 3) inferInstance (a := 245) (b := 264) (ls' := [some (.inr (some (36, 0))), some (.inl a1), some (.inl a2), some (.inl a3), some (.inl a4), some (.inl a5), some (.inl a6), some (.inl ((if a3 = (μ 70 0 ((a2).toNatClampNeg)) then 1 else 0) : Int32)), some (.inl ((if (μ 68 0 ((a2).toNatClampNeg)) = 5 then 1 else ((if (μ 68 0 ((a2).toNatClampNeg)) = 6 then 1 else 0) : Int32)) : Int32))]) (st' := []) (s' := μ) rfl (fun c83 => ?_) (fun c83 => ?_)
              · skip
                refine xr_go 4 (pc' := 252) (ls' := [some (.inr (some (36, 0))), some (.inl a1), some (.inl a2), some (.inl a3), some (.inl a4), some (.inl a5), some (.inl a6), some (.inl ((if a3 = (μ 70 0 ((a2).toNatClampNeg)) then 1 else 0) : Int32)), some (.inl ((if (μ 68 0 ((a2).toNatClampNeg)) = 5 then 1 else ((if (μ 68 0 ((a2).toNatClampNeg)) = 6 then 1 else 0) : Int32)) : Int32))]) (st' := [.inl a2, .inr (some (69, 0)), .inl a4]) (s' := μ) rfl ?_
                refine xr_ial (n := 6) rfl rfl (hi.1) ?_
                refine xr_br 1 (c := a4 = (μ 69 0 ((a2).toNatClampNeg))) inferInstance (a := 256) (b := 264) (ls' := [some (.inr (some (36, 0))), some (.inl a1), some (.inl a2), some (.inl a3), some (.inl a4), some (.inl a5), some (.inl a6), some (.inl ((if a3 = (μ 70 0 ((a2).toNatClampNeg)) then 1 else 0) : Int32)), some (.inl ((if (μ 68 0 ((a2).toNatClampNeg)) = 5 then 1 else ((if (μ 68 0 ((a2).toNatClampNeg)) = 6 then 1 else 0) : Int32)) : Int32))]) (st' := []) (s' := μ) rfl (fun c84 => ?_) (fun c84 => ?_)
                · skip
                  exact hE82.2 (fun z => z.elim (fun w => w c82) (fun z => z.elim (fun w => w c83) (fun z => z c84)))
                · skip
                  exact hE82.1 (Or.inr (Or.inr c84))
              · skip
                exact hE82.1 (Or.inr (Or.inl c83))
            · skip
              exact hE82.1 (Or.inl c82)
          refine ⟨fun c85 => ?_, fun c85 => ?_⟩
          · skip
            refine xr_br 3 (c := a1 = 9) inferInstance (a := 276) (b := 270) (ls' := [some (.inr (some (36, 0))), some (.inl a1), some (.inl a2), some (.inl a3), some (.inl a4), some (.inl a5), some (.inl a6), some (.inl ((if a3 = (μ 70 0 ((a2).toNatClampNeg)) then 1 else 0) : Int32)), some (.inl ((if (μ 68 0 ((a2).toNatClampNeg)) = 5 then 1 else ((if (μ 68 0 ((a2).toNatClampNeg)) = 6 then 1 else 0) : Int32)) : Int32))]) (st' := []) (s' := μ) rfl (fun c86 => ?_) (fun c86 => ?_)
            · skip
              refine xr_go 2 (pc' := 278) (ls' := [some (.inr (some (36, 0))), some (.inl a1), some (.inl a2), some (.inl a3), some (.inl a4), some (.inl a5), some (.inl a6), some (.inl ((if a3 = (μ 70 0 ((a2).toNatClampNeg)) then 1 else 0) : Int32)), some (.inl ((if (μ 68 0 ((a2).toNatClampNeg)) = 5 then 1 else ((if (μ 68 0 ((a2).toNatClampNeg)) = 6 then 1 else 0) : Int32)) : Int32))]) (st' := [.inl a2, .inr (some (36, 0))]) (s' := μ) rfl ?_
              refine xr_cl (y' := 156) (as := [.inr (some (36, 0)), .inl a2]) (r := []) rfl rfl ?_
              refine tf_156 (d := d + 3) (μ := μ) (a1 := a2) (hi.2.2.2.2.2.2.2.2.2.2.2.2.2.2.2.2.2.2.2.2.2.2.2.2.1 c7 c11 c56 c60 c85 c86) ?_
              show xr_t (tm_I L xs) (d + 4) 164 281 [some (.inr (some (36, 0))), some (.inl a1), some (.inl a2), some (.inl a3), some (.inl a4), some (.inl a5), some (.inl a6), some (.inl ((if a3 = (μ 70 0 ((a2).toNatClampNeg)) then 1 else 0) : Int32)), some (.inl ((if (μ 68 0 ((a2).toNatClampNeg)) = 5 then 1 else ((if (μ 68 0 ((a2).toNatClampNeg)) = 6 then 1 else 0) : Int32)) : Int32))] [.inl (cv_156 a2 μ)] μ Q
              have z84 : (cv_156 a2 μ) = 0 ∨ (cv_156 a2 μ) = 1 := cz_156
              generalize gv84 : (cv_156 a2 μ) = v84 at h hi z84 ⊢
              suffices hE87 : (((v84 = 0) ∨ ((¬ ((μ 76 0 ((a2).toNatClampNeg)) = 1)) ∨ (¬ (a4 = (μ 51 0 (((μ 77 0 ((a2).toNatClampNeg)) : Int32).toNatClampNeg)))))) → xr_t (tm_I L xs) (d + 4) 164 348 [some (.inr (some (36, 0))), some (.inl a1), some (.inl a2), some (.inl a3), some (.inl a4), some (.inl a5), some (.inl a6), some (.inl ((if a3 = (μ 70 0 ((a2).toNatClampNeg)) then 1 else 0) : Int32)), some (.inl ((if (μ 68 0 ((a2).toNatClampNeg)) = 5 then 1 else ((if (μ 68 0 ((a2).toNatClampNeg)) = 6 then 1 else 0) : Int32)) : Int32))] [] μ Q) ∧ (¬ ((v84 = 0) ∨ ((¬ ((μ 76 0 ((a2).toNatClampNeg)) = 1)) ∨ (¬ (a4 = (μ 51 0 (((μ 77 0 ((a2).toNatClampNeg)) : Int32).toNatClampNeg)))))) → xr_t (tm_I L xs) (d + 4) 164 310 [some (.inr (some (36, 0))), some (.inl a1), some (.inl a2), some (.inl a3), some (.inl a4), some (.inl a5), some (.inl a6), some (.inl ((if a3 = (μ 70 0 ((a2).toNatClampNeg)) then 1 else 0) : Int32)), some (.inl ((if (μ 68 0 ((a2).toNatClampNeg)) = 5 then 1 else ((if (μ 68 0 ((a2).toNatClampNeg)) = 6 then 1 else 0) : Int32)) : Int32))] [] μ Q) by
                refine xr_br 1 (c := v84 = 0) inferInstance (a := 348) (b := 284) (ls' := [some (.inr (some (36, 0))), some (.inl a1), some (.inl a2), some (.inl a3), some (.inl a4), some (.inl a5), some (.inl a6), some (.inl ((if a3 = (μ 70 0 ((a2).toNatClampNeg)) then 1 else 0) : Int32)), some (.inl ((if (μ 68 0 ((a2).toNatClampNeg)) = 5 then 1 else ((if (μ 68 0 ((a2).toNatClampNeg)) = 6 then 1 else 0) : Int32)) : Int32))]) (st' := []) (s' := μ) rfl (fun c87 => ?_) (fun c87 => ?_)
                · skip
                  exact hE87.1 (Or.inl c87)
                · skip
                  refine xr_go 3 (pc' := 289) (ls' := [some (.inr (some (36, 0))), some (.inl a1), some (.inl a2), some (.inl a3), some (.inl a4), some (.inl a5), some (.inl a6), some (.inl ((if a3 = (μ 70 0 ((a2).toNatClampNeg)) then 1 else 0) : Int32)), some (.inl ((if (μ 68 0 ((a2).toNatClampNeg)) = 5 then 1 else ((if (μ 68 0 ((a2).toNatClampNeg)) = 6 then 1 else 0) : Int32)) : Int32))]) (st' := [.inl a2, .inr (some (76, 0))]) (s' := μ) rfl ?_
                  refine xr_ial (n := 6) rfl rfl (hi.1) ?_
                  refine xr_br 2 (c := (μ 76 0 ((a2).toNatClampNeg)) = 1) inferInstance (a := 294) (b := 348) (ls' := [some (.inr (some (36, 0))), some (.inl a1), some (.inl a2), some (.inl a3), some (.inl a4), some (.inl a5), some (.inl a6), some (.inl ((if a3 = (μ 70 0 ((a2).toNatClampNeg)) then 1 else 0) : Int32)), some (.inl ((if (μ 68 0 ((a2).toNatClampNeg)) = 5 then 1 else ((if (μ 68 0 ((a2).toNatClampNeg)) = 6 then 1 else 0) : Int32)) : Int32))]) (st' := []) (s' := μ) rfl (fun c88 => ?_) (fun c88 => ?_)
                  · skip
                    refine xr_go 6 (pc' := 305) (ls' := [some (.inr (some (36, 0))), some (.inl a1), some (.inl a2), some (.inl a3), some (.inl a4), some (.inl a5), some (.inl a6), some (.inl ((if a3 = (μ 70 0 ((a2).toNatClampNeg)) then 1 else 0) : Int32)), some (.inl ((if (μ 68 0 ((a2).toNatClampNeg)) = 5 then 1 else ((if (μ 68 0 ((a2).toNatClampNeg)) = 6 then 1 else 0) : Int32)) : Int32))]) (st' := [.inl a2, .inr (some (77, 0)), .inr (some (51, 0)), .inl a4]) (s' := μ) rfl ?_
                    refine xr_ial (n := 6) rfl rfl (hi.1) ?_
                    refine xr_ial (n := 4) rfl rfl (hi.2.2.2.2.2.2.2.2.2.2.2.2.2.2.2.2.2.2.2.2.2.2.2.2.2.1 c7 c11 c56 c60 c85 c86 c87 c88) ?_
                    refine xr_br 1 (c := a4 = (μ 51 0 (((μ 77 0 ((a2).toNatClampNeg)) : Int32).toNatClampNeg))) inferInstance (a := 310) (b := 348) (ls' := [some (.inr (some (36, 0))), some (.inl a1), some (.inl a2), some (.inl a3), some (.inl a4), some (.inl a5), some (.inl a6), some (.inl ((if a3 = (μ 70 0 ((a2).toNatClampNeg)) then 1 else 0) : Int32)), some (.inl ((if (μ 68 0 ((a2).toNatClampNeg)) = 5 then 1 else ((if (μ 68 0 ((a2).toNatClampNeg)) = 6 then 1 else 0) : Int32)) : Int32))]) (st' := []) (s' := μ) rfl (fun c89 => ?_) (fun c89 => ?_)
                    · skip
                      exact hE87.2 (fun z => z.elim c87 (fun z => z.elim (fun w => w c88) (fun z => z c89)))
                    · skip
                      exact hE87.1 (Or.inr (Or.inr c89))
                  · skip
                    exact hE87.1 (Or.inr (Or.inl c88))
              refine ⟨fun c90 => ?_, fun c90 => ?_⟩
              · skip
                try simp only [if_pos c7, if_neg c11, if_neg c56, if_neg c60, if_pos c85, if_pos c86, if_pos c90] at h
                exact xr_rt (v := none) rfl h
              · skip
                refine xr_br 3 (c := a1 = 11) inferInstance (a := 316) (b := 326) (ls' := [some (.inr (some (36, 0))), some (.inl a1), some (.inl a2), some (.inl a3), some (.inl a4), some (.inl a5), some (.inl a6), some (.inl ((if a3 = (μ 70 0 ((a2).toNatClampNeg)) then 1 else 0) : Int32)), some (.inl ((if (μ 68 0 ((a2).toNatClampNeg)) = 5 then 1 else ((if (μ 68 0 ((a2).toNatClampNeg)) = 6 then 1 else 0) : Int32)) : Int32))]) (st' := []) (s' := μ) rfl (fun c91 => ?_) (fun c91 => ?_)
                · skip
                  refine xr_go 4 (pc' := 322) (ls' := [some (.inr (some (36, 0))), some (.inl a1), some (.inl a2), some (.inl a3), some (.inl a4), some (.inl a5), some (.inl a6), some (.inl ((if a3 = (μ 70 0 ((a2).toNatClampNeg)) then 1 else 0) : Int32)), some (.inl ((if (μ 68 0 ((a2).toNatClampNeg)) = 5 then 1 else ((if (μ 68 0 ((a2).toNatClampNeg)) = 6 then 1 else 0) : Int32)) : Int32))]) (st' := [.inl 3, .inl a2, .inr (some (76, 0))]) (s' := μ) rfl ?_
                  refine xr_ias (n := 6) rfl rfl (hi.1) ?_
                  refine xr_go 1 (pc' := 348) (ls' := [some (.inr (some (36, 0))), some (.inl a1), some (.inl a2), some (.inl a3), some (.inl a4), some (.inl a5), some (.inl a6), some (.inl ((if a3 = (μ 70 0 ((a2).toNatClampNeg)) then 1 else 0) : Int32)), some (.inl ((if (μ 68 0 ((a2).toNatClampNeg)) = 5 then 1 else ((if (μ 68 0 ((a2).toNatClampNeg)) = 6 then 1 else 0) : Int32)) : Int32))]) (st' := []) (s' := (tm_wr μ 76 0 ((a2).toNatClampNeg) 3)) rfl ?_
                  try simp only [if_pos c7, if_neg c11, if_neg c56, if_neg c60, if_pos c85, if_pos c86, if_neg c90, if_pos c91] at h
                  exact xr_rt (v := none) rfl h
                · skip
                  refine xr_go 4 (pc' := 333) (ls' := [some (.inr (some (36, 0))), some (.inl a1), some (.inl a2), some (.inl a3), some (.inl a4), some (.inl a5), some (.inl a6), some (.inl ((if a3 = (μ 70 0 ((a2).toNatClampNeg)) then 1 else 0) : Int32)), some (.inl ((if (μ 68 0 ((a2).toNatClampNeg)) = 5 then 1 else ((if (μ 68 0 ((a2).toNatClampNeg)) = 6 then 1 else 0) : Int32)) : Int32))]) (st' := [.inl a2, .inr (some (78, 0)), .inl a5]) (s' := μ) rfl ?_
                  refine xr_ial (n := 6) rfl rfl (hi.1) ?_
                  refine xr_br 1 (c := a5 = (μ 78 0 ((a2).toNatClampNeg))) inferInstance (a := 337) (b := 348) (ls' := [some (.inr (some (36, 0))), some (.inl a1), some (.inl a2), some (.inl a3), some (.inl a4), some (.inl a5), some (.inl a6), some (.inl ((if a3 = (μ 70 0 ((a2).toNatClampNeg)) then 1 else 0) : Int32)), some (.inl ((if (μ 68 0 ((a2).toNatClampNeg)) = 5 then 1 else ((if (μ 68 0 ((a2).toNatClampNeg)) = 6 then 1 else 0) : Int32)) : Int32))]) (st' := []) (s' := μ) rfl (fun c92 => ?_) (fun c92 => ?_)
                  · skip
                    refine xr_go 5 (pc' := 345) (ls' := [some (.inr (some (36, 0))), some (.inl a1), some (.inl a2), some (.inl a3), some (.inl a4), some (.inl a5), some (.inl a6), some (.inl ((if a3 = (μ 70 0 ((a2).toNatClampNeg)) then 1 else 0) : Int32)), some (.inl ((if (μ 68 0 ((a2).toNatClampNeg)) = 5 then 1 else ((if (μ 68 0 ((a2).toNatClampNeg)) = 6 then 1 else 0) : Int32)) : Int32))]) (st' := [.inl a6, .inl a5, .inl a4, .inl a2, .inr (some (36, 0))]) (s' := μ) rfl ?_
                    refine xr_cl (y' := 166) (as := [.inr (some (36, 0)), .inl a2, .inl a4, .inl a5, .inl a6]) (r := []) rfl rfl ?_
                    refine tf_166 (d := d + 0) (μ := μ) (a1 := a2) (a2 := a4) (a3 := a5) (a4 := a6) (hi.2.2.2.2.2.2.2.2.2.2.2.2.2.2.2.2.2.2.2.2.2.2.2.2.2.2.1 c7 c11 c56 c60 c85 c86 c90 c91 c92) ?_
                    show xr_t (tm_I L xs) (d + 4) 164 348 [some (.inr (some (36, 0))), some (.inl a1), some (.inl a2), some (.inl a3), some (.inl a4), some (.inl a5), some (.inl a6), some (.inl ((if a3 = (μ 70 0 ((a2).toNatClampNeg)) then 1 else 0) : Int32)), some (.inl ((if (μ 68 0 ((a2).toNatClampNeg)) = 5 then 1 else ((if (μ 68 0 ((a2).toNatClampNeg)) = 6 then 1 else 0) : Int32)) : Int32))] [] (cs_166 a2 a4 a5 a6 μ) Q
                    generalize gμ86 : (cs_166 a2 a4 a5 a6 μ) = μ86 at h hi ⊢
                    try simp only [if_pos c7, if_neg c11, if_neg c56, if_neg c60, if_pos c85, if_pos c86, if_neg c90, if_neg c91, if_pos c92] at h
                    exact xr_rt (v := none) rfl h
                  · skip
                    try simp only [if_pos c7, if_neg c11, if_neg c56, if_neg c60, if_pos c85, if_pos c86, if_neg c90, if_neg c91, if_neg c92] at h
                    exact xr_rt (v := none) rfl h
            · skip
              suffices hE93 : (((¬ (a1 = 11)) ∨ (((cv_156 a2 μ) = 0) ∨ ((¬ ((μ 76 0 ((a2).toNatClampNeg)) = 1)) ∨ (¬ (a4 = (μ 51 0 (((μ 77 0 ((a2).toNatClampNeg)) : Int32).toNatClampNeg))))))) → xr_t (tm_I L xs) (d + 4) 164 348 [some (.inr (some (36, 0))), some (.inl a1), some (.inl a2), some (.inl a3), some (.inl a4), some (.inl a5), some (.inl a6), some (.inl ((if a3 = (μ 70 0 ((a2).toNatClampNeg)) then 1 else 0) : Int32)), some (.inl ((if (μ 68 0 ((a2).toNatClampNeg)) = 5 then 1 else ((if (μ 68 0 ((a2).toNatClampNeg)) = 6 then 1 else 0) : Int32)) : Int32))] [] μ Q) ∧ (¬ ((¬ (a1 = 11)) ∨ (((cv_156 a2 μ) = 0) ∨ ((¬ ((μ 76 0 ((a2).toNatClampNeg)) = 1)) ∨ (¬ (a4 = (μ 51 0 (((μ 77 0 ((a2).toNatClampNeg)) : Int32).toNatClampNeg))))))) → xr_t (tm_I L xs) (d + 4) 164 310 [some (.inr (some (36, 0))), some (.inl a1), some (.inl a2), some (.inl a3), some (.inl a4), some (.inl a5), some (.inl a6), some (.inl ((if a3 = (μ 70 0 ((a2).toNatClampNeg)) then 1 else 0) : Int32)), some (.inl ((if (μ 68 0 ((a2).toNatClampNeg)) = 5 then 1 else ((if (μ 68 0 ((a2).toNatClampNeg)) = 6 then 1 else 0) : Int32)) : Int32))] [] μ Q) by
                refine xr_br 3 (c := a1 = 11) inferInstance (a := 276) (b := 348) (ls' := [some (.inr (some (36, 0))), some (.inl a1), some (.inl a2), some (.inl a3), some (.inl a4), some (.inl a5), some (.inl a6), some (.inl ((if a3 = (μ 70 0 ((a2).toNatClampNeg)) then 1 else 0) : Int32)), some (.inl ((if (μ 68 0 ((a2).toNatClampNeg)) = 5 then 1 else ((if (μ 68 0 ((a2).toNatClampNeg)) = 6 then 1 else 0) : Int32)) : Int32))]) (st' := []) (s' := μ) rfl (fun c93 => ?_) (fun c93 => ?_)
                · skip
                  refine xr_go 2 (pc' := 278) (ls' := [some (.inr (some (36, 0))), some (.inl a1), some (.inl a2), some (.inl a3), some (.inl a4), some (.inl a5), some (.inl a6), some (.inl ((if a3 = (μ 70 0 ((a2).toNatClampNeg)) then 1 else 0) : Int32)), some (.inl ((if (μ 68 0 ((a2).toNatClampNeg)) = 5 then 1 else ((if (μ 68 0 ((a2).toNatClampNeg)) = 6 then 1 else 0) : Int32)) : Int32))]) (st' := [.inl a2, .inr (some (36, 0))]) (s' := μ) rfl ?_
                  refine xr_cl (y' := 156) (as := [.inr (some (36, 0)), .inl a2]) (r := []) rfl rfl ?_
                  refine tf_156 (d := d + 3) (μ := μ) (a1 := a2) (hi.2.2.2.2.2.2.2.2.2.2.2.2.2.2.2.2.2.2.2.2.2.2.2.2.2.2.2.1 c7 c11 c56 c60 c85 c86 c93) ?_
                  show xr_t (tm_I L xs) (d + 4) 164 281 [some (.inr (some (36, 0))), some (.inl a1), some (.inl a2), some (.inl a3), some (.inl a4), some (.inl a5), some (.inl a6), some (.inl ((if a3 = (μ 70 0 ((a2).toNatClampNeg)) then 1 else 0) : Int32)), some (.inl ((if (μ 68 0 ((a2).toNatClampNeg)) = 5 then 1 else ((if (μ 68 0 ((a2).toNatClampNeg)) = 6 then 1 else 0) : Int32)) : Int32))] [.inl (cv_156 a2 μ)] μ Q
                  refine xr_br 1 (c := (cv_156 a2 μ) = 0) inferInstance (a := 348) (b := 284) (ls' := [some (.inr (some (36, 0))), some (.inl a1), some (.inl a2), some (.inl a3), some (.inl a4), some (.inl a5), some (.inl a6), some (.inl ((if a3 = (μ 70 0 ((a2).toNatClampNeg)) then 1 else 0) : Int32)), some (.inl ((if (μ 68 0 ((a2).toNatClampNeg)) = 5 then 1 else ((if (μ 68 0 ((a2).toNatClampNeg)) = 6 then 1 else 0) : Int32)) : Int32))]) (st' := []) (s' := μ) rfl (fun c94 => ?_) (fun c94 => ?_)
                  · skip
                    exact hE93.1 (Or.inr (Or.inl c94))
                  · skip
                    refine xr_go 3 (pc' := 289) (ls' := [some (.inr (some (36, 0))), some (.inl a1), some (.inl a2), some (.inl a3), some (.inl a4), some (.inl a5), some (.inl a6), some (.inl ((if a3 = (μ 70 0 ((a2).toNatClampNeg)) then 1 else 0) : Int32)), some (.inl ((if (μ 68 0 ((a2).toNatClampNeg)) = 5 then 1 else ((if (μ 68 0 ((a2).toNatClampNeg)) = 6 then 1 else 0) : Int32)) : Int32))]) (st' := [.inl a2, .inr (some (76, 0))]) (s' := μ) rfl ?_
                    refine xr_ial (n := 6) rfl rfl (hi.1) ?_
                    refine xr_br 2 (c := (μ 76 0 ((a2).toNatClampNeg)) = 1) inferInstance (a := 294) (b := 348) (ls' := [some (.inr (some (36, 0))), some (.inl a1), some (.inl a2), some (.inl a3), some (.inl a4), some (.inl a5), some (.inl a6), some (.inl ((if a3 = (μ 70 0 ((a2).toNatClampNeg)) then 1 else 0) : Int32)), some (.inl ((if (μ 68 0 ((a2).toNatClampNeg)) = 5 then 1 else ((if (μ 68 0 ((a2).toNatClampNeg)) = 6 then 1 else 0) : Int32)) : Int32))]) (st' := []) (s' := μ) rfl (fun c95 => ?_) (fun c95 => ?_)
                    · skip
                      refine xr_go 6 (pc' := 305) (ls' := [some (.inr (some (36, 0))), some (.inl a1), some (.inl a2), some (.inl a3), some (.inl a4), some (.inl a5), some (.inl a6), some (.inl ((if a3 = (μ 70 0 ((a2).toNatClampNeg)) then 1 else 0) : Int32)), some (.inl ((if (μ 68 0 ((a2).toNatClampNeg)) = 5 then 1 else ((if (μ 68 0 ((a2).toNatClampNeg)) = 6 then 1 else 0) : Int32)) : Int32))]) (st' := [.inl a2, .inr (some (77, 0)), .inr (some (51, 0)), .inl a4]) (s' := μ) rfl ?_
                      refine xr_ial (n := 6) rfl rfl (hi.1) ?_
                      refine xr_ial (n := 4) rfl rfl (hi.2.2.2.2.2.2.2.2.2.2.2.2.2.2.2.2.2.2.2.2.2.2.2.2.2.2.2.2.1 c7 c11 c56 c60 c85 c86 c93 c94 c95) ?_
                      refine xr_br 1 (c := a4 = (μ 51 0 (((μ 77 0 ((a2).toNatClampNeg)) : Int32).toNatClampNeg))) inferInstance (a := 310) (b := 348) (ls' := [some (.inr (some (36, 0))), some (.inl a1), some (.inl a2), some (.inl a3), some (.inl a4), some (.inl a5), some (.inl a6), some (.inl ((if a3 = (μ 70 0 ((a2).toNatClampNeg)) then 1 else 0) : Int32)), some (.inl ((if (μ 68 0 ((a2).toNatClampNeg)) = 5 then 1 else ((if (μ 68 0 ((a2).toNatClampNeg)) = 6 then 1 else 0) : Int32)) : Int32))]) (st' := []) (s' := μ) rfl (fun c96 => ?_) (fun c96 => ?_)
                      · skip
                        exact hE93.2 (fun z => z.elim (fun w => w c93) (fun z => z.elim c94 (fun z => z.elim (fun w => w c95) (fun z => z c96))))
                      · skip
                        exact hE93.1 (Or.inr (Or.inr (Or.inr c96)))
                    · skip
                      exact hE93.1 (Or.inr (Or.inr (Or.inl c95)))
                · skip
                  exact hE93.1 (Or.inl c93)
              refine ⟨fun c97 => ?_, fun c97 => ?_⟩
              · skip
                try simp only [if_pos c7, if_neg c11, if_neg c56, if_neg c60, if_pos c85, if_neg c86, if_pos c97] at h
                exact xr_rt (v := none) rfl h
              · skip
                refine xr_br 3 (c := a1 = 11) inferInstance (a := 316) (b := 326) (ls' := [some (.inr (some (36, 0))), some (.inl a1), some (.inl a2), some (.inl a3), some (.inl a4), some (.inl a5), some (.inl a6), some (.inl ((if a3 = (μ 70 0 ((a2).toNatClampNeg)) then 1 else 0) : Int32)), some (.inl ((if (μ 68 0 ((a2).toNatClampNeg)) = 5 then 1 else ((if (μ 68 0 ((a2).toNatClampNeg)) = 6 then 1 else 0) : Int32)) : Int32))]) (st' := []) (s' := μ) rfl (fun c98 => ?_) (fun c98 => ?_)
                · skip
                  refine xr_go 4 (pc' := 322) (ls' := [some (.inr (some (36, 0))), some (.inl a1), some (.inl a2), some (.inl a3), some (.inl a4), some (.inl a5), some (.inl a6), some (.inl ((if a3 = (μ 70 0 ((a2).toNatClampNeg)) then 1 else 0) : Int32)), some (.inl ((if (μ 68 0 ((a2).toNatClampNeg)) = 5 then 1 else ((if (μ 68 0 ((a2).toNatClampNeg)) = 6 then 1 else 0) : Int32)) : Int32))]) (st' := [.inl 3, .inl a2, .inr (some (76, 0))]) (s' := μ) rfl ?_
                  refine xr_ias (n := 6) rfl rfl (hi.1) ?_
                  refine xr_go 1 (pc' := 348) (ls' := [some (.inr (some (36, 0))), some (.inl a1), some (.inl a2), some (.inl a3), some (.inl a4), some (.inl a5), some (.inl a6), some (.inl ((if a3 = (μ 70 0 ((a2).toNatClampNeg)) then 1 else 0) : Int32)), some (.inl ((if (μ 68 0 ((a2).toNatClampNeg)) = 5 then 1 else ((if (μ 68 0 ((a2).toNatClampNeg)) = 6 then 1 else 0) : Int32)) : Int32))]) (st' := []) (s' := (tm_wr μ 76 0 ((a2).toNatClampNeg) 3)) rfl ?_
                  try simp only [if_pos c7, if_neg c11, if_neg c56, if_neg c60, if_pos c85, if_neg c86, if_neg c97, if_pos c98] at h
                  exact xr_rt (v := none) rfl h
                · skip
                  refine xr_go 4 (pc' := 333) (ls' := [some (.inr (some (36, 0))), some (.inl a1), some (.inl a2), some (.inl a3), some (.inl a4), some (.inl a5), some (.inl a6), some (.inl ((if a3 = (μ 70 0 ((a2).toNatClampNeg)) then 1 else 0) : Int32)), some (.inl ((if (μ 68 0 ((a2).toNatClampNeg)) = 5 then 1 else ((if (μ 68 0 ((a2).toNatClampNeg)) = 6 then 1 else 0) : Int32)) : Int32))]) (st' := [.inl a2, .inr (some (78, 0)), .inl a5]) (s' := μ) rfl ?_
                  refine xr_ial (n := 6) rfl rfl (hi.1) ?_
                  refine xr_br 1 (c := a5 = (μ 78 0 ((a2).toNatClampNeg))) inferInstance (a := 337) (b := 348) (ls' := [some (.inr (some (36, 0))), some (.inl a1), some (.inl a2), some (.inl a3), some (.inl a4), some (.inl a5), some (.inl a6), some (.inl ((if a3 = (μ 70 0 ((a2).toNatClampNeg)) then 1 else 0) : Int32)), some (.inl ((if (μ 68 0 ((a2).toNatClampNeg)) = 5 then 1 else ((if (μ 68 0 ((a2).toNatClampNeg)) = 6 then 1 else 0) : Int32)) : Int32))]) (st' := []) (s' := μ) rfl (fun c99 => ?_) (fun c99 => ?_)
                  · skip
                    refine xr_go 5 (pc' := 345) (ls' := [some (.inr (some (36, 0))), some (.inl a1), some (.inl a2), some (.inl a3), some (.inl a4), some (.inl a5), some (.inl a6), some (.inl ((if a3 = (μ 70 0 ((a2).toNatClampNeg)) then 1 else 0) : Int32)), some (.inl ((if (μ 68 0 ((a2).toNatClampNeg)) = 5 then 1 else ((if (μ 68 0 ((a2).toNatClampNeg)) = 6 then 1 else 0) : Int32)) : Int32))]) (st' := [.inl a6, .inl a5, .inl a4, .inl a2, .inr (some (36, 0))]) (s' := μ) rfl ?_
                    refine xr_cl (y' := 166) (as := [.inr (some (36, 0)), .inl a2, .inl a4, .inl a5, .inl a6]) (r := []) rfl rfl ?_
                    refine tf_166 (d := d + 0) (μ := μ) (a1 := a2) (a2 := a4) (a3 := a5) (a4 := a6) (hi.2.2.2.2.2.2.2.2.2.2.2.2.2.2.2.2.2.2.2.2.2.2.2.2.2.2.2.2.2.1 c7 c11 c56 c60 c85 c86 c97 c98 c99) ?_
                    show xr_t (tm_I L xs) (d + 4) 164 348 [some (.inr (some (36, 0))), some (.inl a1), some (.inl a2), some (.inl a3), some (.inl a4), some (.inl a5), some (.inl a6), some (.inl ((if a3 = (μ 70 0 ((a2).toNatClampNeg)) then 1 else 0) : Int32)), some (.inl ((if (μ 68 0 ((a2).toNatClampNeg)) = 5 then 1 else ((if (μ 68 0 ((a2).toNatClampNeg)) = 6 then 1 else 0) : Int32)) : Int32))] [] (cs_166 a2 a4 a5 a6 μ) Q
                    generalize gμ88 : (cs_166 a2 a4 a5 a6 μ) = μ88 at h hi ⊢
                    try simp only [if_pos c7, if_neg c11, if_neg c56, if_neg c60, if_pos c85, if_neg c86, if_neg c97, if_neg c98, if_pos c99] at h
                    exact xr_rt (v := none) rfl h
                  · skip
                    try simp only [if_pos c7, if_neg c11, if_neg c56, if_neg c60, if_pos c85, if_neg c86, if_neg c97, if_neg c98, if_neg c99] at h
                    exact xr_rt (v := none) rfl h
          · skip
            refine xr_go 2 (pc' := 258) (ls' := [some (.inr (some (36, 0))), some (.inl a1), some (.inl a2), some (.inl a3), some (.inl a4), some (.inl a5), some (.inl a6), some (.inl ((if a3 = (μ 70 0 ((a2).toNatClampNeg)) then 1 else 0) : Int32)), some (.inl ((if (μ 68 0 ((a2).toNatClampNeg)) = 5 then 1 else ((if (μ 68 0 ((a2).toNatClampNeg)) = 6 then 1 else 0) : Int32)) : Int32))]) (st' := [.inl a2, .inr (some (36, 0))]) (s' := μ) rfl ?_
            refine xr_cl (y' := 165) (as := [.inr (some (36, 0)), .inl a2]) (r := []) rfl rfl ?_
            refine tf_165 (d := d + 0) (μ := μ) (a1 := a2) (hi.2.2.2.2.2.2.2.2.2.2.2.2.2.2.2.2.2.2.2.2.2.2.2.2.2.2.2.2.2.2.1 c7 c11 c56 c60 c85) ?_
            show xr_t (tm_I L xs) (d + 4) 164 261 [some (.inr (some (36, 0))), some (.inl a1), some (.inl a2), some (.inl a3), some (.inl a4), some (.inl a5), some (.inl a6), some (.inl ((if a3 = (μ 70 0 ((a2).toNatClampNeg)) then 1 else 0) : Int32)), some (.inl ((if (μ 68 0 ((a2).toNatClampNeg)) = 5 then 1 else ((if (μ 68 0 ((a2).toNatClampNeg)) = 6 then 1 else 0) : Int32)) : Int32))] [] (cs_165 a2 μ) Q
            generalize gμ89 : (cs_165 a2 μ) = μ89 at h hi ⊢
            refine xr_go 1 (pc' := 348) (ls' := [some (.inr (some (36, 0))), some (.inl a1), some (.inl a2), some (.inl a3), some (.inl a4), some (.inl a5), some (.inl a6), some (.inl ((if a3 = (μ 70 0 ((a2).toNatClampNeg)) then 1 else 0) : Int32)), some (.inl ((if (μ 68 0 ((a2).toNatClampNeg)) = 5 then 1 else ((if (μ 68 0 ((a2).toNatClampNeg)) = 6 then 1 else 0) : Int32)) : Int32))]) (st' := []) (s' := μ89) rfl ?_
            try simp only [if_pos c7, if_neg c11, if_neg c56, if_neg c60, if_neg c85] at h
            exact xr_rt (v := none) rfl h
  · skip
    refine xr_go 4 (pc' := 72) (ls' := [some (.inr (some (36, 0))), some (.inl a1), some (.inl a2), some (.inl a3), some (.inl a4), some (.inl a5), some (.inl a6), some (.inl ((if a3 = (μ 70 0 ((a2).toNatClampNeg)) then 1 else 0) : Int32)), some (.inl ((if (μ 68 0 ((a2).toNatClampNeg)) = 5 then 1 else ((if (μ 68 0 ((a2).toNatClampNeg)) = 6 then 1 else 0) : Int32)) : Int32))]) (st' := [.inl a4, .inl a2, .inr (some (69, 0))]) (s' := μ) rfl ?_
    refine xr_ias (n := 6) rfl rfl (hi.1) ?_
    refine xr_go 4 (pc' := 79) (ls' := [some (.inr (some (36, 0))), some (.inl a1), some (.inl a2), some (.inl a3), some (.inl a4), some (.inl a5), some (.inl a6), some (.inl ((if a3 = (μ 70 0 ((a2).toNatClampNeg)) then 1 else 0) : Int32)), some (.inl ((if (μ 68 0 ((a2).toNatClampNeg)) = 5 then 1 else ((if (μ 68 0 ((a2).toNatClampNeg)) = 6 then 1 else 0) : Int32)) : Int32))]) (st' := [.inl 2, .inl a2, .inr (some (68, 0))]) (s' := (tm_wr μ 69 0 ((a2).toNatClampNeg) a4)) rfl ?_
    refine xr_ias (n := 6) rfl rfl (hi.1) ?_
    refine xr_go 4 (pc' := 86) (ls' := [some (.inr (some (36, 0))), some (.inl a1), some (.inl a2), some (.inl a3), some (.inl a4), some (.inl a5), some (.inl a6), some (.inl ((if a3 = (μ 70 0 ((a2).toNatClampNeg)) then 1 else 0) : Int32)), some (.inl ((if (μ 68 0 ((a2).toNatClampNeg)) = 5 then 1 else ((if (μ 68 0 ((a2).toNatClampNeg)) = 6 then 1 else 0) : Int32)) : Int32))]) (st' := [.inl 1, .inl a2, .inr (some (74, 0))]) (s' := (tm_wr (tm_wr μ 69 0 ((a2).toNatClampNeg) a4) 68 0 ((a2).toNatClampNeg) 2)) rfl ?_
    refine xr_ias (n := 6) rfl rfl (hi.1) ?_
    refine xr_go 2 (pc' := 89) (ls' := [some (.inr (some (36, 0))), some (.inl a1), some (.inl a2), some (.inl a3), some (.inl a4), some (.inl a5), some (.inl a6), some (.inl ((if a3 = (μ 70 0 ((a2).toNatClampNeg)) then 1 else 0) : Int32)), some (.inl ((if (μ 68 0 ((a2).toNatClampNeg)) = 5 then 1 else ((if (μ 68 0 ((a2).toNatClampNeg)) = 6 then 1 else 0) : Int32)) : Int32))]) (st' := [.inl a2, .inr (some (36, 0))]) (s' := (tm_wr (tm_wr (tm_wr μ 69 0 ((a2).toNatClampNeg) a4) 68 0 ((a2).toNatClampNeg) 2) 74 0 ((a2).toNatClampNeg) 1)) rfl ?_
    refine xr_cl (y' := 159) (as := [.inr (some (36, 0)), .inl a2]) (r := []) rfl rfl ?_
    refine tf_159 (d := d + 1) (μ := (tm_wr (tm_wr (tm_wr μ 69 0 ((a2).toNatClampNeg) a4) 68 0 ((a2).toNatClampNeg) 2) 74 0 ((a2).toNatClampNeg) 1)) (a1 := a2) (hi.2.2.2.2.2.2.2.2.2.2.2.2.2.2.2.2.2.2.2.2.2.2.2.2.2.2.2.2.2.2.2 c7) ?_
    show xr_t (tm_I L xs) (d + 4) 164 92 [some (.inr (some (36, 0))), some (.inl a1), some (.inl a2), some (.inl a3), some (.inl a4), some (.inl a5), some (.inl a6), some (.inl ((if a3 = (μ 70 0 ((a2).toNatClampNeg)) then 1 else 0) : Int32)), some (.inl ((if (μ 68 0 ((a2).toNatClampNeg)) = 5 then 1 else ((if (μ 68 0 ((a2).toNatClampNeg)) = 6 then 1 else 0) : Int32)) : Int32))] [] (cs_159 a2 (tm_wr (tm_wr (tm_wr μ 69 0 ((a2).toNatClampNeg) a4) 68 0 ((a2).toNatClampNeg) 2) 74 0 ((a2).toNatClampNeg) 1)) Q
    generalize gμ90 : (cs_159 a2 (tm_wr (tm_wr (tm_wr μ 69 0 ((a2).toNatClampNeg) a4) 68 0 ((a2).toNatClampNeg) 2) 74 0 ((a2).toNatClampNeg) 1)) = μ90 at h hi ⊢
    refine xr_go 1 (pc' := 348) (ls' := [some (.inr (some (36, 0))), some (.inl a1), some (.inl a2), some (.inl a3), some (.inl a4), some (.inl a5), some (.inl a6), some (.inl ((if a3 = (μ 70 0 ((a2).toNatClampNeg)) then 1 else 0) : Int32)), some (.inl ((if (μ 68 0 ((a2).toNatClampNeg)) = 5 then 1 else ((if (μ 68 0 ((a2).toNatClampNeg)) = 6 then 1 else 0) : Int32)) : Int32))]) (st' := []) (s' := μ90) rfl ?_
    try simp only [if_neg c7] at h
    exact xr_rt (v := none) rfl h
-- BootNetModel.deliver(I)I
def cv_139_169 (a1 : Int32) : Nat → Int32 → Int32 → Int32 → Int32 → Int32 → Int32 → Int32 → Int32 → Int32 → tm_M → Int32
  | 0, _, _, _, _, _, _, _, _, _, _ => 0
  | n + 1, l2, l3, l4, l5, l6, l7, l8, l9, l10, μ => (if (12 : Int32) ≤ l10 then l2 else (cv_139_169 a1 n l2 l3 l4 l5 l6 l7 l8 l9 (l10 + 1) (tm_wr μ 84 0 ((l10).toNatClampNeg) (μ 48 0 ((((12 * l9) + l10) : Int32).toNatClampNeg)))))
def cs_139_169 (a1 : Int32) : Nat → Int32 → Int32 → Int32 → Int32 → Int32 → Int32 → Int32 → Int32 → Int32 → tm_M → tm_M
  | 0, _, _, _, _, _, _, _, _, _, μ => μ
  | n + 1, l2, l3, l4, l5, l6, l7, l8, l9, l10, μ => (if (12 : Int32) ≤ l10 then (if (cv_133 l2 (tm_wr μ 36 0 9 ((μ 36 0 9) - 1))) = 0 then (if l2 = 6 then (cs_163 l3 l6 (tm_wr μ 36 0 9 ((μ 36 0 9) - 1))) else (cs_164 l2 l3 l5 l6 l7 l8 (tm_wr μ 36 0 9 ((μ 36 0 9) - 1)))) else (cs_146 l2 l3 l5 l6 l7 (tm_wr μ 36 0 9 ((μ 36 0 9) - 1)))) else (cs_139_169 a1 n l2 l3 l4 l5 l6 l7 l8 l9 (l10 + 1) (tm_wr μ 84 0 ((l10).toNatClampNeg) (μ 48 0 ((((12 * l9) + l10) : Int32).toNatClampNeg)))))
def ci_139_169 (a1 : Int32) : Nat → Int32 → Int32 → Int32 → Int32 → Int32 → Int32 → Int32 → Int32 → Int32 → tm_M → Prop
  | 0, _, _, _, _, _, _, _, _, _, _ => False
  | n + 1, l2, l3, l4, l5, l6, l7, l8, l9, l10, μ => (((12 : Int32) ≤ l10) → ((cv_133 l2 (tm_wr μ 36 0 9 ((μ 36 0 9) - 1))) = 0) → (l2 = 6) → ci_163 l3 l6 (tm_wr μ 36 0 9 ((μ 36 0 9) - 1))) ∧ (((12 : Int32) ≤ l10) → ((cv_133 l2 (tm_wr μ 36 0 9 ((μ 36 0 9) - 1))) = 0) → (¬ (l2 = 6)) → ci_164 l2 l3 l5 l6 l7 l8 (tm_wr μ 36 0 9 ((μ 36 0 9) - 1))) ∧ (((12 : Int32) ≤ l10) → (¬ ((cv_133 l2 (tm_wr μ 36 0 9 ((μ 36 0 9) - 1))) = 0)) → ci_146 l2 l3 l5 l6 l7 (tm_wr μ 36 0 9 ((μ 36 0 9) - 1))) ∧ ((¬ ((12 : Int32) ≤ l10)) → tm_ix ((12 * l9) + l10) 384 = true) ∧ ((¬ ((12 : Int32) ≤ l10)) → tm_ix l10 12 = true) ∧ ((¬ ((12 : Int32) ≤ l10)) → ci_139_169 a1 n l2 l3 l4 l5 l6 l7 l8 l9 (l10 + 1) (tm_wr μ 84 0 ((l10).toNatClampNeg) (μ 48 0 ((((12 * l9) + l10) : Int32).toNatClampNeg))))
set_option maxHeartbeats 4000000 in
set_option maxRecDepth 10000 in
theorem tl_139_169 {a1 : Int32} : ∀ (n : Nat) (l2 : Int32) (l3 : Int32) (l4 : Int32) (l5 : Int32) (l6 : Int32) (l7 : Int32) (l8 : Int32) (l9 : Int32) (l10 : Int32) (μ : tm_M), ci_139_169 a1 n l2 l3 l4 l5 l6 l7 l8 l9 l10 μ → Q (some (.inl (cv_139_169 a1 n l2 l3 l4 l5 l6 l7 l8 l9 l10 μ))) (cs_139_169 a1 n l2 l3 l4 l5 l6 l7 l8 l9 l10 μ) → xr_t (tm_I L xs) (d + 5) 139 169 [some (.inr (some (36, 0))), some (.inl a1), some (.inl l2), some (.inl l3), some (.inl l4), some (.inl l5), some (.inl l6), some (.inl l7), some (.inl l8), some (.inl l9), some (.inl l10)] [] μ Q := by
  intro n
  induction n with
  | zero => intro l2 l3 l4 l5 l6 l7 l8 l9 l10 μ hi; exact hi.elim
  | succ n ih =>
    intro l2 l3 l4 l5 l6 l7 l8 l9 l10 μ hi h
    unfold ci_139_169 at hi
    simp only [cv_139_169, cs_139_169] at h
    refine xr_br 3 (c := (12 : Int32) ≤ l10) inferInstance (a := 202) (b := 176) (ls' := [some (.inr (some (36, 0))), some (.inl a1), some (.inl l2), some (.inl l3), some (.inl l4), some (.inl l5), some (.inl l6), some (.inl l7), some (.inl l8), some (.inl l9), some (.inl l10)]) (st' := []) (s' := μ) rfl (fun c1 => ?_) (fun c1 => ?_)
    · skip
      refine xr_go 7 (pc' := 213) (ls' := [some (.inr (some (36, 0))), some (.inl a1), some (.inl l2), some (.inl l3), some (.inl l4), some (.inl l5), some (.inl l6), some (.inl l7), some (.inl l8), some (.inl l9), some (.inl l10)]) (st' := [.inl l2]) (s' := (tm_wr μ 36 0 9 ((μ 36 0 9) - 1))) rfl ?_
      refine xr_cl (y' := 133) (as := [.inl l2]) (r := []) rfl rfl ?_
      refine tf_133 (d := d + 4) (μ := (tm_wr μ 36 0 9 ((μ 36 0 9) - 1))) (a1 := l2) ?_
      show xr_t (tm_I L xs) (d + 5) 139 216 [some (.inr (some (36, 0))), some (.inl a1), some (.inl l2), some (.inl l3), some (.inl l4), some (.inl l5), some (.inl l6), some (.inl l7), some (.inl l8), some (.inl l9), some (.inl l10)] [.inl (cv_133 l2 (tm_wr μ 36 0 9 ((μ 36 0 9) - 1)))] (tm_wr μ 36 0 9 ((μ 36 0 9) - 1)) Q
      have z1 : (cv_133 l2 (tm_wr μ 36 0 9 ((μ 36 0 9) - 1))) = 0 ∨ (cv_133 l2 (tm_wr μ 36 0 9 ((μ 36 0 9) - 1))) = 1 := cz_133
      generalize gv1 : (cv_133 l2 (tm_wr μ 36 0 9 ((μ 36 0 9) - 1))) = v1 at h hi z1 ⊢
      refine xr_br 1 (c := v1 = 0) inferInstance (a := 234) (b := 219) (ls' := [some (.inr (some (36, 0))), some (.inl a1), some (.inl l2), some (.inl l3), some (.inl l4), some (.inl l5), some (.inl l6), some (.inl l7), some (.inl l8), some (.inl l9), some (.inl l10)]) (st' := []) (s' := (tm_wr μ 36 0 9 ((μ 36 0 9) - 1))) rfl (fun c2 => ?_) (fun c2 => ?_)
      · skip
        refine xr_br 3 (c := l2 = 6) inferInstance (a := 240) (b := 250) (ls' := [some (.inr (some (36, 0))), some (.inl a1), some (.inl l2), some (.inl l3), some (.inl l4), some (.inl l5), some (.inl l6), some (.inl l7), some (.inl l8), some (.inl l9), some (.inl l10)]) (st' := []) (s' := (tm_wr μ 36 0 9 ((μ 36 0 9) - 1))) rfl (fun c3 => ?_) (fun c3 => ?_)
        · skip
          refine xr_go 3 (pc' := 244) (ls' := [some (.inr (some (36, 0))), some (.inl a1), some (.inl l2), some (.inl l3), some (.inl l4), some (.inl l5), some (.inl l6), some (.inl l7), some (.inl l8), some (.inl l9), some (.inl l10)]) (st' := [.inl l6, .inl l3, .inr (some (36, 0))]) (s' := (tm_wr μ 36 0 9 ((μ 36 0 9) - 1))) rfl ?_
          refine xr_cl (y' := 163) (as := [.inr (some (36, 0)), .inl l3, .inl l6]) (r := []) rfl rfl ?_
          refine tf_163 (d := d + 2) (μ := (tm_wr μ 36 0 9 ((μ 36 0 9) - 1))) (a1 := l3) (a2 := l6) (hi.1 c1 c2 c3) ?_
          show xr_t (tm_I L xs) (d + 5) 139 247 [some (.inr (some (36, 0))), some (.inl a1), some (.inl l2), some (.inl l3), some (.inl l4), some (.inl l5), some (.inl l6), some (.inl l7), some (.inl l8), some (.inl l9), some (.inl l10)] [] (cs_163 l3 l6 (tm_wr μ 36 0 9 ((μ 36 0 9) - 1))) Q
          generalize gμ5 : (cs_163 l3 l6 (tm_wr μ 36 0 9 ((μ 36 0 9) - 1))) = μ5 at h hi ⊢
          refine xr_go 2 (pc' := 265) (ls' := [some (.inr (some (36, 0))), some (.inl a1), some (.inl l2), some (.inl l3), some (.inl l4), some (.inl l5), some (.inl l6), some (.inl l7), some (.inl l8), some (.inl l9), some (.inl l10)]) (st' := [.inl l2]) (s' := μ5) rfl ?_
          try simp only [if_pos c1, if_pos c2, if_pos c3] at h
          exact xr_rt (v := some (.inl l2)) rfl h
        · skip
          refine xr_go 7 (pc' := 261) (ls' := [some (.inr (some (36, 0))), some (.inl a1), some (.inl l2), some (.inl l3), some (.inl l4), some (.inl l5), some (.inl l6), some (.inl l7), some (.inl l8), some (.inl l9), some (.inl l10)]) (st' := [.inl l8, .inl l7, .inl l6, .inl l5, .inl l3, .inl l2, .inr (some (36, 0))]) (s' := (tm_wr μ 36 0 9 ((μ 36 0 9) - 1))) rfl ?_
          refine xr_cl (y' := 164) (as := [.inr (some (36, 0)), .inl l2, .inl l3, .inl l5, .inl l6, .inl l7, .inl l8]) (r := []) rfl rfl ?_
          refine tf_164 (d := d + 0) (μ := (tm_wr μ 36 0 9 ((μ 36 0 9) - 1))) (a1 := l2) (a2 := l3) (a3 := l5) (a4 := l6) (a5 := l7) (a6 := l8) (hi.2.1 c1 c2 c3) ?_
          show xr_t (tm_I L xs) (d + 5) 139 264 [some (.inr (some (36, 0))), some (.inl a1), some (.inl l2), some (.inl l3), some (.inl l4), some (.inl l5), some (.inl l6), some (.inl l7), some (.inl l8), some (.inl l9), some (.inl l10)] [] (cs_164 l2 l3 l5 l6 l7 l8 (tm_wr μ 36 0 9 ((μ 36 0 9) - 1))) Q
          generalize gμ6 : (cs_164 l2 l3 l5 l6 l7 l8 (tm_wr μ 36 0 9 ((μ 36 0 9) - 1))) = μ6 at h hi ⊢
          refine xr_go 1 (pc' := 265) (ls' := [some (.inr (some (36, 0))), some (.inl a1), some (.inl l2), some (.inl l3), some (.inl l4), some (.inl l5), some (.inl l6), some (.inl l7), some (.inl l8), some (.inl l9), some (.inl l10)]) (st' := [.inl l2]) (s' := μ6) rfl ?_
          try simp only [if_pos c1, if_pos c2, if_neg c3] at h
          exact xr_rt (v := some (.inl l2)) rfl h
      · skip
        refine xr_go 6 (pc' := 228) (ls' := [some (.inr (some (36, 0))), some (.inl a1), some (.inl l2), some (.inl l3), some (.inl l4), some (.inl l5), some (.inl l6), some (.inl l7), some (.inl l8), some (.inl l9), some (.inl l10)]) (st' := [.inl l7, .inl l6, .inl l5, .inl l3, .inl l2, .inr (some (36, 0))]) (s' := (tm_wr μ 36 0 9 ((μ 36 0 9) - 1))) rfl ?_
        refine xr_cl (y' := 146) (as := [.inr (some (36, 0)), .inl l2, .inl l3, .inl l5, .inl l6, .inl l7]) (r := []) rfl rfl ?_
        refine tf_146 (d := d + 0) (μ := (tm_wr μ 36 0 9 ((μ 36 0 9) - 1))) (a1 := l2) (a2 := l3) (a3 := l5) (a4 := l6) (a5 := l7) (hi.2.2.1 c1 c2) ?_
        show xr_t (tm_I L xs) (d + 5) 139 231 [some (.inr (some (36, 0))), some (.inl a1), some (.inl l2), some (.inl l3), some (.inl l4), some (.inl l5), some (.inl l6), some (.inl l7), some (.inl l8), some (.inl l9), some (.inl l10)] [] (cs_146 l2 l3 l5 l6 l7 (tm_wr μ 36 0 9 ((μ 36 0 9) - 1))) Q
        generalize gμ7 : (cs_146 l2 l3 l5 l6 l7 (tm_wr μ 36 0 9 ((μ 36 0 9) - 1))) = μ7 at h hi ⊢
        refine xr_go 2 (pc' := 265) (ls' := [some (.inr (some (36, 0))), some (.inl a1), some (.inl l2), some (.inl l3), some (.inl l4), some (.inl l5), some (.inl l6), some (.inl l7), some (.inl l8), some (.inl l9), some (.inl l10)]) (st' := [.inl l2]) (s' := μ7) rfl ?_
        try simp only [if_pos c1, if_neg c2] at h
        exact xr_rt (v := some (.inl l2)) rfl h
    · skip
      refine xr_go 10 (pc' := 194) (ls' := [some (.inr (some (36, 0))), some (.inl a1), some (.inl l2), some (.inl l3), some (.inl l4), some (.inl l5), some (.inl l6), some (.inl l7), some (.inl l8), some (.inl l9), some (.inl l10)]) (st' := [.inl ((12 * l9) + l10), .inr (some (48, 0)), .inl l10, .inr (some (84, 0))]) (s' := μ) rfl ?_
      refine xr_ial (n := 384) rfl rfl (hi.2.2.2.1 c1) ?_
      refine xr_ias (n := 12) rfl rfl (hi.2.2.2.2.1 c1) ?_
      refine xr_go 2 (pc' := 169) (ls' := [some (.inr (some (36, 0))), some (.inl a1), some (.inl l2), some (.inl l3), some (.inl l4), some (.inl l5), some (.inl l6), some (.inl l7), some (.inl l8), some (.inl l9), some (.inl (l10 + 1))]) (st' := []) (s' := (tm_wr μ 84 0 ((l10).toNatClampNeg) (μ 48 0 ((((12 * l9) + l10) : Int32).toNatClampNeg)))) rfl ?_
      try simp only [if_neg c1] at h
      exact ih l2 l3 l4 l5 l6 l7 l8 l9 (l10 + 1) (tm_wr μ 84 0 ((l10).toNatClampNeg) (μ 48 0 ((((12 * l9) + l10) : Int32).toNatClampNeg))) (hi.2.2.2.2.2 c1) h
def cv_139_120 (a1 : Int32) : Nat → Int32 → Int32 → Int32 → Int32 → Int32 → Int32 → Int32 → Int32 → Int32 → tm_M → Int32
  | 0, _, _, _, _, _, _, _, _, _, _ => 0
  | n + 1, l2, l3, l4, l5, l6, l7, l8, l9, l10, μ => (if l9 ≤ l10 then (if l4 = 0 then (cv_139_169 a1 64 l2 l3 l4 l5 l6 l7 l8 l9 0 μ) else l2) else (cv_139_120 a1 n l2 l3 l4 l5 l6 l7 l8 l9 (l10 + 1) (cs_140 l10 (l10 + 1) μ)))
def cs_139_120 (a1 : Int32) : Nat → Int32 → Int32 → Int32 → Int32 → Int32 → Int32 → Int32 → Int32 → Int32 → tm_M → tm_M
  | 0, _, _, _, _, _, _, _, _, _, μ => μ
  | n + 1, l2, l3, l4, l5, l6, l7, l8, l9, l10, μ => (if l9 ≤ l10 then (if l4 = 0 then (cs_139_169 a1 64 l2 l3 l4 l5 l6 l7 l8 l9 0 μ) else (tm_wr μ 47 0 ((l9).toNatClampNeg) (1 - (μ 47 0 ((l9).toNatClampNeg))))) else (cs_139_120 a1 n l2 l3 l4 l5 l6 l7 l8 l9 (l10 + 1) (cs_140 l10 (l10 + 1) μ)))
def ci_139_120 (a1 : Int32) : Nat → Int32 → Int32 → Int32 → Int32 → Int32 → Int32 → Int32 → Int32 → Int32 → tm_M → Prop
  | 0, _, _, _, _, _, _, _, _, _, _ => False
  | n + 1, l2, l3, l4, l5, l6, l7, l8, l9, l10, μ => ((l9 ≤ l10) → (l4 = 0) → ci_139_169 a1 64 l2 l3 l4 l5 l6 l7 l8 l9 0 μ) ∧ ((l9 ≤ l10) → (¬ (l4 = 0)) → tm_ix l9 32 = true) ∧ ((¬ (l9 ≤ l10)) → ci_140 l10 (l10 + 1) μ) ∧ ((¬ (l9 ≤ l10)) → ci_139_120 a1 n l2 l3 l4 l5 l6 l7 l8 l9 (l10 + 1) (cs_140 l10 (l10 + 1) μ))
set_option maxHeartbeats 4000000 in
set_option maxRecDepth 10000 in
theorem tl_139_120 {a1 : Int32} : ∀ (n : Nat) (l2 : Int32) (l3 : Int32) (l4 : Int32) (l5 : Int32) (l6 : Int32) (l7 : Int32) (l8 : Int32) (l9 : Int32) (l10 : Int32) (μ : tm_M), ci_139_120 a1 n l2 l3 l4 l5 l6 l7 l8 l9 l10 μ → Q (some (.inl (cv_139_120 a1 n l2 l3 l4 l5 l6 l7 l8 l9 l10 μ))) (cs_139_120 a1 n l2 l3 l4 l5 l6 l7 l8 l9 l10 μ) → xr_t (tm_I L xs) (d + 5) 139 120 [some (.inr (some (36, 0))), some (.inl a1), some (.inl l2), some (.inl l3), some (.inl l4), some (.inl l5), some (.inl l6), some (.inl l7), some (.inl l8), some (.inl l9), some (.inl l10)] [] μ Q := by
  intro n
  induction n with
  | zero => intro l2 l3 l4 l5 l6 l7 l8 l9 l10 μ hi; exact hi.elim
  | succ n ih =>
    intro l2 l3 l4 l5 l6 l7 l8 l9 l10 μ hi h
    unfold ci_139_120 at hi
    simp only [cv_139_120, cs_139_120] at h
    refine xr_br 3 (c := l9 ≤ l10) inferInstance (a := 143) (b := 127) (ls' := [some (.inr (some (36, 0))), some (.inl a1), some (.inl l2), some (.inl l3), some (.inl l4), some (.inl l5), some (.inl l6), some (.inl l7), some (.inl l8), some (.inl l9), some (.inl l10)]) (st' := []) (s' := μ) rfl (fun c1 => ?_) (fun c1 => ?_)
    · skip
      refine xr_br 2 (c := l4 = 0) inferInstance (a := 166) (b := 148) (ls' := [some (.inr (some (36, 0))), some (.inl a1), some (.inl l2), some (.inl l3), some (.inl l4), some (.inl l5), some (.inl l6), some (.inl l7), some (.inl l8), some (.inl l9), some (.inl l10)]) (st' := []) (s' := μ) rfl (fun c2 => ?_) (fun c2 => ?_)
      · skip
        refine xr_go 2 (pc' := 169) (ls' := [some (.inr (some (36, 0))), some (.inl a1), some (.inl l2), some (.inl l3), some (.inl l4), some (.inl l5), some (.inl l6), some (.inl l7), some (.inl l8), some (.inl l9), some (.inl 0)]) (st' := []) (s' := μ) rfl ?_
        try simp only [if_pos c1, if_pos c2] at h
        exact tl_139_169 64 l2 l3 l4 l5 l6 l7 l8 l9 0 μ (hi.1 c1 c2) h
      · skip
        refine xr_go 7 (pc' := 161) (ls' := [some (.inr (some (36, 0))), some (.inl a1), some (.inl l2), some (.inl l3), some (.inl l4), some (.inl l5), some (.inl l6), some (.inl l7), some (.inl l8), some (.inl l9), some (.inl l10)]) (st' := [.inl l9, .inr (some (47, 0)), .inl 1, .inl l9, .inr (some (47, 0))]) (s' := μ) rfl ?_
        refine xr_ial (n := 32) rfl rfl (hi.2.1 c1 c2) ?_
        refine xr_go 1 (pc' := 163) (ls' := [some (.inr (some (36, 0))), some (.inl a1), some (.inl l2), some (.inl l3), some (.inl l4), some (.inl l5), some (.inl l6), some (.inl l7), some (.inl l8), some (.inl l9), some (.inl l10)]) (st' := [.inl (1 - (μ 47 0 ((l9).toNatClampNeg))), .inl l9, .inr (some (47, 0))]) (s' := μ) rfl ?_
        refine xr_ias (n := 32) rfl rfl (hi.2.1 c1 c2) ?_
        refine xr_go 1 (pc' := 165) (ls' := [some (.inr (some (36, 0))), some (.inl a1), some (.inl l2), some (.inl l3), some (.inl l4), some (.inl l5), some (.inl l6), some (.inl l7), some (.inl l8), some (.inl l9), some (.inl l10)]) (st' := [.inl l2]) (s' := (tm_wr μ 47 0 ((l9).toNatClampNeg) (1 - (μ 47 0 ((l9).toNatClampNeg))))) rfl ?_
        try simp only [if_pos c1, if_neg c2] at h
        exact xr_rt (v := some (.inl l2)) rfl h
    · skip
      refine xr_go 5 (pc' := 134) (ls' := [some (.inr (some (36, 0))), some (.inl a1), some (.inl l2), some (.inl l3), some (.inl l4), some (.inl l5), some (.inl l6), some (.inl l7), some (.inl l8), some (.inl l9), some (.inl l10)]) (st' := [.inl (l10 + 1), .inl l10, .inr (some (36, 0))]) (s' := μ) rfl ?_
      refine xr_cl (y' := 140) (as := [.inr (some (36, 0)), .inl l10, .inl (l10 + 1)]) (r := []) rfl rfl ?_
      refine tf_140 (d := d + 3) (μ := μ) (a1 := l10) (a2 := (l10 + 1)) (hi.2.2.1 c1) ?_
      show xr_t (tm_I L xs) (d + 5) 139 137 [some (.inr (some (36, 0))), some (.inl a1), some (.inl l2), some (.inl l3), some (.inl l4), some (.inl l5), some (.inl l6), some (.inl l7), some (.inl l8), some (.inl l9), some (.inl l10)] [] (cs_140 l10 (l10 + 1) μ) Q
      generalize gμ1 : (cs_140 l10 (l10 + 1) μ) = μ1 at h hi ⊢
      refine xr_go 2 (pc' := 120) (ls' := [some (.inr (some (36, 0))), some (.inl a1), some (.inl l2), some (.inl l3), some (.inl l4), some (.inl l5), some (.inl l6), some (.inl l7), some (.inl l8), some (.inl l9), some (.inl (l10 + 1))]) (st' := []) (s' := μ1) rfl ?_
      try simp only [if_neg c1] at h
      exact ih l2 l3 l4 l5 l6 l7 l8 l9 (l10 + 1) μ1 (hi.2.2.2 c1) h
def cv_139 (a1 : Int32) (μ : tm_M) : Int32 := (if (a1 < 0) ∨ (¬ (a1 < (μ 36 0 9))) then (-1) else (cv_139_120 a1 64 (μ 41 0 ((a1).toNatClampNeg)) (μ 42 0 ((a1).toNatClampNeg)) ((if (μ 67 0 (((μ 42 0 ((a1).toNatClampNeg)) : Int32).toNatClampNeg)) = 0 then 0 else ((if (cv_133 (μ 41 0 ((a1).toNatClampNeg)) μ) = 0 then ((if (cv_134 (μ 41 0 ((a1).toNatClampNeg)) μ) = 0 then 0 else ((if (μ 47 0 ((a1).toNatClampNeg)) = 1 then 1 else 0) : Int32)) : Int32) else ((if (μ 47 0 ((a1).toNatClampNeg)) = 0 then 1 else ((if (cv_134 (μ 41 0 ((a1).toNatClampNeg)) μ) = 0 then 0 else ((if (μ 47 0 ((a1).toNatClampNeg)) = 1 then 1 else 0) : Int32)) : Int32)) : Int32)) : Int32)) : Int32) (μ 43 0 ((a1).toNatClampNeg)) (μ 44 0 ((a1).toNatClampNeg)) (μ 45 0 ((a1).toNatClampNeg)) (μ 46 0 ((a1).toNatClampNeg)) ((μ 36 0 9) - 1) a1 μ))
def cs_139 (a1 : Int32) (μ : tm_M) : tm_M := (if (a1 < 0) ∨ (¬ (a1 < (μ 36 0 9))) then μ else (cs_139_120 a1 64 (μ 41 0 ((a1).toNatClampNeg)) (μ 42 0 ((a1).toNatClampNeg)) ((if (μ 67 0 (((μ 42 0 ((a1).toNatClampNeg)) : Int32).toNatClampNeg)) = 0 then 0 else ((if (cv_133 (μ 41 0 ((a1).toNatClampNeg)) μ) = 0 then ((if (cv_134 (μ 41 0 ((a1).toNatClampNeg)) μ) = 0 then 0 else ((if (μ 47 0 ((a1).toNatClampNeg)) = 1 then 1 else 0) : Int32)) : Int32) else ((if (μ 47 0 ((a1).toNatClampNeg)) = 0 then 1 else ((if (cv_134 (μ 41 0 ((a1).toNatClampNeg)) μ) = 0 then 0 else ((if (μ 47 0 ((a1).toNatClampNeg)) = 1 then 1 else 0) : Int32)) : Int32)) : Int32)) : Int32)) : Int32) (μ 43 0 ((a1).toNatClampNeg)) (μ 44 0 ((a1).toNatClampNeg)) (μ 45 0 ((a1).toNatClampNeg)) (μ 46 0 ((a1).toNatClampNeg)) ((μ 36 0 9) - 1) a1 μ))
def ci_139 (a1 : Int32) (μ : tm_M) : Prop := ((¬ ((a1 < 0) ∨ (¬ (a1 < (μ 36 0 9))))) → tm_ix a1 32 = true) ∧ ((¬ ((a1 < 0) ∨ (¬ (a1 < (μ 36 0 9))))) → tm_ix (μ 42 0 ((a1).toNatClampNeg)) 6 = true) ∧ ((¬ ((a1 < 0) ∨ (¬ (a1 < (μ 36 0 9))))) → ci_139_120 a1 64 (μ 41 0 ((a1).toNatClampNeg)) (μ 42 0 ((a1).toNatClampNeg)) ((if (μ 67 0 (((μ 42 0 ((a1).toNatClampNeg)) : Int32).toNatClampNeg)) = 0 then 0 else ((if (cv_133 (μ 41 0 ((a1).toNatClampNeg)) μ) = 0 then ((if (cv_134 (μ 41 0 ((a1).toNatClampNeg)) μ) = 0 then 0 else ((if (μ 47 0 ((a1).toNatClampNeg)) = 1 then 1 else 0) : Int32)) : Int32) else ((if (μ 47 0 ((a1).toNatClampNeg)) = 0 then 1 else ((if (cv_134 (μ 41 0 ((a1).toNatClampNeg)) μ) = 0 then 0 else ((if (μ 47 0 ((a1).toNatClampNeg)) = 1 then 1 else 0) : Int32)) : Int32)) : Int32)) : Int32)) : Int32) (μ 43 0 ((a1).toNatClampNeg)) (μ 44 0 ((a1).toNatClampNeg)) (μ 45 0 ((a1).toNatClampNeg)) (μ 46 0 ((a1).toNatClampNeg)) ((μ 36 0 9) - 1) a1 μ)
set_option maxHeartbeats 4000000 in
set_option maxRecDepth 10000 in
theorem tf_139 {a1 : Int32} (hi : ci_139 a1 μ) (h : Q (some (.inl (cv_139 a1 μ))) (cs_139 a1 μ)) : xm_MW (tm_I L xs) (d + 6) 139 [.inr (some (36, 0)), .inl a1] μ Q := by
  refine xr_in2 [some (.inr (some (36, 0))), some (.inl a1), none, none, none, none, none, none, none, none, none] rfl rfl ?_
  unfold cv_139 cs_139 at h
  unfold ci_139 at hi
  suffices hE1 : (((a1 < 0) ∨ (¬ (a1 < (μ 36 0 9)))) → xr_t (tm_I L xs) (d + 5) 139 12 [some (.inr (some (36, 0))), some (.inl a1), none, none, none, none, none, none, none, none, none] [] μ Q) ∧ (¬ ((a1 < 0) ∨ (¬ (a1 < (μ 36 0 9)))) → xr_t (tm_I L xs) (d + 5) 139 14 [some (.inr (some (36, 0))), some (.inl a1), none, none, none, none, none, none, none, none, none] [] μ Q) by
    refine xr_br 2 (c := a1 < 0) inferInstance (a := 12) (b := 4) (ls' := [some (.inr (some (36, 0))), some (.inl a1), none, none, none, none, none, none, none, none, none]) (st' := []) (s' := μ) rfl (fun c1 => ?_) (fun c1 => ?_)
    · skip
      exact hE1.1 (Or.inl c1)
    · skip
      refine xr_br 4 (c := a1 < (μ 36 0 9)) inferInstance (a := 14) (b := 12) (ls' := [some (.inr (some (36, 0))), some (.inl a1), none, none, none, none, none, none, none, none, none]) (st' := []) (s' := μ) rfl (fun c2 => ?_) (fun c2 => ?_)
      · skip
        exact hE1.2 (fun z => z.elim c1 (fun z => z c2))
      · skip
        exact hE1.1 (Or.inr c2)
  refine ⟨fun c3 => ?_, fun c3 => ?_⟩
  · skip
    refine xr_go 1 (pc' := 13) (ls' := [some (.inr (some (36, 0))), some (.inl a1), none, none, none, none, none, none, none, none, none]) (st' := [.inl (-1)]) (s' := μ) rfl ?_
    try simp only [if_pos c3] at h
    exact xr_rt (v := some (.inl (-1))) rfl h
  · skip
    refine xr_go 3 (pc' := 19) (ls' := [some (.inr (some (36, 0))), some (.inl a1), none, none, none, none, none, none, none, none, none]) (st' := [.inl a1, .inr (some (41, 0))]) (s' := μ) rfl ?_
    refine xr_ial (n := 32) rfl rfl (hi.1 c3) ?_
    refine xr_go 4 (pc' := 26) (ls' := [some (.inr (some (36, 0))), some (.inl a1), some (.inl (μ 41 0 ((a1).toNatClampNeg))), none, none, none, none, none, none, none, none]) (st' := [.inl a1, .inr (some (42, 0))]) (s' := μ) rfl ?_
    refine xr_ial (n := 32) rfl rfl (hi.1 c3) ?_
    refine xr_go 4 (pc' := 33) (ls' := [some (.inr (some (36, 0))), some (.inl a1), some (.inl (μ 41 0 ((a1).toNatClampNeg))), some (.inl (μ 42 0 ((a1).toNatClampNeg))), none, none, none, none, none, none, none]) (st' := [.inl (μ 42 0 ((a1).toNatClampNeg)), .inr (some (67, 0))]) (s' := μ) rfl ?_
    refine xr_ial (n := 6) rfl rfl (hi.2.1 c3) ?_
    suffices hj4 : xr_t (tm_I L xs) (d + 5) 139 75 [some (.inr (some (36, 0))), some (.inl a1), some (.inl (μ 41 0 ((a1).toNatClampNeg))), some (.inl (μ 42 0 ((a1).toNatClampNeg))), none, none, none, none, none, none, none] [.inl ((if (μ 67 0 (((μ 42 0 ((a1).toNatClampNeg)) : Int32).toNatClampNeg)) = 0 then 0 else ((if (cv_133 (μ 41 0 ((a1).toNatClampNeg)) μ) = 0 then ((if (cv_134 (μ 41 0 ((a1).toNatClampNeg)) μ) = 0 then 0 else ((if (μ 47 0 ((a1).toNatClampNeg)) = 1 then 1 else 0) : Int32)) : Int32) else ((if (μ 47 0 ((a1).toNatClampNeg)) = 0 then 1 else ((if (cv_134 (μ 41 0 ((a1).toNatClampNeg)) μ) = 0 then 0 else ((if (μ 47 0 ((a1).toNatClampNeg)) = 1 then 1 else 0) : Int32)) : Int32)) : Int32)) : Int32)) : Int32)] μ Q by
      refine xr_br 1 (c := (μ 67 0 (((μ 42 0 ((a1).toNatClampNeg)) : Int32).toNatClampNeg)) = 0) inferInstance (a := 74) (b := 37) (ls' := [some (.inr (some (36, 0))), some (.inl a1), some (.inl (μ 41 0 ((a1).toNatClampNeg))), some (.inl (μ 42 0 ((a1).toNatClampNeg))), none, none, none, none, none, none, none]) (st' := []) (s' := μ) rfl (fun c4 => ?_) (fun c4 => ?_)
      · skip
        refine xr_go 1 (pc' := 75) (ls' := [some (.inr (some (36, 0))), some (.inl a1), some (.inl (μ 41 0 ((a1).toNatClampNeg))), some (.inl (μ 42 0 ((a1).toNatClampNeg))), none, none, none, none, none, none, none]) (st' := [.inl 0]) (s' := μ) rfl ?_
        have ehj4 : ((if (μ 67 0 (((μ 42 0 ((a1).toNatClampNeg)) : Int32).toNatClampNeg)) = 0 then 0 else ((if (cv_133 (μ 41 0 ((a1).toNatClampNeg)) μ) = 0 then ((if (cv_134 (μ 41 0 ((a1).toNatClampNeg)) μ) = 0 then 0 else ((if (μ 47 0 ((a1).toNatClampNeg)) = 1 then 1 else 0) : Int32)) : Int32) else ((if (μ 47 0 ((a1).toNatClampNeg)) = 0 then 1 else ((if (cv_134 (μ 41 0 ((a1).toNatClampNeg)) μ) = 0 then 0 else ((if (μ 47 0 ((a1).toNatClampNeg)) = 1 then 1 else 0) : Int32)) : Int32)) : Int32)) : Int32)) : Int32) = 0 := by first | rfl | simp only [if_pos c4]
        rw [ehj4] at hj4
        exact hj4
      · skip
        refine xr_go 1 (pc' := 38) (ls' := [some (.inr (some (36, 0))), some (.inl a1), some (.inl (μ 41 0 ((a1).toNatClampNeg))), some (.inl (μ 42 0 ((a1).toNatClampNeg))), none, none, none, none, none, none, none]) (st' := [.inl (μ 41 0 ((a1).toNatClampNeg))]) (s' := μ) rfl ?_
        refine xr_cl (y' := 133) (as := [.inl (μ 41 0 ((a1).toNatClampNeg))]) (r := []) rfl rfl ?_
        refine tf_133 (d := d + 4) (μ := μ) (a1 := (μ 41 0 ((a1).toNatClampNeg))) ?_
        show xr_t (tm_I L xs) (d + 5) 139 41 [some (.inr (some (36, 0))), some (.inl a1), some (.inl (μ 41 0 ((a1).toNatClampNeg))), some (.inl (μ 42 0 ((a1).toNatClampNeg))), none, none, none, none, none, none, none] [.inl (cv_133 (μ 41 0 ((a1).toNatClampNeg)) μ)] μ Q
        suffices hj5 : xr_t (tm_I L xs) (d + 5) 139 75 [some (.inr (some (36, 0))), some (.inl a1), some (.inl (μ 41 0 ((a1).toNatClampNeg))), some (.inl (μ 42 0 ((a1).toNatClampNeg))), none, none, none, none, none, none, none] [.inl ((if (cv_133 (μ 41 0 ((a1).toNatClampNeg)) μ) = 0 then ((if (cv_134 (μ 41 0 ((a1).toNatClampNeg)) μ) = 0 then 0 else ((if (μ 47 0 ((a1).toNatClampNeg)) = 1 then 1 else 0) : Int32)) : Int32) else ((if (μ 47 0 ((a1).toNatClampNeg)) = 0 then 1 else ((if (cv_134 (μ 41 0 ((a1).toNatClampNeg)) μ) = 0 then 0 else ((if (μ 47 0 ((a1).toNatClampNeg)) = 1 then 1 else 0) : Int32)) : Int32)) : Int32)) : Int32)] μ Q by
          refine xr_br 1 (c := (cv_133 (μ 41 0 ((a1).toNatClampNeg)) μ) = 0) inferInstance (a := 53) (b := 44) (ls' := [some (.inr (some (36, 0))), some (.inl a1), some (.inl (μ 41 0 ((a1).toNatClampNeg))), some (.inl (μ 42 0 ((a1).toNatClampNeg))), none, none, none, none, none, none, none]) (st' := []) (s' := μ) rfl (fun c5 => ?_) (fun c5 => ?_)
          · skip
            refine xr_go 1 (pc' := 54) (ls' := [some (.inr (some (36, 0))), some (.inl a1), some (.inl (μ 41 0 ((a1).toNatClampNeg))), some (.inl (μ 42 0 ((a1).toNatClampNeg))), none, none, none, none, none, none, none]) (st' := [.inl (μ 41 0 ((a1).toNatClampNeg))]) (s' := μ) rfl ?_
            refine xr_cl (y' := 134) (as := [.inl (μ 41 0 ((a1).toNatClampNeg))]) (r := []) rfl rfl ?_
            refine tf_134 (d := d + 4) (μ := μ) (a1 := (μ 41 0 ((a1).toNatClampNeg))) ?_
            show xr_t (tm_I L xs) (d + 5) 139 57 [some (.inr (some (36, 0))), some (.inl a1), some (.inl (μ 41 0 ((a1).toNatClampNeg))), some (.inl (μ 42 0 ((a1).toNatClampNeg))), none, none, none, none, none, none, none] [.inl (cv_134 (μ 41 0 ((a1).toNatClampNeg)) μ)] μ Q
            suffices hj6 : xr_t (tm_I L xs) (d + 5) 139 75 [some (.inr (some (36, 0))), some (.inl a1), some (.inl (μ 41 0 ((a1).toNatClampNeg))), some (.inl (μ 42 0 ((a1).toNatClampNeg))), none, none, none, none, none, none, none] [.inl ((if (cv_134 (μ 41 0 ((a1).toNatClampNeg)) μ) = 0 then 0 else ((if (μ 47 0 ((a1).toNatClampNeg)) = 1 then 1 else 0) : Int32)) : Int32)] μ Q by
              refine xr_br 1 (c := (cv_134 (μ 41 0 ((a1).toNatClampNeg)) μ) = 0) inferInstance (a := 74) (b := 60) (ls' := [some (.inr (some (36, 0))), some (.inl a1), some (.inl (μ 41 0 ((a1).toNatClampNeg))), some (.inl (μ 42 0 ((a1).toNatClampNeg))), none, none, none, none, none, none, none]) (st' := []) (s' := μ) rfl (fun c6 => ?_) (fun c6 => ?_)
              · skip
                refine xr_go 1 (pc' := 75) (ls' := [some (.inr (some (36, 0))), some (.inl a1), some (.inl (μ 41 0 ((a1).toNatClampNeg))), some (.inl (μ 42 0 ((a1).toNatClampNeg))), none, none, none, none, none, none, none]) (st' := [.inl 0]) (s' := μ) rfl ?_
                have ehj6 : ((if (cv_134 (μ 41 0 ((a1).toNatClampNeg)) μ) = 0 then 0 else ((if (μ 47 0 ((a1).toNatClampNeg)) = 1 then 1 else 0) : Int32)) : Int32) = 0 := by first | rfl | simp only [if_pos c6]
                rw [ehj6] at hj6
                exact hj6
              · skip
                refine xr_go 3 (pc' := 65) (ls' := [some (.inr (some (36, 0))), some (.inl a1), some (.inl (μ 41 0 ((a1).toNatClampNeg))), some (.inl (μ 42 0 ((a1).toNatClampNeg))), none, none, none, none, none, none, none]) (st' := [.inl a1, .inr (some (47, 0))]) (s' := μ) rfl ?_
                refine xr_ial (n := 32) rfl rfl (hi.1 c3) ?_
                suffices hj7 : xr_t (tm_I L xs) (d + 5) 139 75 [some (.inr (some (36, 0))), some (.inl a1), some (.inl (μ 41 0 ((a1).toNatClampNeg))), some (.inl (μ 42 0 ((a1).toNatClampNeg))), none, none, none, none, none, none, none] [.inl ((if (μ 47 0 ((a1).toNatClampNeg)) = 1 then 1 else 0) : Int32)] μ Q by
                  refine xr_br 2 (c := (μ 47 0 ((a1).toNatClampNeg)) = 1) inferInstance (a := 70) (b := 74) (ls' := [some (.inr (some (36, 0))), some (.inl a1), some (.inl (μ 41 0 ((a1).toNatClampNeg))), some (.inl (μ 42 0 ((a1).toNatClampNeg))), none, none, none, none, none, none, none]) (st' := []) (s' := μ) rfl (fun c7 => ?_) (fun c7 => ?_)
                  · skip
                    refine xr_go 2 (pc' := 75) (ls' := [some (.inr (some (36, 0))), some (.inl a1), some (.inl (μ 41 0 ((a1).toNatClampNeg))), some (.inl (μ 42 0 ((a1).toNatClampNeg))), none, none, none, none, none, none, none]) (st' := [.inl 1]) (s' := μ) rfl ?_
                    have ehj7 : ((if (μ 47 0 ((a1).toNatClampNeg)) = 1 then 1 else 0) : Int32) = 1 := by first | rfl | simp only [if_pos c7]
                    rw [ehj7] at hj7
                    exact hj7
                  · skip
                    refine xr_go 1 (pc' := 75) (ls' := [some (.inr (some (36, 0))), some (.inl a1), some (.inl (μ 41 0 ((a1).toNatClampNeg))), some (.inl (μ 42 0 ((a1).toNatClampNeg))), none, none, none, none, none, none, none]) (st' := [.inl 0]) (s' := μ) rfl ?_
                    have ehj7 : ((if (μ 47 0 ((a1).toNatClampNeg)) = 1 then 1 else 0) : Int32) = 0 := by first | rfl | simp only [if_neg c7]
                    rw [ehj7] at hj7
                    exact hj7
                have ehj6 : ((if (cv_134 (μ 41 0 ((a1).toNatClampNeg)) μ) = 0 then 0 else ((if (μ 47 0 ((a1).toNatClampNeg)) = 1 then 1 else 0) : Int32)) : Int32) = ((if (μ 47 0 ((a1).toNatClampNeg)) = 1 then 1 else 0) : Int32) := by first | rfl | simp only [if_neg c6]
                rw [ehj6] at hj6
                exact hj6
            have ehj5 : ((if (cv_133 (μ 41 0 ((a1).toNatClampNeg)) μ) = 0 then ((if (cv_134 (μ 41 0 ((a1).toNatClampNeg)) μ) = 0 then 0 else ((if (μ 47 0 ((a1).toNatClampNeg)) = 1 then 1 else 0) : Int32)) : Int32) else ((if (μ 47 0 ((a1).toNatClampNeg)) = 0 then 1 else ((if (cv_134 (μ 41 0 ((a1).toNatClampNeg)) μ) = 0 then 0 else ((if (μ 47 0 ((a1).toNatClampNeg)) = 1 then 1 else 0) : Int32)) : Int32)) : Int32)) : Int32) = ((if (cv_134 (μ 41 0 ((a1).toNatClampNeg)) μ) = 0 then 0 else ((if (μ 47 0 ((a1).toNatClampNeg)) = 1 then 1 else 0) : Int32)) : Int32) := by first | rfl | simp only [if_pos c5]
            rw [ehj5] at hj5
            exact hj5
          · skip
            refine xr_go 3 (pc' := 49) (ls' := [some (.inr (some (36, 0))), some (.inl a1), some (.inl (μ 41 0 ((a1).toNatClampNeg))), some (.inl (μ 42 0 ((a1).toNatClampNeg))), none, none, none, none, none, none, none]) (st' := [.inl a1, .inr (some (47, 0))]) (s' := μ) rfl ?_
            refine xr_ial (n := 32) rfl rfl (hi.1 c3) ?_
            suffices hj8 : xr_t (tm_I L xs) (d + 5) 139 75 [some (.inr (some (36, 0))), some (.inl a1), some (.inl (μ 41 0 ((a1).toNatClampNeg))), some (.inl (μ 42 0 ((a1).toNatClampNeg))), none, none, none, none, none, none, none] [.inl ((if (μ 47 0 ((a1).toNatClampNeg)) = 0 then 1 else ((if (cv_134 (μ 41 0 ((a1).toNatClampNeg)) μ) = 0 then 0 else ((if (μ 47 0 ((a1).toNatClampNeg)) = 1 then 1 else 0) : Int32)) : Int32)) : Int32)] μ Q by
              refine xr_br 1 (c := (μ 47 0 ((a1).toNatClampNeg)) = 0) inferInstance (a := 70) (b := 53) (ls' := [some (.inr (some (36, 0))), some (.inl a1), some (.inl (μ 41 0 ((a1).toNatClampNeg))), some (.inl (μ 42 0 ((a1).toNatClampNeg))), none, none, none, none, none, none, none]) (st' := []) (s' := μ) rfl (fun c8 => ?_) (fun c8 => ?_)
              · skip
                refine xr_go 2 (pc' := 75) (ls' := [some (.inr (some (36, 0))), some (.inl a1), some (.inl (μ 41 0 ((a1).toNatClampNeg))), some (.inl (μ 42 0 ((a1).toNatClampNeg))), none, none, none, none, none, none, none]) (st' := [.inl 1]) (s' := μ) rfl ?_
                have ehj8 : ((if (μ 47 0 ((a1).toNatClampNeg)) = 0 then 1 else ((if (cv_134 (μ 41 0 ((a1).toNatClampNeg)) μ) = 0 then 0 else ((if (μ 47 0 ((a1).toNatClampNeg)) = 1 then 1 else 0) : Int32)) : Int32)) : Int32) = 1 := by first | rfl | simp only [if_pos c8]
                rw [ehj8] at hj8
                exact hj8
              · skip
                refine xr_go 1 (pc' := 54) (ls' := [some (.inr (some (36, 0))), some (.inl a1), some (.inl (μ 41 0 ((a1).toNatClampNeg))), some (.inl (μ 42 0 ((a1).toNatClampNeg))), none, none, none, none, none, none, none]) (st' := [.inl (μ 41 0 ((a1).toNatClampNeg))]) (s' := μ) rfl ?_
                refine xr_cl (y' := 134) (as := [.inl (μ 41 0 ((a1).toNatClampNeg))]) (r := []) rfl rfl ?_
                refine tf_134 (d := d + 4) (μ := μ) (a1 := (μ 41 0 ((a1).toNatClampNeg))) ?_
                show xr_t (tm_I L xs) (d + 5) 139 57 [some (.inr (some (36, 0))), some (.inl a1), some (.inl (μ 41 0 ((a1).toNatClampNeg))), some (.inl (μ 42 0 ((a1).toNatClampNeg))), none, none, none, none, none, none, none] [.inl (cv_134 (μ 41 0 ((a1).toNatClampNeg)) μ)] μ Q
                suffices hj9 : xr_t (tm_I L xs) (d + 5) 139 75 [some (.inr (some (36, 0))), some (.inl a1), some (.inl (μ 41 0 ((a1).toNatClampNeg))), some (.inl (μ 42 0 ((a1).toNatClampNeg))), none, none, none, none, none, none, none] [.inl ((if (cv_134 (μ 41 0 ((a1).toNatClampNeg)) μ) = 0 then 0 else ((if (μ 47 0 ((a1).toNatClampNeg)) = 1 then 1 else 0) : Int32)) : Int32)] μ Q by
                  refine xr_br 1 (c := (cv_134 (μ 41 0 ((a1).toNatClampNeg)) μ) = 0) inferInstance (a := 74) (b := 60) (ls' := [some (.inr (some (36, 0))), some (.inl a1), some (.inl (μ 41 0 ((a1).toNatClampNeg))), some (.inl (μ 42 0 ((a1).toNatClampNeg))), none, none, none, none, none, none, none]) (st' := []) (s' := μ) rfl (fun c9 => ?_) (fun c9 => ?_)
                  · skip
                    refine xr_go 1 (pc' := 75) (ls' := [some (.inr (some (36, 0))), some (.inl a1), some (.inl (μ 41 0 ((a1).toNatClampNeg))), some (.inl (μ 42 0 ((a1).toNatClampNeg))), none, none, none, none, none, none, none]) (st' := [.inl 0]) (s' := μ) rfl ?_
                    have ehj9 : ((if (cv_134 (μ 41 0 ((a1).toNatClampNeg)) μ) = 0 then 0 else ((if (μ 47 0 ((a1).toNatClampNeg)) = 1 then 1 else 0) : Int32)) : Int32) = 0 := by first | rfl | simp only [if_pos c9]
                    rw [ehj9] at hj9
                    exact hj9
                  · skip
                    refine xr_go 3 (pc' := 65) (ls' := [some (.inr (some (36, 0))), some (.inl a1), some (.inl (μ 41 0 ((a1).toNatClampNeg))), some (.inl (μ 42 0 ((a1).toNatClampNeg))), none, none, none, none, none, none, none]) (st' := [.inl a1, .inr (some (47, 0))]) (s' := μ) rfl ?_
                    refine xr_ial (n := 32) rfl rfl (hi.1 c3) ?_
                    suffices hj10 : xr_t (tm_I L xs) (d + 5) 139 75 [some (.inr (some (36, 0))), some (.inl a1), some (.inl (μ 41 0 ((a1).toNatClampNeg))), some (.inl (μ 42 0 ((a1).toNatClampNeg))), none, none, none, none, none, none, none] [.inl ((if (μ 47 0 ((a1).toNatClampNeg)) = 1 then 1 else 0) : Int32)] μ Q by
                      refine xr_br 2 (c := (μ 47 0 ((a1).toNatClampNeg)) = 1) inferInstance (a := 70) (b := 74) (ls' := [some (.inr (some (36, 0))), some (.inl a1), some (.inl (μ 41 0 ((a1).toNatClampNeg))), some (.inl (μ 42 0 ((a1).toNatClampNeg))), none, none, none, none, none, none, none]) (st' := []) (s' := μ) rfl (fun c10 => ?_) (fun c10 => ?_)
                      · skip
                        refine xr_go 2 (pc' := 75) (ls' := [some (.inr (some (36, 0))), some (.inl a1), some (.inl (μ 41 0 ((a1).toNatClampNeg))), some (.inl (μ 42 0 ((a1).toNatClampNeg))), none, none, none, none, none, none, none]) (st' := [.inl 1]) (s' := μ) rfl ?_
                        have ehj10 : ((if (μ 47 0 ((a1).toNatClampNeg)) = 1 then 1 else 0) : Int32) = 1 := by first | rfl | simp only [if_pos c10]
                        rw [ehj10] at hj10
                        exact hj10
                      · skip
                        refine xr_go 1 (pc' := 75) (ls' := [some (.inr (some (36, 0))), some (.inl a1), some (.inl (μ 41 0 ((a1).toNatClampNeg))), some (.inl (μ 42 0 ((a1).toNatClampNeg))), none, none, none, none, none, none, none]) (st' := [.inl 0]) (s' := μ) rfl ?_
                        have ehj10 : ((if (μ 47 0 ((a1).toNatClampNeg)) = 1 then 1 else 0) : Int32) = 0 := by first | rfl | simp only [if_neg c10]
                        rw [ehj10] at hj10
                        exact hj10
                    have ehj9 : ((if (cv_134 (μ 41 0 ((a1).toNatClampNeg)) μ) = 0 then 0 else ((if (μ 47 0 ((a1).toNatClampNeg)) = 1 then 1 else 0) : Int32)) : Int32) = ((if (μ 47 0 ((a1).toNatClampNeg)) = 1 then 1 else 0) : Int32) := by first | rfl | simp only [if_neg c9]
                    rw [ehj9] at hj9
                    exact hj9
                have ehj8 : ((if (μ 47 0 ((a1).toNatClampNeg)) = 0 then 1 else ((if (cv_134 (μ 41 0 ((a1).toNatClampNeg)) μ) = 0 then 0 else ((if (μ 47 0 ((a1).toNatClampNeg)) = 1 then 1 else 0) : Int32)) : Int32)) : Int32) = ((if (cv_134 (μ 41 0 ((a1).toNatClampNeg)) μ) = 0 then 0 else ((if (μ 47 0 ((a1).toNatClampNeg)) = 1 then 1 else 0) : Int32)) : Int32) := by first | rfl | simp only [if_neg c8]
                rw [ehj8] at hj8
                exact hj8
            have ehj5 : ((if (cv_133 (μ 41 0 ((a1).toNatClampNeg)) μ) = 0 then ((if (cv_134 (μ 41 0 ((a1).toNatClampNeg)) μ) = 0 then 0 else ((if (μ 47 0 ((a1).toNatClampNeg)) = 1 then 1 else 0) : Int32)) : Int32) else ((if (μ 47 0 ((a1).toNatClampNeg)) = 0 then 1 else ((if (cv_134 (μ 41 0 ((a1).toNatClampNeg)) μ) = 0 then 0 else ((if (μ 47 0 ((a1).toNatClampNeg)) = 1 then 1 else 0) : Int32)) : Int32)) : Int32)) : Int32) = ((if (μ 47 0 ((a1).toNatClampNeg)) = 0 then 1 else ((if (cv_134 (μ 41 0 ((a1).toNatClampNeg)) μ) = 0 then 0 else ((if (μ 47 0 ((a1).toNatClampNeg)) = 1 then 1 else 0) : Int32)) : Int32)) : Int32) := by first | rfl | simp only [if_neg c5]
            rw [ehj5] at hj5
            exact hj5
        have ehj4 : ((if (μ 67 0 (((μ 42 0 ((a1).toNatClampNeg)) : Int32).toNatClampNeg)) = 0 then 0 else ((if (cv_133 (μ 41 0 ((a1).toNatClampNeg)) μ) = 0 then ((if (cv_134 (μ 41 0 ((a1).toNatClampNeg)) μ) = 0 then 0 else ((if (μ 47 0 ((a1).toNatClampNeg)) = 1 then 1 else 0) : Int32)) : Int32) else ((if (μ 47 0 ((a1).toNatClampNeg)) = 0 then 1 else ((if (cv_134 (μ 41 0 ((a1).toNatClampNeg)) μ) = 0 then 0 else ((if (μ 47 0 ((a1).toNatClampNeg)) = 1 then 1 else 0) : Int32)) : Int32)) : Int32)) : Int32)) : Int32) = ((if (cv_133 (μ 41 0 ((a1).toNatClampNeg)) μ) = 0 then ((if (cv_134 (μ 41 0 ((a1).toNatClampNeg)) μ) = 0 then 0 else ((if (μ 47 0 ((a1).toNatClampNeg)) = 1 then 1 else 0) : Int32)) : Int32) else ((if (μ 47 0 ((a1).toNatClampNeg)) = 0 then 1 else ((if (cv_134 (μ 41 0 ((a1).toNatClampNeg)) μ) = 0 then 0 else ((if (μ 47 0 ((a1).toNatClampNeg)) = 1 then 1 else 0) : Int32)) : Int32)) : Int32)) : Int32) := by first | rfl | simp only [if_neg c4]
        rw [ehj4] at hj4
        exact hj4
    refine xr_go 4 (pc' := 82) (ls' := [some (.inr (some (36, 0))), some (.inl a1), some (.inl (μ 41 0 ((a1).toNatClampNeg))), some (.inl (μ 42 0 ((a1).toNatClampNeg))), some (.inl ((if (μ 67 0 (((μ 42 0 ((a1).toNatClampNeg)) : Int32).toNatClampNeg)) = 0 then 0 else ((if (cv_133 (μ 41 0 ((a1).toNatClampNeg)) μ) = 0 then ((if (cv_134 (μ 41 0 ((a1).toNatClampNeg)) μ) = 0 then 0 else ((if (μ 47 0 ((a1).toNatClampNeg)) = 1 then 1 else 0) : Int32)) : Int32) else ((if (μ 47 0 ((a1).toNatClampNeg)) = 0 then 1 else ((if (cv_134 (μ 41 0 ((a1).toNatClampNeg)) μ) = 0 then 0 else ((if (μ 47 0 ((a1).toNatClampNeg)) = 1 then 1 else 0) : Int32)) : Int32)) : Int32)) : Int32)) : Int32)), none, none, none, none, none, none]) (st' := [.inl a1, .inr (some (43, 0))]) (s' := μ) rfl ?_
    refine xr_ial (n := 32) rfl rfl (hi.1 c3) ?_
    refine xr_go 4 (pc' := 90) (ls' := [some (.inr (some (36, 0))), some (.inl a1), some (.inl (μ 41 0 ((a1).toNatClampNeg))), some (.inl (μ 42 0 ((a1).toNatClampNeg))), some (.inl ((if (μ 67 0 (((μ 42 0 ((a1).toNatClampNeg)) : Int32).toNatClampNeg)) = 0 then 0 else ((if (cv_133 (μ 41 0 ((a1).toNatClampNeg)) μ) = 0 then ((if (cv_134 (μ 41 0 ((a1).toNatClampNeg)) μ) = 0 then 0 else ((if (μ 47 0 ((a1).toNatClampNeg)) = 1 then 1 else 0) : Int32)) : Int32) else ((if (μ 47 0 ((a1).toNatClampNeg)) = 0 then 1 else ((if (cv_134 (μ 41 0 ((a1).toNatClampNeg)) μ) = 0 then 0 else ((if (μ 47 0 ((a1).toNatClampNeg)) = 1 then 1 else 0) : Int32)) : Int32)) : Int32)) : Int32)) : Int32)), some (.inl (μ 43 0 ((a1).toNatClampNeg))), none, none, none, none, none]) (st' := [.inl a1, .inr (some (44, 0))]) (s' := μ) rfl ?_
    refine xr_ial (n := 32) rfl rfl (hi.1 c3) ?_
    refine xr_go 4 (pc' := 98) (ls' := [some (.inr (some (36, 0))), some (.inl a1), some (.inl (μ 41 0 ((a1).toNatClampNeg))), some (.inl (μ 42 0 ((a1).toNatClampNeg))), some (.inl ((if (μ 67 0 (((μ 42 0 ((a1).toNatClampNeg)) : Int32).toNatClampNeg)) = 0 then 0 else ((if (cv_133 (μ 41 0 ((a1).toNatClampNeg)) μ) = 0 then ((if (cv_134 (μ 41 0 ((a1).toNatClampNeg)) μ) = 0 then 0 else ((if (μ 47 0 ((a1).toNatClampNeg)) = 1 then 1 else 0) : Int32)) : Int32) else ((if (μ 47 0 ((a1).toNatClampNeg)) = 0 then 1 else ((if (cv_134 (μ 41 0 ((a1).toNatClampNeg)) μ) = 0 then 0 else ((if (μ 47 0 ((a1).toNatClampNeg)) = 1 then 1 else 0) : Int32)) : Int32)) : Int32)) : Int32)) : Int32)), some (.inl (μ 43 0 ((a1).toNatClampNeg))), some (.inl (μ 44 0 ((a1).toNatClampNeg))), none, none, none, none]) (st' := [.inl a1, .inr (some (45, 0))]) (s' := μ) rfl ?_
    refine xr_ial (n := 32) rfl rfl (hi.1 c3) ?_
    refine xr_go 4 (pc' := 106) (ls' := [some (.inr (some (36, 0))), some (.inl a1), some (.inl (μ 41 0 ((a1).toNatClampNeg))), some (.inl (μ 42 0 ((a1).toNatClampNeg))), some (.inl ((if (μ 67 0 (((μ 42 0 ((a1).toNatClampNeg)) : Int32).toNatClampNeg)) = 0 then 0 else ((if (cv_133 (μ 41 0 ((a1).toNatClampNeg)) μ) = 0 then ((if (cv_134 (μ 41 0 ((a1).toNatClampNeg)) μ) = 0 then 0 else ((if (μ 47 0 ((a1).toNatClampNeg)) = 1 then 1 else 0) : Int32)) : Int32) else ((if (μ 47 0 ((a1).toNatClampNeg)) = 0 then 1 else ((if (cv_134 (μ 41 0 ((a1).toNatClampNeg)) μ) = 0 then 0 else ((if (μ 47 0 ((a1).toNatClampNeg)) = 1 then 1 else 0) : Int32)) : Int32)) : Int32)) : Int32)) : Int32)), some (.inl (μ 43 0 ((a1).toNatClampNeg))), some (.inl (μ 44 0 ((a1).toNatClampNeg))), some (.inl (μ 45 0 ((a1).toNatClampNeg))), none, none, none]) (st' := [.inl a1, .inr (some (46, 0))]) (s' := μ) rfl ?_
    refine xr_ial (n := 32) rfl rfl (hi.1 c3) ?_
    refine xr_go 8 (pc' := 120) (ls' := [some (.inr (some (36, 0))), some (.inl a1), some (.inl (μ 41 0 ((a1).toNatClampNeg))), some (.inl (μ 42 0 ((a1).toNatClampNeg))), some (.inl ((if (μ 67 0 (((μ 42 0 ((a1).toNatClampNeg)) : Int32).toNatClampNeg)) = 0 then 0 else ((if (cv_133 (μ 41 0 ((a1).toNatClampNeg)) μ) = 0 then ((if (cv_134 (μ 41 0 ((a1).toNatClampNeg)) μ) = 0 then 0 else ((if (μ 47 0 ((a1).toNatClampNeg)) = 1 then 1 else 0) : Int32)) : Int32) else ((if (μ 47 0 ((a1).toNatClampNeg)) = 0 then 1 else ((if (cv_134 (μ 41 0 ((a1).toNatClampNeg)) μ) = 0 then 0 else ((if (μ 47 0 ((a1).toNatClampNeg)) = 1 then 1 else 0) : Int32)) : Int32)) : Int32)) : Int32)) : Int32)), some (.inl (μ 43 0 ((a1).toNatClampNeg))), some (.inl (μ 44 0 ((a1).toNatClampNeg))), some (.inl (μ 45 0 ((a1).toNatClampNeg))), some (.inl (μ 46 0 ((a1).toNatClampNeg))), some (.inl ((μ 36 0 9) - 1)), some (.inl a1)]) (st' := []) (s' := μ) rfl ?_
    try simp only [if_neg c3] at h
    exact tl_139_120 64 (μ 41 0 ((a1).toNatClampNeg)) (μ 42 0 ((a1).toNatClampNeg)) ((if (μ 67 0 (((μ 42 0 ((a1).toNatClampNeg)) : Int32).toNatClampNeg)) = 0 then 0 else ((if (cv_133 (μ 41 0 ((a1).toNatClampNeg)) μ) = 0 then ((if (cv_134 (μ 41 0 ((a1).toNatClampNeg)) μ) = 0 then 0 else ((if (μ 47 0 ((a1).toNatClampNeg)) = 1 then 1 else 0) : Int32)) : Int32) else ((if (μ 47 0 ((a1).toNatClampNeg)) = 0 then 1 else ((if (cv_134 (μ 41 0 ((a1).toNatClampNeg)) μ) = 0 then 0 else ((if (μ 47 0 ((a1).toNatClampNeg)) = 1 then 1 else 0) : Int32)) : Int32)) : Int32)) : Int32)) : Int32) (μ 43 0 ((a1).toNatClampNeg)) (μ 44 0 ((a1).toNatClampNeg)) (μ 45 0 ((a1).toNatClampNeg)) (μ 46 0 ((a1).toNatClampNeg)) ((μ 36 0 9) - 1) a1 μ (hi.2.2 c3) h
-- BootNetModel.message(II)I
def cv_141 (a1 : Int32) (a2 : Int32) (μ : tm_M) : Int32 := (if (a1 < 0) ∨ (((μ 36 0 9) ≤ a1) ∨ ((a2 < 0) ∨ (¬ (a2 ≤ 6)))) then (-1) else ((if a2 = 0 then (μ 41 0 ((a1).toNatClampNeg)) else ((if a2 = 1 then (μ 42 0 ((a1).toNatClampNeg)) else ((if a2 = 2 then (μ 43 0 ((a1).toNatClampNeg)) else ((if a2 = 3 then (μ 44 0 ((a1).toNatClampNeg)) else ((if a2 = 4 then (μ 45 0 ((a1).toNatClampNeg)) else ((if a2 = 5 then (μ 46 0 ((a1).toNatClampNeg)) else (μ 47 0 ((a1).toNatClampNeg))) : Int32)) : Int32)) : Int32)) : Int32)) : Int32)) : Int32))
def ci_141 (a1 : Int32) (a2 : Int32) (μ : tm_M) : Prop := ((¬ ((a1 < 0) ∨ (((μ 36 0 9) ≤ a1) ∨ ((a2 < 0) ∨ (¬ (a2 ≤ 6)))))) → (a2 = 0) → tm_ix a1 32 = true) ∧ ((¬ ((a1 < 0) ∨ (((μ 36 0 9) ≤ a1) ∨ ((a2 < 0) ∨ (¬ (a2 ≤ 6)))))) → (¬ (a2 = 0)) → (a2 = 1) → tm_ix a1 32 = true) ∧ ((¬ ((a1 < 0) ∨ (((μ 36 0 9) ≤ a1) ∨ ((a2 < 0) ∨ (¬ (a2 ≤ 6)))))) → (¬ (a2 = 0)) → (¬ (a2 = 1)) → (a2 = 2) → tm_ix a1 32 = true) ∧ ((¬ ((a1 < 0) ∨ (((μ 36 0 9) ≤ a1) ∨ ((a2 < 0) ∨ (¬ (a2 ≤ 6)))))) → (¬ (a2 = 0)) → (¬ (a2 = 1)) → (¬ (a2 = 2)) → (a2 = 3) → tm_ix a1 32 = true) ∧ ((¬ ((a1 < 0) ∨ (((μ 36 0 9) ≤ a1) ∨ ((a2 < 0) ∨ (¬ (a2 ≤ 6)))))) → (¬ (a2 = 0)) → (¬ (a2 = 1)) → (¬ (a2 = 2)) → (¬ (a2 = 3)) → (a2 = 4) → tm_ix a1 32 = true) ∧ ((¬ ((a1 < 0) ∨ (((μ 36 0 9) ≤ a1) ∨ ((a2 < 0) ∨ (¬ (a2 ≤ 6)))))) → (¬ (a2 = 0)) → (¬ (a2 = 1)) → (¬ (a2 = 2)) → (¬ (a2 = 3)) → (¬ (a2 = 4)) → (a2 = 5) → tm_ix a1 32 = true) ∧ ((¬ ((a1 < 0) ∨ (((μ 36 0 9) ≤ a1) ∨ ((a2 < 0) ∨ (¬ (a2 ≤ 6)))))) → (¬ (a2 = 0)) → (¬ (a2 = 1)) → (¬ (a2 = 2)) → (¬ (a2 = 3)) → (¬ (a2 = 4)) → (¬ (a2 = 5)) → tm_ix a1 32 = true)
set_option maxHeartbeats 4000000 in
set_option maxRecDepth 10000 in
theorem tf_141 {a1 : Int32} {a2 : Int32} (hi : ci_141 a1 a2 μ) (h : Q (some (.inl (cv_141 a1 a2 μ))) μ) : xm_MW (tm_I L xs) (d + 1) 141 [.inr (some (36, 0)), .inl a1, .inl a2] μ Q := by
  refine xr_in2 [some (.inr (some (36, 0))), some (.inl a1), some (.inl a2)] rfl rfl ?_
  unfold cv_141 at h
  unfold ci_141 at hi
  suffices hE1 : (((a1 < 0) ∨ (((μ 36 0 9) ≤ a1) ∨ ((a2 < 0) ∨ (¬ (a2 ≤ 6))))) → xr_t (tm_I L xs) (d + 0) 141 22 [some (.inr (some (36, 0))), some (.inl a1), some (.inl a2)] [] μ Q) ∧ (¬ ((a1 < 0) ∨ (((μ 36 0 9) ≤ a1) ∨ ((a2 < 0) ∨ (¬ (a2 ≤ 6))))) → xr_t (tm_I L xs) (d + 0) 141 24 [some (.inr (some (36, 0))), some (.inl a1), some (.inl a2)] [] μ Q) by
    refine xr_br 2 (c := a1 < 0) inferInstance (a := 22) (b := 4) (ls' := [some (.inr (some (36, 0))), some (.inl a1), some (.inl a2)]) (st' := []) (s' := μ) rfl (fun c1 => ?_) (fun c1 => ?_)
    · skip
      exact hE1.1 (Or.inl c1)
    · skip
      refine xr_br 4 (c := (μ 36 0 9) ≤ a1) inferInstance (a := 22) (b := 12) (ls' := [some (.inr (some (36, 0))), some (.inl a1), some (.inl a2)]) (st' := []) (s' := μ) rfl (fun c2 => ?_) (fun c2 => ?_)
      · skip
        exact hE1.1 (Or.inr (Or.inl c2))
      · skip
        refine xr_br 2 (c := a2 < 0) inferInstance (a := 22) (b := 16) (ls' := [some (.inr (some (36, 0))), some (.inl a1), some (.inl a2)]) (st' := []) (s' := μ) rfl (fun c3 => ?_) (fun c3 => ?_)
        · skip
          exact hE1.1 (Or.inr (Or.inr (Or.inl c3)))
        · skip
          refine xr_br 3 (c := a2 ≤ 6) inferInstance (a := 24) (b := 22) (ls' := [some (.inr (some (36, 0))), some (.inl a1), some (.inl a2)]) (st' := []) (s' := μ) rfl (fun c4 => ?_) (fun c4 => ?_)
          · skip
            exact hE1.2 (fun z => z.elim c1 (fun z => z.elim c2 (fun z => z.elim c3 (fun z => z c4))))
          · skip
            exact hE1.1 (Or.inr (Or.inr (Or.inr c4)))
  refine ⟨fun c5 => ?_, fun c5 => ?_⟩
  · skip
    refine xr_go 1 (pc' := 23) (ls' := [some (.inr (some (36, 0))), some (.inl a1), some (.inl a2)]) (st' := [.inl (-1)]) (s' := μ) rfl ?_
    try simp only [if_pos c5] at h
    exact xr_rt (v := some (.inl (-1))) rfl h
  · skip
    suffices hj6 : xr_t (tm_I L xs) (d + 0) 141 113 [some (.inr (some (36, 0))), some (.inl a1), some (.inl a2)] [.inl ((if a2 = 0 then (μ 41 0 ((a1).toNatClampNeg)) else ((if a2 = 1 then (μ 42 0 ((a1).toNatClampNeg)) else ((if a2 = 2 then (μ 43 0 ((a1).toNatClampNeg)) else ((if a2 = 3 then (μ 44 0 ((a1).toNatClampNeg)) else ((if a2 = 4 then (μ 45 0 ((a1).toNatClampNeg)) else ((if a2 = 5 then (μ 46 0 ((a1).toNatClampNeg)) else (μ 47 0 ((a1).toNatClampNeg))) : Int32)) : Int32)) : Int32)) : Int32)) : Int32)) : Int32)] μ Q by
      refine xr_br 2 (c := a2 = 0) inferInstance (a := 28) (b := 37) (ls' := [some (.inr (some (36, 0))), some (.inl a1), some (.inl a2)]) (st' := []) (s' := μ) rfl (fun c6 => ?_) (fun c6 => ?_)
      · skip
        refine xr_go 3 (pc' := 33) (ls' := [some (.inr (some (36, 0))), some (.inl a1), some (.inl a2)]) (st' := [.inl a1, .inr (some (41, 0))]) (s' := μ) rfl ?_
        refine xr_ial (n := 32) rfl rfl (hi.1 c5 c6) ?_
        refine xr_go 1 (pc' := 113) (ls' := [some (.inr (some (36, 0))), some (.inl a1), some (.inl a2)]) (st' := [.inl (μ 41 0 ((a1).toNatClampNeg))]) (s' := μ) rfl ?_
        have ehj6 : ((if a2 = 0 then (μ 41 0 ((a1).toNatClampNeg)) else ((if a2 = 1 then (μ 42 0 ((a1).toNatClampNeg)) else ((if a2 = 2 then (μ 43 0 ((a1).toNatClampNeg)) else ((if a2 = 3 then (μ 44 0 ((a1).toNatClampNeg)) else ((if a2 = 4 then (μ 45 0 ((a1).toNatClampNeg)) else ((if a2 = 5 then (μ 46 0 ((a1).toNatClampNeg)) else (μ 47 0 ((a1).toNatClampNeg))) : Int32)) : Int32)) : Int32)) : Int32)) : Int32)) : Int32) = (μ 41 0 ((a1).toNatClampNeg)) := by first | rfl | simp only [if_pos c6]
        rw [ehj6] at hj6
        exact hj6
      · skip
        suffices hj7 : xr_t (tm_I L xs) (d + 0) 141 113 [some (.inr (some (36, 0))), some (.inl a1), some (.inl a2)] [.inl ((if a2 = 1 then (μ 42 0 ((a1).toNatClampNeg)) else ((if a2 = 2 then (μ 43 0 ((a1).toNatClampNeg)) else ((if a2 = 3 then (μ 44 0 ((a1).toNatClampNeg)) else ((if a2 = 4 then (μ 45 0 ((a1).toNatClampNeg)) else ((if a2 = 5 then (μ 46 0 ((a1).toNatClampNeg)) else (μ 47 0 ((a1).toNatClampNeg))) : Int32)) : Int32)) : Int32)) : Int32)) : Int32)] μ Q by
          refine xr_br 3 (c := a2 = 1) inferInstance (a := 42) (b := 51) (ls' := [some (.inr (some (36, 0))), some (.inl a1), some (.inl a2)]) (st' := []) (s' := μ) rfl (fun c7 => ?_) (fun c7 => ?_)
          · skip
            refine xr_go 3 (pc' := 47) (ls' := [some (.inr (some (36, 0))), some (.inl a1), some (.inl a2)]) (st' := [.inl a1, .inr (some (42, 0))]) (s' := μ) rfl ?_
            refine xr_ial (n := 32) rfl rfl (hi.2.1 c5 c6 c7) ?_
            refine xr_go 1 (pc' := 113) (ls' := [some (.inr (some (36, 0))), some (.inl a1), some (.inl a2)]) (st' := [.inl (μ 42 0 ((a1).toNatClampNeg))]) (s' := μ) rfl ?_
            have ehj7 : ((if a2 = 1 then (μ 42 0 ((a1).toNatClampNeg)) else ((if a2 = 2 then (μ 43 0 ((a1).toNatClampNeg)) else ((if a2 = 3 then (μ 44 0 ((a1).toNatClampNeg)) else ((if a2 = 4 then (μ 45 0 ((a1).toNatClampNeg)) else ((if a2 = 5 then (μ 46 0 ((a1).toNatClampNeg)) else (μ 47 0 ((a1).toNatClampNeg))) : Int32)) : Int32)) : Int32)) : Int32)) : Int32) = (μ 42 0 ((a1).toNatClampNeg)) := by first | rfl | simp only [if_pos c7]
            rw [ehj7] at hj7
            exact hj7
          · skip
            suffices hj8 : xr_t (tm_I L xs) (d + 0) 141 113 [some (.inr (some (36, 0))), some (.inl a1), some (.inl a2)] [.inl ((if a2 = 2 then (μ 43 0 ((a1).toNatClampNeg)) else ((if a2 = 3 then (μ 44 0 ((a1).toNatClampNeg)) else ((if a2 = 4 then (μ 45 0 ((a1).toNatClampNeg)) else ((if a2 = 5 then (μ 46 0 ((a1).toNatClampNeg)) else (μ 47 0 ((a1).toNatClampNeg))) : Int32)) : Int32)) : Int32)) : Int32)] μ Q by
              refine xr_br 3 (c := a2 = 2) inferInstance (a := 56) (b := 65) (ls' := [some (.inr (some (36, 0))), some (.inl a1), some (.inl a2)]) (st' := []) (s' := μ) rfl (fun c8 => ?_) (fun c8 => ?_)
              · skip
                refine xr_go 3 (pc' := 61) (ls' := [some (.inr (some (36, 0))), some (.inl a1), some (.inl a2)]) (st' := [.inl a1, .inr (some (43, 0))]) (s' := μ) rfl ?_
                refine xr_ial (n := 32) rfl rfl (hi.2.2.1 c5 c6 c7 c8) ?_
                refine xr_go 1 (pc' := 113) (ls' := [some (.inr (some (36, 0))), some (.inl a1), some (.inl a2)]) (st' := [.inl (μ 43 0 ((a1).toNatClampNeg))]) (s' := μ) rfl ?_
                have ehj8 : ((if a2 = 2 then (μ 43 0 ((a1).toNatClampNeg)) else ((if a2 = 3 then (μ 44 0 ((a1).toNatClampNeg)) else ((if a2 = 4 then (μ 45 0 ((a1).toNatClampNeg)) else ((if a2 = 5 then (μ 46 0 ((a1).toNatClampNeg)) else (μ 47 0 ((a1).toNatClampNeg))) : Int32)) : Int32)) : Int32)) : Int32) = (μ 43 0 ((a1).toNatClampNeg)) := by first | rfl | simp only [if_pos c8]
                rw [ehj8] at hj8
                exact hj8
              · skip
                suffices hj9 : xr_t (tm_I L xs) (d + 0) 141 113 [some (.inr (some (36, 0))), some (.inl a1), some (.inl a2)] [.inl ((if a2 = 3 then (μ 44 0 ((a1).toNatClampNeg)) else ((if a2 = 4 then (μ 45 0 ((a1).toNatClampNeg)) else ((if a2 = 5 then (μ 46 0 ((a1).toNatClampNeg)) else (μ 47 0 ((a1).toNatClampNeg))) : Int32)) : Int32)) : Int32)] μ Q by
                  refine xr_br 3 (c := a2 = 3) inferInstance (a := 70) (b := 79) (ls' := [some (.inr (some (36, 0))), some (.inl a1), some (.inl a2)]) (st' := []) (s' := μ) rfl (fun c9 => ?_) (fun c9 => ?_)
                  · skip
                    refine xr_go 3 (pc' := 75) (ls' := [some (.inr (some (36, 0))), some (.inl a1), some (.inl a2)]) (st' := [.inl a1, .inr (some (44, 0))]) (s' := μ) rfl ?_
                    refine xr_ial (n := 32) rfl rfl (hi.2.2.2.1 c5 c6 c7 c8 c9) ?_
                    refine xr_go 1 (pc' := 113) (ls' := [some (.inr (some (36, 0))), some (.inl a1), some (.inl a2)]) (st' := [.inl (μ 44 0 ((a1).toNatClampNeg))]) (s' := μ) rfl ?_
                    have ehj9 : ((if a2 = 3 then (μ 44 0 ((a1).toNatClampNeg)) else ((if a2 = 4 then (μ 45 0 ((a1).toNatClampNeg)) else ((if a2 = 5 then (μ 46 0 ((a1).toNatClampNeg)) else (μ 47 0 ((a1).toNatClampNeg))) : Int32)) : Int32)) : Int32) = (μ 44 0 ((a1).toNatClampNeg)) := by first | rfl | simp only [if_pos c9]
                    rw [ehj9] at hj9
                    exact hj9
                  · skip
                    suffices hj10 : xr_t (tm_I L xs) (d + 0) 141 113 [some (.inr (some (36, 0))), some (.inl a1), some (.inl a2)] [.inl ((if a2 = 4 then (μ 45 0 ((a1).toNatClampNeg)) else ((if a2 = 5 then (μ 46 0 ((a1).toNatClampNeg)) else (μ 47 0 ((a1).toNatClampNeg))) : Int32)) : Int32)] μ Q by
                      refine xr_br 3 (c := a2 = 4) inferInstance (a := 84) (b := 93) (ls' := [some (.inr (some (36, 0))), some (.inl a1), some (.inl a2)]) (st' := []) (s' := μ) rfl (fun c10 => ?_) (fun c10 => ?_)
                      · skip
                        refine xr_go 3 (pc' := 89) (ls' := [some (.inr (some (36, 0))), some (.inl a1), some (.inl a2)]) (st' := [.inl a1, .inr (some (45, 0))]) (s' := μ) rfl ?_
                        refine xr_ial (n := 32) rfl rfl (hi.2.2.2.2.1 c5 c6 c7 c8 c9 c10) ?_
                        refine xr_go 1 (pc' := 113) (ls' := [some (.inr (some (36, 0))), some (.inl a1), some (.inl a2)]) (st' := [.inl (μ 45 0 ((a1).toNatClampNeg))]) (s' := μ) rfl ?_
                        have ehj10 : ((if a2 = 4 then (μ 45 0 ((a1).toNatClampNeg)) else ((if a2 = 5 then (μ 46 0 ((a1).toNatClampNeg)) else (μ 47 0 ((a1).toNatClampNeg))) : Int32)) : Int32) = (μ 45 0 ((a1).toNatClampNeg)) := by first | rfl | simp only [if_pos c10]
                        rw [ehj10] at hj10
                        exact hj10
                      · skip
                        suffices hj11 : xr_t (tm_I L xs) (d + 0) 141 113 [some (.inr (some (36, 0))), some (.inl a1), some (.inl a2)] [.inl ((if a2 = 5 then (μ 46 0 ((a1).toNatClampNeg)) else (μ 47 0 ((a1).toNatClampNeg))) : Int32)] μ Q by
                          refine xr_br 3 (c := a2 = 5) inferInstance (a := 98) (b := 107) (ls' := [some (.inr (some (36, 0))), some (.inl a1), some (.inl a2)]) (st' := []) (s' := μ) rfl (fun c11 => ?_) (fun c11 => ?_)
                          · skip
                            refine xr_go 3 (pc' := 103) (ls' := [some (.inr (some (36, 0))), some (.inl a1), some (.inl a2)]) (st' := [.inl a1, .inr (some (46, 0))]) (s' := μ) rfl ?_
                            refine xr_ial (n := 32) rfl rfl (hi.2.2.2.2.2.1 c5 c6 c7 c8 c9 c10 c11) ?_
                            refine xr_go 1 (pc' := 113) (ls' := [some (.inr (some (36, 0))), some (.inl a1), some (.inl a2)]) (st' := [.inl (μ 46 0 ((a1).toNatClampNeg))]) (s' := μ) rfl ?_
                            have ehj11 : ((if a2 = 5 then (μ 46 0 ((a1).toNatClampNeg)) else (μ 47 0 ((a1).toNatClampNeg))) : Int32) = (μ 46 0 ((a1).toNatClampNeg)) := by first | rfl | simp only [if_pos c11]
                            rw [ehj11] at hj11
                            exact hj11
                          · skip
                            refine xr_go 3 (pc' := 112) (ls' := [some (.inr (some (36, 0))), some (.inl a1), some (.inl a2)]) (st' := [.inl a1, .inr (some (47, 0))]) (s' := μ) rfl ?_
                            refine xr_ial (n := 32) rfl rfl (hi.2.2.2.2.2.2 c5 c6 c7 c8 c9 c10 c11) ?_
                            have ehj11 : ((if a2 = 5 then (μ 46 0 ((a1).toNatClampNeg)) else (μ 47 0 ((a1).toNatClampNeg))) : Int32) = (μ 47 0 ((a1).toNatClampNeg)) := by first | rfl | simp only [if_neg c11]
                            rw [ehj11] at hj11
                            exact hj11
                        have ehj10 : ((if a2 = 4 then (μ 45 0 ((a1).toNatClampNeg)) else ((if a2 = 5 then (μ 46 0 ((a1).toNatClampNeg)) else (μ 47 0 ((a1).toNatClampNeg))) : Int32)) : Int32) = ((if a2 = 5 then (μ 46 0 ((a1).toNatClampNeg)) else (μ 47 0 ((a1).toNatClampNeg))) : Int32) := by first | rfl | simp only [if_neg c10]
                        rw [ehj10] at hj10
                        exact hj10
                    have ehj9 : ((if a2 = 3 then (μ 44 0 ((a1).toNatClampNeg)) else ((if a2 = 4 then (μ 45 0 ((a1).toNatClampNeg)) else ((if a2 = 5 then (μ 46 0 ((a1).toNatClampNeg)) else (μ 47 0 ((a1).toNatClampNeg))) : Int32)) : Int32)) : Int32) = ((if a2 = 4 then (μ 45 0 ((a1).toNatClampNeg)) else ((if a2 = 5 then (μ 46 0 ((a1).toNatClampNeg)) else (μ 47 0 ((a1).toNatClampNeg))) : Int32)) : Int32) := by first | rfl | simp only [if_neg c9]
                    rw [ehj9] at hj9
                    exact hj9
                have ehj8 : ((if a2 = 2 then (μ 43 0 ((a1).toNatClampNeg)) else ((if a2 = 3 then (μ 44 0 ((a1).toNatClampNeg)) else ((if a2 = 4 then (μ 45 0 ((a1).toNatClampNeg)) else ((if a2 = 5 then (μ 46 0 ((a1).toNatClampNeg)) else (μ 47 0 ((a1).toNatClampNeg))) : Int32)) : Int32)) : Int32)) : Int32) = ((if a2 = 3 then (μ 44 0 ((a1).toNatClampNeg)) else ((if a2 = 4 then (μ 45 0 ((a1).toNatClampNeg)) else ((if a2 = 5 then (μ 46 0 ((a1).toNatClampNeg)) else (μ 47 0 ((a1).toNatClampNeg))) : Int32)) : Int32)) : Int32) := by first | rfl | simp only [if_neg c8]
                rw [ehj8] at hj8
                exact hj8
            have ehj7 : ((if a2 = 1 then (μ 42 0 ((a1).toNatClampNeg)) else ((if a2 = 2 then (μ 43 0 ((a1).toNatClampNeg)) else ((if a2 = 3 then (μ 44 0 ((a1).toNatClampNeg)) else ((if a2 = 4 then (μ 45 0 ((a1).toNatClampNeg)) else ((if a2 = 5 then (μ 46 0 ((a1).toNatClampNeg)) else (μ 47 0 ((a1).toNatClampNeg))) : Int32)) : Int32)) : Int32)) : Int32)) : Int32) = ((if a2 = 2 then (μ 43 0 ((a1).toNatClampNeg)) else ((if a2 = 3 then (μ 44 0 ((a1).toNatClampNeg)) else ((if a2 = 4 then (μ 45 0 ((a1).toNatClampNeg)) else ((if a2 = 5 then (μ 46 0 ((a1).toNatClampNeg)) else (μ 47 0 ((a1).toNatClampNeg))) : Int32)) : Int32)) : Int32)) : Int32) := by first | rfl | simp only [if_neg c7]
            rw [ehj7] at hj7
            exact hj7
        have ehj6 : ((if a2 = 0 then (μ 41 0 ((a1).toNatClampNeg)) else ((if a2 = 1 then (μ 42 0 ((a1).toNatClampNeg)) else ((if a2 = 2 then (μ 43 0 ((a1).toNatClampNeg)) else ((if a2 = 3 then (μ 44 0 ((a1).toNatClampNeg)) else ((if a2 = 4 then (μ 45 0 ((a1).toNatClampNeg)) else ((if a2 = 5 then (μ 46 0 ((a1).toNatClampNeg)) else (μ 47 0 ((a1).toNatClampNeg))) : Int32)) : Int32)) : Int32)) : Int32)) : Int32)) : Int32) = ((if a2 = 1 then (μ 42 0 ((a1).toNatClampNeg)) else ((if a2 = 2 then (μ 43 0 ((a1).toNatClampNeg)) else ((if a2 = 3 then (μ 44 0 ((a1).toNatClampNeg)) else ((if a2 = 4 then (μ 45 0 ((a1).toNatClampNeg)) else ((if a2 = 5 then (μ 46 0 ((a1).toNatClampNeg)) else (μ 47 0 ((a1).toNatClampNeg))) : Int32)) : Int32)) : Int32)) : Int32)) : Int32) := by first | rfl | simp only [if_neg c6]
        rw [ehj6] at hj6
        exact hj6
    try simp only [if_neg c5] at h
    exact xr_rt (v := some (.inl ((if a2 = 0 then (μ 41 0 ((a1).toNatClampNeg)) else ((if a2 = 1 then (μ 42 0 ((a1).toNatClampNeg)) else ((if a2 = 2 then (μ 43 0 ((a1).toNatClampNeg)) else ((if a2 = 3 then (μ 44 0 ((a1).toNatClampNeg)) else ((if a2 = 4 then (μ 45 0 ((a1).toNatClampNeg)) else ((if a2 = 5 then (μ 46 0 ((a1).toNatClampNeg)) else (μ 47 0 ((a1).toNatClampNeg))) : Int32)) : Int32)) : Int32)) : Int32)) : Int32)) : Int32))) rfl h
-- BootNetModel.crash()I
def cv_153_58  : Nat → Int32 → tm_M → Int32
  | 0, _, _ => 0
  | n + 1, l1, μ => (if (μ 36 0 29) ≤ l1 then (μ 36 0 29) else (cv_153_58 n (l1 + 1) (tm_wr (tm_wr μ 54 0 (((μ 59 0 ((l1).toNatClampNeg)) : Int32).toNatClampNeg) (μ 60 0 ((l1).toNatClampNeg))) 55 0 (((μ 59 0 ((l1).toNatClampNeg)) : Int32).toNatClampNeg) (μ 61 0 ((l1).toNatClampNeg)))))
def cs_153_58  : Nat → Int32 → tm_M → tm_M
  | 0, _, μ => μ
  | n + 1, l1, μ => (if (μ 36 0 29) ≤ l1 then μ else (cs_153_58 n (l1 + 1) (tm_wr (tm_wr μ 54 0 (((μ 59 0 ((l1).toNatClampNeg)) : Int32).toNatClampNeg) (μ 60 0 ((l1).toNatClampNeg))) 55 0 (((μ 59 0 ((l1).toNatClampNeg)) : Int32).toNatClampNeg) (μ 61 0 ((l1).toNatClampNeg)))))
def ci_153_58  : Nat → Int32 → tm_M → Prop
  | 0, _, _ => False
  | n + 1, l1, μ => ((¬ ((μ 36 0 29) ≤ l1)) → tm_ix l1 16 = true) ∧ ((¬ ((μ 36 0 29) ≤ l1)) → tm_ix (μ 59 0 ((l1).toNatClampNeg)) 30 = true) ∧ ((¬ ((μ 36 0 29) ≤ l1)) → ci_153_58 n (l1 + 1) (tm_wr (tm_wr μ 54 0 (((μ 59 0 ((l1).toNatClampNeg)) : Int32).toNatClampNeg) (μ 60 0 ((l1).toNatClampNeg))) 55 0 (((μ 59 0 ((l1).toNatClampNeg)) : Int32).toNatClampNeg) (μ 61 0 ((l1).toNatClampNeg))))
set_option maxHeartbeats 4000000 in
set_option maxRecDepth 10000 in
theorem tl_153_58  : ∀ (n : Nat) (l1 : Int32) (μ : tm_M), ci_153_58 n l1 μ → Q (some (.inl (cv_153_58 n l1 μ))) (cs_153_58 n l1 μ) → xr_t (tm_I L xs) (d + 0) 153 58 [some (.inr (some (36, 0))), some (.inl l1)] [] μ Q := by
  intro n
  induction n with
  | zero => intro l1 μ hi; exact hi.elim
  | succ n ih =>
    intro l1 μ hi h
    unfold ci_153_58 at hi
    simp only [cv_153_58, cs_153_58] at h
    refine xr_br 4 (c := (μ 36 0 29) ≤ l1) inferInstance (a := 106) (b := 66) (ls' := [some (.inr (some (36, 0))), some (.inl l1)]) (st' := []) (s' := μ) rfl (fun c1 => ?_) (fun c1 => ?_)
    · skip
      refine xr_go 2 (pc' := 110) (ls' := [some (.inr (some (36, 0))), some (.inl l1)]) (st' := [.inl (μ 36 0 29)]) (s' := μ) rfl ?_
      try simp only [if_pos c1] at h
      exact xr_rt (v := some (.inl (μ 36 0 29))) rfl h
    · skip
      refine xr_go 5 (pc' := 75) (ls' := [some (.inr (some (36, 0))), some (.inl l1)]) (st' := [.inl l1, .inr (some (59, 0)), .inr (some (54, 0))]) (s' := μ) rfl ?_
      refine xr_ial (n := 16) rfl rfl (hi.1 c1) ?_
      refine xr_go 3 (pc' := 81) (ls' := [some (.inr (some (36, 0))), some (.inl l1)]) (st' := [.inl l1, .inr (some (60, 0)), .inl (μ 59 0 ((l1).toNatClampNeg)), .inr (some (54, 0))]) (s' := μ) rfl ?_
      refine xr_ial (n := 16) rfl rfl (hi.1 c1) ?_
      refine xr_ias (n := 30) rfl rfl (hi.2.1 c1) ?_
      refine xr_go 5 (pc' := 92) (ls' := [some (.inr (some (36, 0))), some (.inl l1)]) (st' := [.inl l1, .inr (some (59, 0)), .inr (some (55, 0))]) (s' := (tm_wr μ 54 0 (((μ 59 0 ((l1).toNatClampNeg)) : Int32).toNatClampNeg) (μ 60 0 ((l1).toNatClampNeg)))) rfl ?_
      refine xr_ial (n := 16) rfl rfl (hi.1 c1) ?_
      refine xr_go 3 (pc' := 98) (ls' := [some (.inr (some (36, 0))), some (.inl l1)]) (st' := [.inl l1, .inr (some (61, 0)), .inl (μ 59 0 ((l1).toNatClampNeg)), .inr (some (55, 0))]) (s' := (tm_wr μ 54 0 (((μ 59 0 ((l1).toNatClampNeg)) : Int32).toNatClampNeg) (μ 60 0 ((l1).toNatClampNeg)))) rfl ?_
      refine xr_ial (n := 16) rfl rfl (hi.1 c1) ?_
      refine xr_ias (n := 30) rfl rfl (hi.2.1 c1) ?_
      refine xr_go 2 (pc' := 58) (ls' := [some (.inr (some (36, 0))), some (.inl (l1 + 1))]) (st' := []) (s' := (tm_wr (tm_wr μ 54 0 (((μ 59 0 ((l1).toNatClampNeg)) : Int32).toNatClampNeg) (μ 60 0 ((l1).toNatClampNeg))) 55 0 (((μ 59 0 ((l1).toNatClampNeg)) : Int32).toNatClampNeg) (μ 61 0 ((l1).toNatClampNeg)))) rfl ?_
      try simp only [if_neg c1] at h
      exact ih (l1 + 1) (tm_wr (tm_wr μ 54 0 (((μ 59 0 ((l1).toNatClampNeg)) : Int32).toNatClampNeg) (μ 60 0 ((l1).toNatClampNeg))) 55 0 (((μ 59 0 ((l1).toNatClampNeg)) : Int32).toNatClampNeg) (μ 61 0 ((l1).toNatClampNeg))) (hi.2.2 c1) h
def cv_153_37  : Nat → Int32 → tm_M → Int32
  | 0, _, _ => 0
  | n + 1, l1, μ => (if (6 : Int32) ≤ l1 then (cv_153_58 64 0 μ) else (cv_153_37 n (l1 + 1) (tm_wr μ 62 0 ((l1).toNatClampNeg) 0)))
def cs_153_37  : Nat → Int32 → tm_M → tm_M
  | 0, _, μ => μ
  | n + 1, l1, μ => (if (6 : Int32) ≤ l1 then (cs_153_58 64 0 μ) else (cs_153_37 n (l1 + 1) (tm_wr μ 62 0 ((l1).toNatClampNeg) 0)))
def ci_153_37  : Nat → Int32 → tm_M → Prop
  | 0, _, _ => False
  | n + 1, l1, μ => (((6 : Int32) ≤ l1) → ci_153_58 64 0 μ) ∧ ((¬ ((6 : Int32) ≤ l1)) → tm_ix l1 6 = true) ∧ ((¬ ((6 : Int32) ≤ l1)) → ci_153_37 n (l1 + 1) (tm_wr μ 62 0 ((l1).toNatClampNeg) 0))
set_option maxHeartbeats 4000000 in
set_option maxRecDepth 10000 in
theorem tl_153_37  : ∀ (n : Nat) (l1 : Int32) (μ : tm_M), ci_153_37 n l1 μ → Q (some (.inl (cv_153_37 n l1 μ))) (cs_153_37 n l1 μ) → xr_t (tm_I L xs) (d + 0) 153 37 [some (.inr (some (36, 0))), some (.inl l1)] [] μ Q := by
  intro n
  induction n with
  | zero => intro l1 μ hi; exact hi.elim
  | succ n ih =>
    intro l1 μ hi h
    unfold ci_153_37 at hi
    simp only [cv_153_37, cs_153_37] at h
    refine xr_br 3 (c := (6 : Int32) ≤ l1) inferInstance (a := 56) (b := 43) (ls' := [some (.inr (some (36, 0))), some (.inl l1)]) (st' := []) (s' := μ) rfl (fun c1 => ?_) (fun c1 => ?_)
    · skip
      refine xr_go 2 (pc' := 58) (ls' := [some (.inr (some (36, 0))), some (.inl 0)]) (st' := []) (s' := μ) rfl ?_
      try simp only [if_pos c1] at h
      exact tl_153_58 64 0 μ (hi.1 c1) h
    · skip
      refine xr_go 4 (pc' := 49) (ls' := [some (.inr (some (36, 0))), some (.inl l1)]) (st' := [.inl 0, .inl l1, .inr (some (62, 0))]) (s' := μ) rfl ?_
      refine xr_ias (n := 6) rfl rfl (hi.2.1 c1) ?_
      refine xr_go 2 (pc' := 37) (ls' := [some (.inr (some (36, 0))), some (.inl (l1 + 1))]) (st' := []) (s' := (tm_wr μ 62 0 ((l1).toNatClampNeg) 0)) rfl ?_
      try simp only [if_neg c1] at h
      exact ih (l1 + 1) (tm_wr μ 62 0 ((l1).toNatClampNeg) 0) (hi.2.2 c1) h
def cv_153_2  : Nat → Int32 → tm_M → Int32
  | 0, _, _ => 0
  | n + 1, l1, μ => (if (30 : Int32) ≤ l1 then (cv_153_37 64 0 μ) else (cv_153_2 n (l1 + 1) (tm_wr (tm_wr (tm_wr μ 57 0 ((l1).toNatClampNeg) 0) 58 0 ((l1).toNatClampNeg) 0) 55 0 ((l1).toNatClampNeg) 0)))
def cs_153_2  : Nat → Int32 → tm_M → tm_M
  | 0, _, μ => μ
  | n + 1, l1, μ => (if (30 : Int32) ≤ l1 then (cs_153_37 64 0 μ) else (cs_153_2 n (l1 + 1) (tm_wr (tm_wr (tm_wr μ 57 0 ((l1).toNatClampNeg) 0) 58 0 ((l1).toNatClampNeg) 0) 55 0 ((l1).toNatClampNeg) 0)))
def ci_153_2  : Nat → Int32 → tm_M → Prop
  | 0, _, _ => False
  | n + 1, l1, μ => (((30 : Int32) ≤ l1) → ci_153_37 64 0 μ) ∧ ((¬ ((30 : Int32) ≤ l1)) → tm_ix l1 30 = true) ∧ ((¬ ((30 : Int32) ≤ l1)) → ci_153_2 n (l1 + 1) (tm_wr (tm_wr (tm_wr μ 57 0 ((l1).toNatClampNeg) 0) 58 0 ((l1).toNatClampNeg) 0) 55 0 ((l1).toNatClampNeg) 0))
set_option maxHeartbeats 4000000 in
set_option maxRecDepth 10000 in
theorem tl_153_2  : ∀ (n : Nat) (l1 : Int32) (μ : tm_M), ci_153_2 n l1 μ → Q (some (.inl (cv_153_2 n l1 μ))) (cs_153_2 n l1 μ) → xr_t (tm_I L xs) (d + 0) 153 2 [some (.inr (some (36, 0))), some (.inl l1)] [] μ Q := by
  intro n
  induction n with
  | zero => intro l1 μ hi; exact hi.elim
  | succ n ih =>
    intro l1 μ hi h
    unfold ci_153_2 at hi
    simp only [cv_153_2, cs_153_2] at h
    refine xr_br 3 (c := (30 : Int32) ≤ l1) inferInstance (a := 35) (b := 8) (ls' := [some (.inr (some (36, 0))), some (.inl l1)]) (st' := []) (s' := μ) rfl (fun c1 => ?_) (fun c1 => ?_)
    · skip
      refine xr_go 2 (pc' := 37) (ls' := [some (.inr (some (36, 0))), some (.inl 0)]) (st' := []) (s' := μ) rfl ?_
      try simp only [if_pos c1] at h
      exact tl_153_37 64 0 μ (hi.1 c1) h
    · skip
      refine xr_go 4 (pc' := 14) (ls' := [some (.inr (some (36, 0))), some (.inl l1)]) (st' := [.inl 0, .inl l1, .inr (some (57, 0))]) (s' := μ) rfl ?_
      refine xr_ias (n := 30) rfl rfl (hi.2.1 c1) ?_
      refine xr_go 4 (pc' := 21) (ls' := [some (.inr (some (36, 0))), some (.inl l1)]) (st' := [.inl 0, .inl l1, .inr (some (58, 0))]) (s' := (tm_wr μ 57 0 ((l1).toNatClampNeg) 0)) rfl ?_
      refine xr_ias (n := 30) rfl rfl (hi.2.1 c1) ?_
      refine xr_go 4 (pc' := 28) (ls' := [some (.inr (some (36, 0))), some (.inl l1)]) (st' := [.inl 0, .inl l1, .inr (some (55, 0))]) (s' := (tm_wr (tm_wr μ 57 0 ((l1).toNatClampNeg) 0) 58 0 ((l1).toNatClampNeg) 0)) rfl ?_
      refine xr_ias (n := 30) rfl rfl (hi.2.1 c1) ?_
      refine xr_go 2 (pc' := 2) (ls' := [some (.inr (some (36, 0))), some (.inl (l1 + 1))]) (st' := []) (s' := (tm_wr (tm_wr (tm_wr μ 57 0 ((l1).toNatClampNeg) 0) 58 0 ((l1).toNatClampNeg) 0) 55 0 ((l1).toNatClampNeg) 0)) rfl ?_
      try simp only [if_neg c1] at h
      exact ih (l1 + 1) (tm_wr (tm_wr (tm_wr μ 57 0 ((l1).toNatClampNeg) 0) 58 0 ((l1).toNatClampNeg) 0) 55 0 ((l1).toNatClampNeg) 0) (hi.2.2 c1) h
def cv_153  (μ : tm_M) : Int32 := (cv_153_2 64 0 μ)
def cs_153  (μ : tm_M) : tm_M := (cs_153_2 64 0 μ)
def ci_153  (μ : tm_M) : Prop := (ci_153_2 64 0 μ)
set_option maxHeartbeats 4000000 in
set_option maxRecDepth 10000 in
theorem tf_153  (hi : ci_153 μ) (h : Q (some (.inl (cv_153 μ))) (cs_153 μ)) : xm_MW (tm_I L xs) (d + 1) 153 [.inr (some (36, 0))] μ Q := by
  refine xr_in2 [some (.inr (some (36, 0))), none] rfl rfl ?_
  unfold cv_153 cs_153 at h
  unfold ci_153 at hi
  refine xr_go 2 (pc' := 2) (ls' := [some (.inr (some (36, 0))), some (.inl 0)]) (st' := []) (s' := μ) rfl ?_
  exact tl_153_2 64 0 μ (hi) h
-- BootNetModel.lease(II)I
def cv_154 (a1 : Int32) (a2 : Int32) (μ : tm_M) : Int32 := (if ((cv_123 a1 μ) = 0) ∨ ((a2 < 0) ∨ (¬ (a2 ≤ 3))) then (-1) else (if a2 = 3 then ((if (μ 58 0 ((a1).toNatClampNeg)) ≤ (μ 36 0 3) then (-1) else (μ 58 0 ((a1).toNatClampNeg))) : Int32) else (if a2 = 2 then ((if (μ 57 0 ((a1).toNatClampNeg)) ≤ (μ 36 0 3) then (-1) else (μ 56 0 ((a1).toNatClampNeg))) : Int32) else ((if (μ 36 0 3) < (μ 55 0 ((a1).toNatClampNeg)) then ((if a2 = 0 then (μ 54 0 ((a1).toNatClampNeg)) else (μ 55 0 ((a1).toNatClampNeg))) : Int32) else (-1)) : Int32))))
def ci_154 (a1 : Int32) (a2 : Int32) (μ : tm_M) : Prop := ((¬ (((cv_123 a1 μ) = 0) ∨ ((a2 < 0) ∨ (¬ (a2 ≤ 3))))) → (a2 = 3) → tm_ix a1 30 = true) ∧ ((¬ (((cv_123 a1 μ) = 0) ∨ ((a2 < 0) ∨ (¬ (a2 ≤ 3))))) → (¬ (a2 = 3)) → (a2 = 2) → tm_ix a1 30 = true) ∧ ((¬ (((cv_123 a1 μ) = 0) ∨ ((a2 < 0) ∨ (¬ (a2 ≤ 3))))) → (¬ (a2 = 3)) → (¬ (a2 = 2)) → tm_ix a1 30 = true)
set_option maxHeartbeats 4000000 in
set_option maxRecDepth 10000 in
theorem tf_154 {a1 : Int32} {a2 : Int32} (hi : ci_154 a1 a2 μ) (h : Q (some (.inl (cv_154 a1 a2 μ))) μ) : xm_MW (tm_I L xs) (d + 2) 154 [.inr (some (36, 0)), .inl a1, .inl a2] μ Q := by
  refine xr_in2 [some (.inr (some (36, 0))), some (.inl a1), some (.inl a2)] rfl rfl ?_
  unfold cv_154 at h
  unfold ci_154 at hi
  refine xr_go 1 (pc' := 1) (ls' := [some (.inr (some (36, 0))), some (.inl a1), some (.inl a2)]) (st' := [.inl a1]) (s' := μ) rfl ?_
  refine xr_cl (y' := 123) (as := [.inl a1]) (r := []) rfl rfl ?_
  refine tf_123 (d := d + 0) (μ := μ) (a1 := a1) ?_
  show xr_t (tm_I L xs) (d + 1) 154 4 [some (.inr (some (36, 0))), some (.inl a1), some (.inl a2)] [.inl (cv_123 a1 μ)] μ Q
  have z1 : (cv_123 a1 μ) = 0 ∨ (cv_123 a1 μ) = 1 := cz_123
  generalize gv1 : (cv_123 a1 μ) = v1 at h hi z1 ⊢
  suffices hE1 : (((v1 = 0) ∨ ((a2 < 0) ∨ (¬ (a2 ≤ 3)))) → xr_t (tm_I L xs) (d + 1) 154 16 [some (.inr (some (36, 0))), some (.inl a1), some (.inl a2)] [] μ Q) ∧ (¬ ((v1 = 0) ∨ ((a2 < 0) ∨ (¬ (a2 ≤ 3)))) → xr_t (tm_I L xs) (d + 1) 154 18 [some (.inr (some (36, 0))), some (.inl a1), some (.inl a2)] [] μ Q) by
    refine xr_br 1 (c := v1 = 0) inferInstance (a := 16) (b := 7) (ls' := [some (.inr (some (36, 0))), some (.inl a1), some (.inl a2)]) (st' := []) (s' := μ) rfl (fun c1 => ?_) (fun c1 => ?_)
    · skip
      exact hE1.1 (Or.inl c1)
    · skip
      refine xr_br 2 (c := a2 < 0) inferInstance (a := 16) (b := 11) (ls' := [some (.inr (some (36, 0))), some (.inl a1), some (.inl a2)]) (st' := []) (s' := μ) rfl (fun c2 => ?_) (fun c2 => ?_)
      · skip
        exact hE1.1 (Or.inr (Or.inl c2))
      · skip
        refine xr_br 3 (c := a2 ≤ 3) inferInstance (a := 18) (b := 16) (ls' := [some (.inr (some (36, 0))), some (.inl a1), some (.inl a2)]) (st' := []) (s' := μ) rfl (fun c3 => ?_) (fun c3 => ?_)
        · skip
          exact hE1.2 (fun z => z.elim c1 (fun z => z.elim c2 (fun z => z c3)))
        · skip
          exact hE1.1 (Or.inr (Or.inr c3))
  refine ⟨fun c4 => ?_, fun c4 => ?_⟩
  · skip
    refine xr_go 1 (pc' := 17) (ls' := [some (.inr (some (36, 0))), some (.inl a1), some (.inl a2)]) (st' := [.inl (-1)]) (s' := μ) rfl ?_
    try simp only [if_pos c4] at h
    exact xr_rt (v := some (.inl (-1))) rfl h
  · skip
    refine xr_br 3 (c := a2 = 3) inferInstance (a := 23) (b := 47) (ls' := [some (.inr (some (36, 0))), some (.inl a1), some (.inl a2)]) (st' := []) (s' := μ) rfl (fun c5 => ?_) (fun c5 => ?_)
    · skip
      refine xr_go 3 (pc' := 28) (ls' := [some (.inr (some (36, 0))), some (.inl a1), some (.inl a2)]) (st' := [.inl a1, .inr (some (58, 0))]) (s' := μ) rfl ?_
      refine xr_ial (n := 30) rfl rfl (hi.1 c4 c5) ?_
      suffices hj6 : xr_t (tm_I L xs) (d + 1) 154 46 [some (.inr (some (36, 0))), some (.inl a1), some (.inl a2)] [.inl ((if (μ 58 0 ((a1).toNatClampNeg)) ≤ (μ 36 0 3) then (-1) else (μ 58 0 ((a1).toNatClampNeg))) : Int32)] μ Q by
        refine xr_br 3 (c := (μ 58 0 ((a1).toNatClampNeg)) ≤ (μ 36 0 3)) inferInstance (a := 45) (b := 36) (ls' := [some (.inr (some (36, 0))), some (.inl a1), some (.inl a2)]) (st' := []) (s' := μ) rfl (fun c6 => ?_) (fun c6 => ?_)
        · skip
          refine xr_go 1 (pc' := 46) (ls' := [some (.inr (some (36, 0))), some (.inl a1), some (.inl a2)]) (st' := [.inl (-1)]) (s' := μ) rfl ?_
          have ehj6 : ((if (μ 58 0 ((a1).toNatClampNeg)) ≤ (μ 36 0 3) then (-1) else (μ 58 0 ((a1).toNatClampNeg))) : Int32) = (-1) := by first | rfl | simp only [if_pos c6]
          rw [ehj6] at hj6
          exact hj6
        · skip
          refine xr_go 3 (pc' := 41) (ls' := [some (.inr (some (36, 0))), some (.inl a1), some (.inl a2)]) (st' := [.inl a1, .inr (some (58, 0))]) (s' := μ) rfl ?_
          refine xr_ial (n := 30) rfl rfl (hi.1 c4 c5) ?_
          refine xr_go 1 (pc' := 46) (ls' := [some (.inr (some (36, 0))), some (.inl a1), some (.inl a2)]) (st' := [.inl (μ 58 0 ((a1).toNatClampNeg))]) (s' := μ) rfl ?_
          have ehj6 : ((if (μ 58 0 ((a1).toNatClampNeg)) ≤ (μ 36 0 3) then (-1) else (μ 58 0 ((a1).toNatClampNeg))) : Int32) = (μ 58 0 ((a1).toNatClampNeg)) := by first | rfl | simp only [if_neg c6]
          rw [ehj6] at hj6
          exact hj6
      try simp only [if_neg c4, if_pos c5] at h
      exact xr_rt (v := some (.inl ((if (μ 58 0 ((a1).toNatClampNeg)) ≤ (μ 36 0 3) then (-1) else (μ 58 0 ((a1).toNatClampNeg))) : Int32))) rfl h
    · skip
      refine xr_br 3 (c := a2 = 2) inferInstance (a := 52) (b := 76) (ls' := [some (.inr (some (36, 0))), some (.inl a1), some (.inl a2)]) (st' := []) (s' := μ) rfl (fun c7 => ?_) (fun c7 => ?_)
      · skip
        refine xr_go 3 (pc' := 57) (ls' := [some (.inr (some (36, 0))), some (.inl a1), some (.inl a2)]) (st' := [.inl a1, .inr (some (57, 0))]) (s' := μ) rfl ?_
        refine xr_ial (n := 30) rfl rfl (hi.2.1 c4 c5 c7) ?_
        suffices hj8 : xr_t (tm_I L xs) (d + 1) 154 75 [some (.inr (some (36, 0))), some (.inl a1), some (.inl a2)] [.inl ((if (μ 57 0 ((a1).toNatClampNeg)) ≤ (μ 36 0 3) then (-1) else (μ 56 0 ((a1).toNatClampNeg))) : Int32)] μ Q by
          refine xr_br 3 (c := (μ 57 0 ((a1).toNatClampNeg)) ≤ (μ 36 0 3)) inferInstance (a := 74) (b := 65) (ls' := [some (.inr (some (36, 0))), some (.inl a1), some (.inl a2)]) (st' := []) (s' := μ) rfl (fun c8 => ?_) (fun c8 => ?_)
          · skip
            refine xr_go 1 (pc' := 75) (ls' := [some (.inr (some (36, 0))), some (.inl a1), some (.inl a2)]) (st' := [.inl (-1)]) (s' := μ) rfl ?_
            have ehj8 : ((if (μ 57 0 ((a1).toNatClampNeg)) ≤ (μ 36 0 3) then (-1) else (μ 56 0 ((a1).toNatClampNeg))) : Int32) = (-1) := by first | rfl | simp only [if_pos c8]
            rw [ehj8] at hj8
            exact hj8
          · skip
            refine xr_go 3 (pc' := 70) (ls' := [some (.inr (some (36, 0))), some (.inl a1), some (.inl a2)]) (st' := [.inl a1, .inr (some (56, 0))]) (s' := μ) rfl ?_
            refine xr_ial (n := 30) rfl rfl (hi.2.1 c4 c5 c7) ?_
            refine xr_go 1 (pc' := 75) (ls' := [some (.inr (some (36, 0))), some (.inl a1), some (.inl a2)]) (st' := [.inl (μ 56 0 ((a1).toNatClampNeg))]) (s' := μ) rfl ?_
            have ehj8 : ((if (μ 57 0 ((a1).toNatClampNeg)) ≤ (μ 36 0 3) then (-1) else (μ 56 0 ((a1).toNatClampNeg))) : Int32) = (μ 56 0 ((a1).toNatClampNeg)) := by first | rfl | simp only [if_neg c8]
            rw [ehj8] at hj8
            exact hj8
        try simp only [if_neg c4, if_neg c5, if_pos c7] at h
        exact xr_rt (v := some (.inl ((if (μ 57 0 ((a1).toNatClampNeg)) ≤ (μ 36 0 3) then (-1) else (μ 56 0 ((a1).toNatClampNeg))) : Int32))) rfl h
      · skip
        refine xr_go 3 (pc' := 81) (ls' := [some (.inr (some (36, 0))), some (.inl a1), some (.inl a2)]) (st' := [.inl a1, .inr (some (55, 0))]) (s' := μ) rfl ?_
        refine xr_ial (n := 30) rfl rfl (hi.2.2 c4 c5 c7) ?_
        suffices hj9 : xr_t (tm_I L xs) (d + 1) 154 112 [some (.inr (some (36, 0))), some (.inl a1), some (.inl a2)] [.inl ((if (μ 36 0 3) < (μ 55 0 ((a1).toNatClampNeg)) then ((if a2 = 0 then (μ 54 0 ((a1).toNatClampNeg)) else (μ 55 0 ((a1).toNatClampNeg))) : Int32) else (-1)) : Int32)] μ Q by
          refine xr_br 3 (c := (μ 36 0 3) < (μ 55 0 ((a1).toNatClampNeg))) inferInstance (a := 93) (b := 89) (ls' := [some (.inr (some (36, 0))), some (.inl a1), some (.inl a2)]) (st' := []) (s' := μ) rfl (fun c9 => ?_) (fun c9 => ?_)
          · skip
            suffices hj10 : xr_t (tm_I L xs) (d + 1) 154 112 [some (.inr (some (36, 0))), some (.inl a1), some (.inl a2)] [.inl ((if a2 = 0 then (μ 54 0 ((a1).toNatClampNeg)) else (μ 55 0 ((a1).toNatClampNeg))) : Int32)] μ Q by
              refine xr_br 2 (c := a2 = 0) inferInstance (a := 97) (b := 106) (ls' := [some (.inr (some (36, 0))), some (.inl a1), some (.inl a2)]) (st' := []) (s' := μ) rfl (fun c10 => ?_) (fun c10 => ?_)
              · skip
                refine xr_go 3 (pc' := 102) (ls' := [some (.inr (some (36, 0))), some (.inl a1), some (.inl a2)]) (st' := [.inl a1, .inr (some (54, 0))]) (s' := μ) rfl ?_
                refine xr_ial (n := 30) rfl rfl (hi.2.2 c4 c5 c7) ?_
                refine xr_go 1 (pc' := 112) (ls' := [some (.inr (some (36, 0))), some (.inl a1), some (.inl a2)]) (st' := [.inl (μ 54 0 ((a1).toNatClampNeg))]) (s' := μ) rfl ?_
                have ehj10 : ((if a2 = 0 then (μ 54 0 ((a1).toNatClampNeg)) else (μ 55 0 ((a1).toNatClampNeg))) : Int32) = (μ 54 0 ((a1).toNatClampNeg)) := by first | rfl | simp only [if_pos c10]
                rw [ehj10] at hj10
                exact hj10
              · skip
                refine xr_go 3 (pc' := 111) (ls' := [some (.inr (some (36, 0))), some (.inl a1), some (.inl a2)]) (st' := [.inl a1, .inr (some (55, 0))]) (s' := μ) rfl ?_
                refine xr_ial (n := 30) rfl rfl (hi.2.2 c4 c5 c7) ?_
                have ehj10 : ((if a2 = 0 then (μ 54 0 ((a1).toNatClampNeg)) else (μ 55 0 ((a1).toNatClampNeg))) : Int32) = (μ 55 0 ((a1).toNatClampNeg)) := by first | rfl | simp only [if_neg c10]
                rw [ehj10] at hj10
                exact hj10
            have ehj9 : ((if (μ 36 0 3) < (μ 55 0 ((a1).toNatClampNeg)) then ((if a2 = 0 then (μ 54 0 ((a1).toNatClampNeg)) else (μ 55 0 ((a1).toNatClampNeg))) : Int32) else (-1)) : Int32) = ((if a2 = 0 then (μ 54 0 ((a1).toNatClampNeg)) else (μ 55 0 ((a1).toNatClampNeg))) : Int32) := by first | rfl | simp only [if_pos c9]
            rw [ehj9] at hj9
            exact hj9
          · skip
            refine xr_go 2 (pc' := 112) (ls' := [some (.inr (some (36, 0))), some (.inl a1), some (.inl a2)]) (st' := [.inl (-1)]) (s' := μ) rfl ?_
            have ehj9 : ((if (μ 36 0 3) < (μ 55 0 ((a1).toNatClampNeg)) then ((if a2 = 0 then (μ 54 0 ((a1).toNatClampNeg)) else (μ 55 0 ((a1).toNatClampNeg))) : Int32) else (-1)) : Int32) = (-1) := by first | rfl | simp only [if_neg c9]
            rw [ehj9] at hj9
            exact hj9
        try simp only [if_neg c4, if_neg c5, if_neg c7] at h
        exact xr_rt (v := some (.inl ((if (μ 36 0 3) < (μ 55 0 ((a1).toNatClampNeg)) then ((if a2 = 0 then (μ 54 0 ((a1).toNatClampNeg)) else (μ 55 0 ((a1).toNatClampNeg))) : Int32) else (-1)) : Int32))) rfl h
-- BootNetModel.journal()I
def cv_155  (μ : tm_M) : Int32 := (μ 36 0 29)
set_option maxHeartbeats 4000000 in
set_option maxRecDepth 10000 in
theorem tf_155  (h : Q (some (.inl (cv_155 μ))) μ) : xm_MW (tm_I L xs) (d + 1) 155 [.inr (some (36, 0))] μ Q := by
  refine xr_in2 [some (.inr (some (36, 0)))] rfl rfl ?_
  unfold cv_155 at h
  refine xr_go 2 (pc' := 4) (ls' := [some (.inr (some (36, 0)))]) (st' := [.inl (μ 36 0 29)]) (s' := μ) rfl ?_
  exact xr_rt (v := some (.inl (μ 36 0 29))) rfl h
-- BootNetModel.boot(I)Z
def cv_162 (a1 : Int32) (μ : tm_M) : Int32 := (if (cv_122 a1 μ) = 0 then 0 else 1)
def cs_162 (a1 : Int32) (μ : tm_M) : tm_M := (if (cv_122 a1 μ) = 0 then μ else (cs_158 a1 (tm_wr (tm_wr (tm_wr (tm_wr (tm_wr (tm_wr (tm_wr μ 72 0 ((a1).toNatClampNeg) 0) 71 0 ((a1).toNatClampNeg) 0) 75 0 ((a1).toNatClampNeg) 0) 76 0 ((a1).toNatClampNeg) 0) 77 0 ((a1).toNatClampNeg) 0) 81 0 ((a1).toNatClampNeg) 0) 82 0 ((a1).toNatClampNeg) 0)))
def ci_162 (a1 : Int32) (μ : tm_M) : Prop := ((¬ ((cv_122 a1 μ) = 0)) → tm_ix a1 6 = true) ∧ ((¬ ((cv_122 a1 μ) = 0)) → ci_158 a1 (tm_wr (tm_wr (tm_wr (tm_wr (tm_wr (tm_wr (tm_wr μ 72 0 ((a1).toNatClampNeg) 0) 71 0 ((a1).toNatClampNeg) 0) 75 0 ((a1).toNatClampNeg) 0) 76 0 ((a1).toNatClampNeg) 0) 77 0 ((a1).toNatClampNeg) 0) 81 0 ((a1).toNatClampNeg) 0) 82 0 ((a1).toNatClampNeg) 0))
theorem cz_162 {a1 : Int32} {μ : tm_M} : cv_162 a1 μ = 0 ∨ cv_162 a1 μ = 1 := by
  unfold cv_162
  (repeat' split) <;> first | exact Or.inl rfl | exact Or.inr rfl | exact cz_122
set_option maxHeartbeats 4000000 in
set_option maxRecDepth 10000 in
theorem tf_162 {a1 : Int32} (hi : ci_162 a1 μ) (h : Q (some (.inl (cv_162 a1 μ))) (cs_162 a1 μ)) : xm_MW (tm_I L xs) (d + 4) 162 [.inr (some (36, 0)), .inl a1] μ Q := by
  refine xr_in2 [some (.inr (some (36, 0))), some (.inl a1)] rfl rfl ?_
  unfold cv_162 cs_162 at h
  unfold ci_162 at hi
  refine xr_go 2 (pc' := 2) (ls' := [some (.inr (some (36, 0))), some (.inl a1)]) (st' := [.inl a1, .inr (some (36, 0))]) (s' := μ) rfl ?_
  refine xr_cl (y' := 122) (as := [.inr (some (36, 0)), .inl a1]) (r := []) rfl rfl ?_
  refine tf_122 (d := d + 2) (μ := μ) (a1 := a1) ?_
  show xr_t (tm_I L xs) (d + 3) 162 5 [some (.inr (some (36, 0))), some (.inl a1)] [.inl (cv_122 a1 μ)] μ Q
  have z1 : (cv_122 a1 μ) = 0 ∨ (cv_122 a1 μ) = 1 := cz_122
  generalize gv1 : (cv_122 a1 μ) = v1 at h hi z1 ⊢
  refine xr_br 1 (c := v1 = 0) inferInstance (a := 8) (b := 10) (ls' := [some (.inr (some (36, 0))), some (.inl a1)]) (st' := []) (s' := μ) rfl (fun c1 => ?_) (fun c1 => ?_)
  · skip
    refine xr_go 1 (pc' := 9) (ls' := [some (.inr (some (36, 0))), some (.inl a1)]) (st' := [.inl 0]) (s' := μ) rfl ?_
    try simp only [if_pos c1] at h
    exact xr_rt (v := some (.inl 0)) rfl h
  · skip
    refine xr_go 4 (pc' := 16) (ls' := [some (.inr (some (36, 0))), some (.inl a1)]) (st' := [.inl 0, .inl a1, .inr (some (72, 0))]) (s' := μ) rfl ?_
    refine xr_ias (n := 6) rfl rfl (hi.1 c1) ?_
    refine xr_go 4 (pc' := 23) (ls' := [some (.inr (some (36, 0))), some (.inl a1)]) (st' := [.inl 0, .inl a1, .inr (some (71, 0))]) (s' := (tm_wr μ 72 0 ((a1).toNatClampNeg) 0)) rfl ?_
    refine xr_ias (n := 6) rfl rfl (hi.1 c1) ?_
    refine xr_go 4 (pc' := 30) (ls' := [some (.inr (some (36, 0))), some (.inl a1)]) (st' := [.inl 0, .inl a1, .inr (some (75, 0))]) (s' := (tm_wr (tm_wr μ 72 0 ((a1).toNatClampNeg) 0) 71 0 ((a1).toNatClampNeg) 0)) rfl ?_
    refine xr_ias (n := 6) rfl rfl (hi.1 c1) ?_
    refine xr_go 4 (pc' := 37) (ls' := [some (.inr (some (36, 0))), some (.inl a1)]) (st' := [.inl 0, .inl a1, .inr (some (76, 0))]) (s' := (tm_wr (tm_wr (tm_wr μ 72 0 ((a1).toNatClampNeg) 0) 71 0 ((a1).toNatClampNeg) 0) 75 0 ((a1).toNatClampNeg) 0)) rfl ?_
    refine xr_ias (n := 6) rfl rfl (hi.1 c1) ?_
    refine xr_go 4 (pc' := 44) (ls' := [some (.inr (some (36, 0))), some (.inl a1)]) (st' := [.inl 0, .inl a1, .inr (some (77, 0))]) (s' := (tm_wr (tm_wr (tm_wr (tm_wr μ 72 0 ((a1).toNatClampNeg) 0) 71 0 ((a1).toNatClampNeg) 0) 75 0 ((a1).toNatClampNeg) 0) 76 0 ((a1).toNatClampNeg) 0)) rfl ?_
    refine xr_ias (n := 6) rfl rfl (hi.1 c1) ?_
    refine xr_go 4 (pc' := 51) (ls' := [some (.inr (some (36, 0))), some (.inl a1)]) (st' := [.inl 0, .inl a1, .inr (some (81, 0))]) (s' := (tm_wr (tm_wr (tm_wr (tm_wr (tm_wr μ 72 0 ((a1).toNatClampNeg) 0) 71 0 ((a1).toNatClampNeg) 0) 75 0 ((a1).toNatClampNeg) 0) 76 0 ((a1).toNatClampNeg) 0) 77 0 ((a1).toNatClampNeg) 0)) rfl ?_
    refine xr_ias (n := 6) rfl rfl (hi.1 c1) ?_
    refine xr_go 4 (pc' := 58) (ls' := [some (.inr (some (36, 0))), some (.inl a1)]) (st' := [.inl 0, .inl a1, .inr (some (82, 0))]) (s' := (tm_wr (tm_wr (tm_wr (tm_wr (tm_wr (tm_wr μ 72 0 ((a1).toNatClampNeg) 0) 71 0 ((a1).toNatClampNeg) 0) 75 0 ((a1).toNatClampNeg) 0) 76 0 ((a1).toNatClampNeg) 0) 77 0 ((a1).toNatClampNeg) 0) 81 0 ((a1).toNatClampNeg) 0)) rfl ?_
    refine xr_ias (n := 6) rfl rfl (hi.1 c1) ?_
    refine xr_go 2 (pc' := 61) (ls' := [some (.inr (some (36, 0))), some (.inl a1)]) (st' := [.inl a1, .inr (some (36, 0))]) (s' := (tm_wr (tm_wr (tm_wr (tm_wr (tm_wr (tm_wr (tm_wr μ 72 0 ((a1).toNatClampNeg) 0) 71 0 ((a1).toNatClampNeg) 0) 75 0 ((a1).toNatClampNeg) 0) 76 0 ((a1).toNatClampNeg) 0) 77 0 ((a1).toNatClampNeg) 0) 81 0 ((a1).toNatClampNeg) 0) 82 0 ((a1).toNatClampNeg) 0)) rfl ?_
    refine xr_cl (y' := 158) (as := [.inr (some (36, 0)), .inl a1]) (r := []) rfl rfl ?_
    refine tf_158 (d := d + 0) (μ := (tm_wr (tm_wr (tm_wr (tm_wr (tm_wr (tm_wr (tm_wr μ 72 0 ((a1).toNatClampNeg) 0) 71 0 ((a1).toNatClampNeg) 0) 75 0 ((a1).toNatClampNeg) 0) 76 0 ((a1).toNatClampNeg) 0) 77 0 ((a1).toNatClampNeg) 0) 81 0 ((a1).toNatClampNeg) 0) 82 0 ((a1).toNatClampNeg) 0)) (a1 := a1) (hi.2 c1) ?_
    show xr_t (tm_I L xs) (d + 3) 162 64 [some (.inr (some (36, 0))), some (.inl a1)] [] (cs_158 a1 (tm_wr (tm_wr (tm_wr (tm_wr (tm_wr (tm_wr (tm_wr μ 72 0 ((a1).toNatClampNeg) 0) 71 0 ((a1).toNatClampNeg) 0) 75 0 ((a1).toNatClampNeg) 0) 76 0 ((a1).toNatClampNeg) 0) 77 0 ((a1).toNatClampNeg) 0) 81 0 ((a1).toNatClampNeg) 0) 82 0 ((a1).toNatClampNeg) 0)) Q
    generalize gμ2 : (cs_158 a1 (tm_wr (tm_wr (tm_wr (tm_wr (tm_wr (tm_wr (tm_wr μ 72 0 ((a1).toNatClampNeg) 0) 71 0 ((a1).toNatClampNeg) 0) 75 0 ((a1).toNatClampNeg) 0) 76 0 ((a1).toNatClampNeg) 0) 77 0 ((a1).toNatClampNeg) 0) 81 0 ((a1).toNatClampNeg) 0) 82 0 ((a1).toNatClampNeg) 0)) = μ2 at h hi ⊢
    refine xr_go 1 (pc' := 65) (ls' := [some (.inr (some (36, 0))), some (.inl a1)]) (st' := [.inl 1]) (s' := μ2) rfl ?_
    try simp only [if_neg c1] at h
    exact xr_rt (v := some (.inl 1)) rfl h
-- BootNetModel.selectAgain(I)V
def cs_167 (a1 : Int32) (μ : tm_M) : tm_M := (if (μ 74 0 ((a1).toNatClampNeg)) = (μ 36 0 1) then (cs_160 a1 7 μ) else (if (μ 68 0 ((a1).toNatClampNeg)) = 1 then (tm_wr (cs_135 0 a1 (μ 70 0 ((a1).toNatClampNeg)) 0 0 (tm_wr μ 74 0 ((a1).toNatClampNeg) ((μ 74 0 ((a1).toNatClampNeg)) + 1))) 73 0 ((a1).toNatClampNeg) (((cs_135 0 a1 (μ 70 0 ((a1).toNatClampNeg)) 0 0 (tm_wr μ 74 0 ((a1).toNatClampNeg) ((μ 74 0 ((a1).toNatClampNeg)) + 1))) 36 0 3) + 3)) else (cs_159 a1 (tm_wr μ 74 0 ((a1).toNatClampNeg) ((μ 74 0 ((a1).toNatClampNeg)) + 1)))))
def ci_167 (a1 : Int32) (μ : tm_M) : Prop := (tm_ix a1 6 = true) ∧ (((μ 74 0 ((a1).toNatClampNeg)) = (μ 36 0 1)) → ci_160 a1 7 μ) ∧ ((¬ ((μ 74 0 ((a1).toNatClampNeg)) = (μ 36 0 1))) → ((μ 68 0 ((a1).toNatClampNeg)) = 1) → ci_135 0 a1 (μ 70 0 ((a1).toNatClampNeg)) 0 0 (tm_wr μ 74 0 ((a1).toNatClampNeg) ((μ 74 0 ((a1).toNatClampNeg)) + 1))) ∧ ((¬ ((μ 74 0 ((a1).toNatClampNeg)) = (μ 36 0 1))) → (¬ ((μ 68 0 ((a1).toNatClampNeg)) = 1)) → ci_159 a1 (tm_wr μ 74 0 ((a1).toNatClampNeg) ((μ 74 0 ((a1).toNatClampNeg)) + 1)))
set_option maxHeartbeats 4000000 in
set_option maxRecDepth 10000 in
theorem tf_167 {a1 : Int32} (hi : ci_167 a1 μ) (h : Q none (cs_167 a1 μ)) : xm_MW (tm_I L xs) (d + 4) 167 [.inr (some (36, 0)), .inl a1] μ Q := by
  refine xr_in2 [some (.inr (some (36, 0))), some (.inl a1)] rfl rfl ?_
  unfold cs_167 at h
  unfold ci_167 at hi
  refine xr_go 3 (pc' := 5) (ls' := [some (.inr (some (36, 0))), some (.inl a1)]) (st' := [.inl a1, .inr (some (74, 0))]) (s' := μ) rfl ?_
  refine xr_ial (n := 6) rfl rfl (hi.1) ?_
  refine xr_br 3 (c := (μ 74 0 ((a1).toNatClampNeg)) = (μ 36 0 1)) inferInstance (a := 13) (b := 21) (ls' := [some (.inr (some (36, 0))), some (.inl a1)]) (st' := []) (s' := μ) rfl (fun c1 => ?_) (fun c1 => ?_)
  · skip
    refine xr_go 3 (pc' := 17) (ls' := [some (.inr (some (36, 0))), some (.inl a1)]) (st' := [.inl 7, .inl a1, .inr (some (36, 0))]) (s' := μ) rfl ?_
    refine xr_cl (y' := 160) (as := [.inr (some (36, 0)), .inl a1, .inl 7]) (r := []) rfl rfl ?_
    refine tf_160 (d := d + 2) (μ := μ) (a1 := a1) (a2 := 7) (hi.2.1 c1) ?_
    show xr_t (tm_I L xs) (d + 3) 167 20 [some (.inr (some (36, 0))), some (.inl a1)] [] (cs_160 a1 7 μ) Q
    generalize gμ1 : (cs_160 a1 7 μ) = μ1 at h hi ⊢
    try simp only [if_pos c1] at h
    exact xr_rt (v := none) rfl h
  · skip
    refine xr_go 4 (pc' := 27) (ls' := [some (.inr (some (36, 0))), some (.inl a1)]) (st' := [.inl a1, .inr (some (74, 0)), .inl a1, .inr (some (74, 0))]) (s' := μ) rfl ?_
    refine xr_ial (n := 6) rfl rfl (hi.1) ?_
    refine xr_go 2 (pc' := 30) (ls' := [some (.inr (some (36, 0))), some (.inl a1)]) (st' := [.inl ((μ 74 0 ((a1).toNatClampNeg)) + 1), .inl a1, .inr (some (74, 0))]) (s' := μ) rfl ?_
    refine xr_ias (n := 6) rfl rfl (hi.1) ?_
    refine xr_go 3 (pc' := 36) (ls' := [some (.inr (some (36, 0))), some (.inl a1)]) (st' := [.inl a1, .inr (some (68, 0))]) (s' := (tm_wr μ 74 0 ((a1).toNatClampNeg) ((μ 74 0 ((a1).toNatClampNeg)) + 1))) rfl ?_
    refine xr_ial (n := 6) rfl rfl (hi.1) ?_
    refine xr_br 2 (c := (μ 68 0 ((a1).toNatClampNeg)) = 1) inferInstance (a := 41) (b := 70) (ls' := [some (.inr (some (36, 0))), some (.inl a1)]) (st' := []) (s' := (tm_wr μ 74 0 ((a1).toNatClampNeg) ((μ 74 0 ((a1).toNatClampNeg)) + 1))) rfl (fun c2 => ?_) (fun c2 => ?_)
    · skip
      refine xr_go 6 (pc' := 49) (ls' := [some (.inr (some (36, 0))), some (.inl a1)]) (st' := [.inl a1, .inr (some (70, 0)), .inl a1, .inl 0, .inr (some (36, 0))]) (s' := (tm_wr μ 74 0 ((a1).toNatClampNeg) ((μ 74 0 ((a1).toNatClampNeg)) + 1))) rfl ?_
      refine xr_ial (n := 6) rfl rfl (hi.1) ?_
      refine xr_go 2 (pc' := 52) (ls' := [some (.inr (some (36, 0))), some (.inl a1)]) (st' := [.inl 0, .inl 0, .inl (μ 70 0 ((a1).toNatClampNeg)), .inl a1, .inl 0, .inr (some (36, 0))]) (s' := (tm_wr μ 74 0 ((a1).toNatClampNeg) ((μ 74 0 ((a1).toNatClampNeg)) + 1))) rfl ?_
      refine xr_cl (y' := 135) (as := [.inr (some (36, 0)), .inl 0, .inl a1, .inl (μ 70 0 ((a1).toNatClampNeg)), .inl 0, .inl 0]) (r := []) rfl rfl ?_
      refine tf_135 (d := d + 1) (μ := (tm_wr μ 74 0 ((a1).toNatClampNeg) ((μ 74 0 ((a1).toNatClampNeg)) + 1))) (a1 := 0) (a2 := a1) (a3 := (μ 70 0 ((a1).toNatClampNeg))) (a4 := 0) (a5 := 0) (hi.2.2.1 c1 c2) ?_
      show xr_t (tm_I L xs) (d + 3) 167 55 [some (.inr (some (36, 0))), some (.inl a1)] [] (cs_135 0 a1 (μ 70 0 ((a1).toNatClampNeg)) 0 0 (tm_wr μ 74 0 ((a1).toNatClampNeg) ((μ 74 0 ((a1).toNatClampNeg)) + 1))) Q
      generalize gμ3 : (cs_135 0 a1 (μ 70 0 ((a1).toNatClampNeg)) 0 0 (tm_wr μ 74 0 ((a1).toNatClampNeg) ((μ 74 0 ((a1).toNatClampNeg)) + 1))) = μ3 at h hi ⊢
      refine xr_go 7 (pc' := 66) (ls' := [some (.inr (some (36, 0))), some (.inl a1)]) (st' := [.inl ((μ3 36 0 3) + 3), .inl a1, .inr (some (73, 0))]) (s' := μ3) rfl ?_
      refine xr_ias (n := 6) rfl rfl (hi.1) ?_
      refine xr_go 1 (pc' := 75) (ls' := [some (.inr (some (36, 0))), some (.inl a1)]) (st' := []) (s' := (tm_wr μ3 73 0 ((a1).toNatClampNeg) ((μ3 36 0 3) + 3))) rfl ?_
      try simp only [if_neg c1, if_pos c2] at h
      exact xr_rt (v := none) rfl h
    · skip
      refine xr_go 2 (pc' := 72) (ls' := [some (.inr (some (36, 0))), some (.inl a1)]) (st' := [.inl a1, .inr (some (36, 0))]) (s' := (tm_wr μ 74 0 ((a1).toNatClampNeg) ((μ 74 0 ((a1).toNatClampNeg)) + 1))) rfl ?_
      refine xr_cl (y' := 159) (as := [.inr (some (36, 0)), .inl a1]) (r := []) rfl rfl ?_
      refine tf_159 (d := d + 0) (μ := (tm_wr μ 74 0 ((a1).toNatClampNeg) ((μ 74 0 ((a1).toNatClampNeg)) + 1))) (a1 := a1) (hi.2.2.2 c1 c2) ?_
      show xr_t (tm_I L xs) (d + 3) 167 75 [some (.inr (some (36, 0))), some (.inl a1)] [] (cs_159 a1 (tm_wr μ 74 0 ((a1).toNatClampNeg) ((μ 74 0 ((a1).toNatClampNeg)) + 1))) Q
      generalize gμ4 : (cs_159 a1 (tm_wr μ 74 0 ((a1).toNatClampNeg) ((μ 74 0 ((a1).toNatClampNeg)) + 1))) = μ4 at h hi ⊢
      try simp only [if_neg c1, if_neg c2] at h
      exact xr_rt (v := none) rfl h
-- BootNetModel.settle(I)V
def cs_168 (a1 : Int32) (μ : tm_M) : tm_M := (if (μ 36 0 3) < (μ 72 0 ((a1).toNatClampNeg)) then (if (μ 76 0 ((a1).toNatClampNeg)) = 0 then (cs_161 a1 0 (tm_wr μ 68 0 ((a1).toNatClampNeg) 4)) else (tm_wr μ 68 0 ((a1).toNatClampNeg) 4)) else (cs_158 a1 μ))
def ci_168 (a1 : Int32) (μ : tm_M) : Prop := (tm_ix a1 6 = true) ∧ (((μ 36 0 3) < (μ 72 0 ((a1).toNatClampNeg))) → ((μ 76 0 ((a1).toNatClampNeg)) = 0) → ci_161 a1 0 (tm_wr μ 68 0 ((a1).toNatClampNeg) 4)) ∧ ((¬ ((μ 36 0 3) < (μ 72 0 ((a1).toNatClampNeg)))) → ci_158 a1 μ)
set_option maxHeartbeats 4000000 in
set_option maxRecDepth 10000 in
theorem tf_168 {a1 : Int32} (hi : ci_168 a1 μ) (h : Q none (cs_168 a1 μ)) : xm_MW (tm_I L xs) (d + 4) 168 [.inr (some (36, 0)), .inl a1] μ Q := by
  refine xr_in2 [some (.inr (some (36, 0))), some (.inl a1)] rfl rfl ?_
  unfold cs_168 at h
  unfold ci_168 at hi
  refine xr_go 5 (pc' := 9) (ls' := [some (.inr (some (36, 0))), some (.inl a1)]) (st' := [.inl a1, .inr (some (72, 0)), .inl (μ 36 0 3)]) (s' := μ) rfl ?_
  refine xr_ial (n := 6) rfl rfl (hi.1) ?_
  refine xr_br 1 (c := (μ 36 0 3) < (μ 72 0 ((a1).toNatClampNeg))) inferInstance (a := 19) (b := 13) (ls' := [some (.inr (some (36, 0))), some (.inl a1)]) (st' := []) (s' := μ) rfl (fun c1 => ?_) (fun c1 => ?_)
  · skip
    refine xr_go 4 (pc' := 25) (ls' := [some (.inr (some (36, 0))), some (.inl a1)]) (st' := [.inl 4, .inl a1, .inr (some (68, 0))]) (s' := μ) rfl ?_
    refine xr_ias (n := 6) rfl rfl (hi.1) ?_
    refine xr_go 3 (pc' := 31) (ls' := [some (.inr (some (36, 0))), some (.inl a1)]) (st' := [.inl a1, .inr (some (76, 0))]) (s' := (tm_wr μ 68 0 ((a1).toNatClampNeg) 4)) rfl ?_
    refine xr_ial (n := 6) rfl rfl (hi.1) ?_
    refine xr_br 1 (c := (μ 76 0 ((a1).toNatClampNeg)) = 0) inferInstance (a := 35) (b := 41) (ls' := [some (.inr (some (36, 0))), some (.inl a1)]) (st' := []) (s' := (tm_wr μ 68 0 ((a1).toNatClampNeg) 4)) rfl (fun c2 => ?_) (fun c2 => ?_)
    · skip
      refine xr_go 3 (pc' := 38) (ls' := [some (.inr (some (36, 0))), some (.inl a1)]) (st' := [.inl 0, .inl a1, .inr (some (36, 0))]) (s' := (tm_wr μ 68 0 ((a1).toNatClampNeg) 4)) rfl ?_
      refine xr_cl (y' := 161) (as := [.inr (some (36, 0)), .inl a1, .inl 0]) (r := []) rfl rfl ?_
      refine tf_161 (d := d + 0) (μ := (tm_wr μ 68 0 ((a1).toNatClampNeg) 4)) (a1 := a1) (a2 := 0) (hi.2.1 c1 c2) ?_
      show xr_t (tm_I L xs) (d + 3) 168 41 [some (.inr (some (36, 0))), some (.inl a1)] [] (cs_161 a1 0 (tm_wr μ 68 0 ((a1).toNatClampNeg) 4)) Q
      generalize gμ2 : (cs_161 a1 0 (tm_wr μ 68 0 ((a1).toNatClampNeg) 4)) = μ2 at h hi ⊢
      try simp only [if_pos c1, if_pos c2] at h
      exact xr_rt (v := none) rfl h
    · skip
      try simp only [if_pos c1, if_neg c2] at h
      exact xr_rt (v := none) rfl h
  · skip
    refine xr_go 2 (pc' := 15) (ls' := [some (.inr (some (36, 0))), some (.inl a1)]) (st' := [.inl a1, .inr (some (36, 0))]) (s' := μ) rfl ?_
    refine xr_cl (y' := 158) (as := [.inr (some (36, 0)), .inl a1]) (r := []) rfl rfl ?_
    refine tf_158 (d := d + 0) (μ := μ) (a1 := a1) (hi.2.2 c1) ?_
    show xr_t (tm_I L xs) (d + 3) 168 18 [some (.inr (some (36, 0))), some (.inl a1)] [] (cs_158 a1 μ) Q
    generalize gμ3 : (cs_158 a1 μ) = μ3 at h hi ⊢
    try simp only [if_neg c1] at h
    exact xr_rt (v := none) rfl h
-- BootNetModel.loadAgain(I)V
def cs_169 (a1 : Int32) (μ : tm_M) : tm_M := (if (μ 79 0 ((a1).toNatClampNeg)) = (μ 36 0 1) then (tm_wr μ 76 0 ((a1).toNatClampNeg) 6) else (if (μ 78 0 ((a1).toNatClampNeg)) = 1 then (cs_135 8 a1 0 (μ 51 0 (((μ 77 0 ((a1).toNatClampNeg)) : Int32).toNatClampNeg)) 0 (tm_wr (tm_wr μ 79 0 ((a1).toNatClampNeg) ((μ 79 0 ((a1).toNatClampNeg)) + 1)) 80 0 ((a1).toNatClampNeg) ((μ 36 0 3) + 3))) else (tm_wr (tm_wr μ 79 0 ((a1).toNatClampNeg) ((μ 79 0 ((a1).toNatClampNeg)) + 1)) 80 0 ((a1).toNatClampNeg) ((μ 36 0 3) + 3))))
def ci_169 (a1 : Int32) (μ : tm_M) : Prop := (tm_ix a1 6 = true) ∧ ((¬ ((μ 79 0 ((a1).toNatClampNeg)) = (μ 36 0 1))) → ((μ 78 0 ((a1).toNatClampNeg)) = 1) → tm_ix (μ 77 0 ((a1).toNatClampNeg)) 4 = true) ∧ ((¬ ((μ 79 0 ((a1).toNatClampNeg)) = (μ 36 0 1))) → ((μ 78 0 ((a1).toNatClampNeg)) = 1) → ci_135 8 a1 0 (μ 51 0 (((μ 77 0 ((a1).toNatClampNeg)) : Int32).toNatClampNeg)) 0 (tm_wr (tm_wr μ 79 0 ((a1).toNatClampNeg) ((μ 79 0 ((a1).toNatClampNeg)) + 1)) 80 0 ((a1).toNatClampNeg) ((μ 36 0 3) + 3)))
set_option maxHeartbeats 4000000 in
set_option maxRecDepth 10000 in
theorem tf_169 {a1 : Int32} (hi : ci_169 a1 μ) (h : Q none (cs_169 a1 μ)) : xm_MW (tm_I L xs) (d + 3) 169 [.inr (some (36, 0)), .inl a1] μ Q := by
  refine xr_in2 [some (.inr (some (36, 0))), some (.inl a1)] rfl rfl ?_
  unfold cs_169 at h
  unfold ci_169 at hi
  refine xr_go 3 (pc' := 5) (ls' := [some (.inr (some (36, 0))), some (.inl a1)]) (st' := [.inl a1, .inr (some (79, 0))]) (s' := μ) rfl ?_
  refine xr_ial (n := 6) rfl rfl (hi.1) ?_
  refine xr_br 3 (c := (μ 79 0 ((a1).toNatClampNeg)) = (μ 36 0 1)) inferInstance (a := 13) (b := 22) (ls' := [some (.inr (some (36, 0))), some (.inl a1)]) (st' := []) (s' := μ) rfl (fun c1 => ?_) (fun c1 => ?_)
  · skip
    refine xr_go 4 (pc' := 20) (ls' := [some (.inr (some (36, 0))), some (.inl a1)]) (st' := [.inl 6, .inl a1, .inr (some (76, 0))]) (s' := μ) rfl ?_
    refine xr_ias (n := 6) rfl rfl (hi.1) ?_
    try simp only [if_pos c1] at h
    exact xr_rt (v := none) rfl h
  · skip
    refine xr_go 4 (pc' := 28) (ls' := [some (.inr (some (36, 0))), some (.inl a1)]) (st' := [.inl a1, .inr (some (79, 0)), .inl a1, .inr (some (79, 0))]) (s' := μ) rfl ?_
    refine xr_ial (n := 6) rfl rfl (hi.1) ?_
    refine xr_go 2 (pc' := 31) (ls' := [some (.inr (some (36, 0))), some (.inl a1)]) (st' := [.inl ((μ 79 0 ((a1).toNatClampNeg)) + 1), .inl a1, .inr (some (79, 0))]) (s' := μ) rfl ?_
    refine xr_ias (n := 6) rfl rfl (hi.1) ?_
    refine xr_go 7 (pc' := 43) (ls' := [some (.inr (some (36, 0))), some (.inl a1)]) (st' := [.inl ((μ 36 0 3) + 3), .inl a1, .inr (some (80, 0))]) (s' := (tm_wr μ 79 0 ((a1).toNatClampNeg) ((μ 79 0 ((a1).toNatClampNeg)) + 1))) rfl ?_
    refine xr_ias (n := 6) rfl rfl (hi.1) ?_
    refine xr_go 3 (pc' := 49) (ls' := [some (.inr (some (36, 0))), some (.inl a1)]) (st' := [.inl a1, .inr (some (78, 0))]) (s' := (tm_wr (tm_wr μ 79 0 ((a1).toNatClampNeg) ((μ 79 0 ((a1).toNatClampNeg)) + 1)) 80 0 ((a1).toNatClampNeg) ((μ 36 0 3) + 3))) rfl ?_
    refine xr_ial (n := 6) rfl rfl (hi.1) ?_
    refine xr_br 2 (c := (μ 78 0 ((a1).toNatClampNeg)) = 1) inferInstance (a := 54) (b := 74) (ls' := [some (.inr (some (36, 0))), some (.inl a1)]) (st' := []) (s' := (tm_wr (tm_wr μ 79 0 ((a1).toNatClampNeg) ((μ 79 0 ((a1).toNatClampNeg)) + 1)) 80 0 ((a1).toNatClampNeg) ((μ 36 0 3) + 3))) rfl (fun c2 => ?_) (fun c2 => ?_)
    · skip
      refine xr_go 9 (pc' := 68) (ls' := [some (.inr (some (36, 0))), some (.inl a1)]) (st' := [.inl a1, .inr (some (77, 0)), .inr (some (51, 0)), .inl 0, .inl a1, .inl 8, .inr (some (36, 0))]) (s' := (tm_wr (tm_wr μ 79 0 ((a1).toNatClampNeg) ((μ 79 0 ((a1).toNatClampNeg)) + 1)) 80 0 ((a1).toNatClampNeg) ((μ 36 0 3) + 3))) rfl ?_
      refine xr_ial (n := 6) rfl rfl (hi.1) ?_
      refine xr_ial (n := 4) rfl rfl (hi.2.1 c1 c2) ?_
      refine xr_go 1 (pc' := 71) (ls' := [some (.inr (some (36, 0))), some (.inl a1)]) (st' := [.inl 0, .inl (μ 51 0 (((μ 77 0 ((a1).toNatClampNeg)) : Int32).toNatClampNeg)), .inl 0, .inl a1, .inl 8, .inr (some (36, 0))]) (s' := (tm_wr (tm_wr μ 79 0 ((a1).toNatClampNeg) ((μ 79 0 ((a1).toNatClampNeg)) + 1)) 80 0 ((a1).toNatClampNeg) ((μ 36 0 3) + 3))) rfl ?_
      refine xr_cl (y' := 135) (as := [.inr (some (36, 0)), .inl 8, .inl a1, .inl 0, .inl (μ 51 0 (((μ 77 0 ((a1).toNatClampNeg)) : Int32).toNatClampNeg)), .inl 0]) (r := []) rfl rfl ?_
      refine tf_135 (d := d + 0) (μ := (tm_wr (tm_wr μ 79 0 ((a1).toNatClampNeg) ((μ 79 0 ((a1).toNatClampNeg)) + 1)) 80 0 ((a1).toNatClampNeg) ((μ 36 0 3) + 3))) (a1 := 8) (a2 := a1) (a3 := 0) (a4 := (μ 51 0 (((μ 77 0 ((a1).toNatClampNeg)) : Int32).toNatClampNeg))) (a5 := 0) (hi.2.2 c1 c2) ?_
      show xr_t (tm_I L xs) (d + 2) 169 74 [some (.inr (some (36, 0))), some (.inl a1)] [] (cs_135 8 a1 0 (μ 51 0 (((μ 77 0 ((a1).toNatClampNeg)) : Int32).toNatClampNeg)) 0 (tm_wr (tm_wr μ 79 0 ((a1).toNatClampNeg) ((μ 79 0 ((a1).toNatClampNeg)) + 1)) 80 0 ((a1).toNatClampNeg) ((μ 36 0 3) + 3))) Q
      generalize gμ2 : (cs_135 8 a1 0 (μ 51 0 (((μ 77 0 ((a1).toNatClampNeg)) : Int32).toNatClampNeg)) 0 (tm_wr (tm_wr μ 79 0 ((a1).toNatClampNeg) ((μ 79 0 ((a1).toNatClampNeg)) + 1)) 80 0 ((a1).toNatClampNeg) ((μ 36 0 3) + 3))) = μ2 at h hi ⊢
      try simp only [if_neg c1, if_pos c2] at h
      exact xr_rt (v := none) rfl h
    · skip
      try simp only [if_neg c1, if_neg c2] at h
      exact xr_rt (v := none) rfl h
end TF
