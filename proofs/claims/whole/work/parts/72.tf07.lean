/-! Methods of the class as functions. Written by prog/gen_tf.py. -/
section TF
variable {L : Nat} {xs : Nat → Int32} {d : Nat} {μ : tm_M} {Q : Option (xm_V tm_R) → tm_M → Prop}
-- BootNet.lease(II)I
def cv_16 (a1 : Int32) (a2 : Int32) (μ : tm_M) : Int32 := ((if (cv_36 a1 μ) = 0 then (-1) else (cv_31 a1 a2 μ)) : Int32)
def ci_16 (a1 : Int32) (a2 : Int32) (μ : tm_M) : Prop := ((¬ ((cv_36 a1 μ) = 0)) → ci_31 a1 a2 μ)
set_option maxHeartbeats 4000000 in
set_option maxRecDepth 10000 in
theorem tf_16 {a1 : Int32} {a2 : Int32} (hi : ci_16 a1 a2 μ) (h : Q (some (.inl (cv_16 a1 a2 μ))) μ) : xm_MW (tm_I L xs) (d + 3) 16 [.inr (some (0, 0)), .inl a1, .inl a2] μ Q := by
  refine xr_in2 [some (.inr (some (0, 0))), some (.inl a1), some (.inl a2)] rfl rfl ?_
  unfold cv_16 at h
  unfold ci_16 at hi
  refine xr_go 1 (pc' := 1) (ls' := [some (.inr (some (0, 0))), some (.inl a1), some (.inl a2)]) (st' := [.inl a1]) (s' := μ) rfl ?_
  refine xr_cl (y' := 36) (as := [.inl a1]) (r := []) rfl rfl ?_
  refine tf_36 (d := d + 1) (μ := μ) (a1 := a1) ?_
  show xr_t (tm_I L xs) (d + 2) 16 4 [some (.inr (some (0, 0))), some (.inl a1), some (.inl a2)] [.inl (cv_36 a1 μ)] μ Q
  have z1 : (cv_36 a1 μ) = 0 ∨ (cv_36 a1 μ) = 1 := cz_36
  generalize gv1 : (cv_36 a1 μ) = v1 at h hi z1 ⊢
  suffices hj1 : xr_t (tm_I L xs) (d + 2) 16 23 [some (.inr (some (0, 0))), some (.inl a1), some (.inl a2)] [.inl ((if v1 = 0 then (-1) else (cv_31 a1 a2 μ)) : Int32)] μ Q by
    refine xr_br 1 (c := v1 = 0) inferInstance (a := 22) (b := 7) (ls' := [some (.inr (some (0, 0))), some (.inl a1), some (.inl a2)]) (st' := []) (s' := μ) rfl (fun c1 => ?_) (fun c1 => ?_)
    · skip
      refine xr_go 1 (pc' := 23) (ls' := [some (.inr (some (0, 0))), some (.inl a1), some (.inl a2)]) (st' := [.inl (-1)]) (s' := μ) rfl ?_
      have ehj1 : ((if v1 = 0 then (-1) else (cv_31 a1 a2 μ)) : Int32) = (-1) := by first | rfl | simp only [if_pos c1]
      rw [ehj1] at hj1
      exact hj1
    · skip
      refine xr_go 5 (pc' := 16) (ls' := [some (.inr (some (0, 0))), some (.inl a1), some (.inl a2)]) (st' := [.inl a2, .inl a1, .inr (some (22, 0))]) (s' := μ) rfl ?_
      refine xr_cl (y' := 31) (as := [.inr (some (22, 0)), .inl a1, .inl a2]) (r := []) rfl rfl ?_
      refine tf_31 (d := d + 0) (μ := μ) (a1 := a1) (a2 := a2) (hi c1) ?_
      show xr_t (tm_I L xs) (d + 2) 16 19 [some (.inr (some (0, 0))), some (.inl a1), some (.inl a2)] [.inl (cv_31 a1 a2 μ)] μ Q
      refine xr_go 1 (pc' := 23) (ls' := [some (.inr (some (0, 0))), some (.inl a1), some (.inl a2)]) (st' := [.inl (cv_31 a1 a2 μ)]) (s' := μ) rfl ?_
      have ehj1 : ((if v1 = 0 then (-1) else (cv_31 a1 a2 μ)) : Int32) = (cv_31 a1 a2 μ) := by first | rfl | simp only [if_neg c1]
      rw [ehj1] at hj1
      exact hj1
  exact xr_rt (v := some (.inl ((if v1 = 0 then (-1) else (cv_31 a1 a2 μ)) : Int32))) rfl h
-- BootNet.journal()I
def cv_17  (μ : tm_M) : Int32 := (μ 28 0 3)
set_option maxHeartbeats 4000000 in
set_option maxRecDepth 10000 in
theorem tf_17  (h : Q (some (.inl (cv_17 μ))) μ) : xm_MW (tm_I L xs) (d + 1) 17 [.inr (some (0, 0))] μ Q := by
  refine xr_in2 [some (.inr (some (0, 0)))] rfl rfl ?_
  unfold cv_17 at h
  refine xr_go 4 (pc' := 10) (ls' := [some (.inr (some (0, 0)))]) (st' := [.inl (μ 28 0 3)]) (s' := μ) rfl ?_
  exact xr_rt (v := some (.inl (μ 28 0 3))) rfl h
end TF
