/-! Methods of the class as functions. Written by prog/gen_tf.py. -/
section TF
variable {L : Nat} {xs : Nat → Int32} {d : Nat} {μ : tm_M} {Q : Option (xm_V tm_R) → tm_M → Prop}
-- BootNet.pool(III)Z
def cv_1 (a1 : Int32) (a2 : Int32) (a3 : Int32) (μ : tm_M) : Int32 := (cv_39 a1 a2 a3 μ)
def cs_1 (a1 : Int32) (a2 : Int32) (a3 : Int32) (μ : tm_M) : tm_M := (cs_39 a1 a2 a3 μ)
def ci_1 (a1 : Int32) (a2 : Int32) (a3 : Int32) (μ : tm_M) : Prop := (ci_39 a1 a2 a3 μ)
theorem cz_1 {a1 : Int32} {a2 : Int32} {a3 : Int32} {μ : tm_M} : cv_1 a1 a2 a3 μ = 0 ∨ cv_1 a1 a2 a3 μ = 1 := by
  unfold cv_1
  (repeat' split) <;> first | exact Or.inl rfl | exact Or.inr rfl | exact cz_39
set_option maxHeartbeats 4000000 in
set_option maxRecDepth 10000 in
theorem tf_1 {a1 : Int32} {a2 : Int32} {a3 : Int32} (hi : ci_1 a1 a2 a3 μ) (h : Q (some (.inl (cv_1 a1 a2 a3 μ))) (cs_1 a1 a2 a3 μ)) : xm_MW (tm_I L xs) (d + 3) 1 [.inr (some (0, 0)), .inl a1, .inl a2, .inl a3] μ Q := by
  refine xr_in2 [some (.inr (some (0, 0))), some (.inl a1), some (.inl a2), some (.inl a3)] rfl rfl ?_
  unfold cv_1 cs_1 at h
  unfold ci_1 at hi
  refine xr_go 5 (pc' := 7) (ls' := [some (.inr (some (0, 0))), some (.inl a1), some (.inl a2), some (.inl a3)]) (st' := [.inl a3, .inl a2, .inl a1, .inr (some (6, 0))]) (s' := μ) rfl ?_
  refine xr_cl (y' := 39) (as := [.inr (some (6, 0)), .inl a1, .inl a2, .inl a3]) (r := []) rfl rfl ?_
  refine tf_39 (d := d + 0) (μ := μ) (a1 := a1) (a2 := a2) (a3 := a3) (hi) ?_
  show xr_t (tm_I L xs) (d + 2) 1 10 [some (.inr (some (0, 0))), some (.inl a1), some (.inl a2), some (.inl a3)] [.inl (cv_39 a1 a2 a3 μ)] (cs_39 a1 a2 a3 μ) Q
  have z1 : (cv_39 a1 a2 a3 μ) = 0 ∨ (cv_39 a1 a2 a3 μ) = 1 := cz_39
  generalize gv1 : (cv_39 a1 a2 a3 μ) = v1 at h hi z1 ⊢
  generalize gμ2 : (cs_39 a1 a2 a3 μ) = μ2 at h hi ⊢
  exact xr_zr rfl (fun _ => z1) h
-- BootNet.attach(I)I
def cv_2 (a1 : Int32) (μ : tm_M) : Int32 := (cv_40 a1 μ)
def cs_2 (a1 : Int32) (μ : tm_M) : tm_M := (cs_40 a1 μ)
def ci_2 (a1 : Int32) (μ : tm_M) : Prop := (ci_40 a1 μ)
set_option maxHeartbeats 4000000 in
set_option maxRecDepth 10000 in
theorem tf_2 {a1 : Int32} (hi : ci_2 a1 μ) (h : Q (some (.inl (cv_2 a1 μ))) (cs_2 a1 μ)) : xm_MW (tm_I L xs) (d + 3) 2 [.inr (some (0, 0)), .inl a1] μ Q := by
  refine xr_in2 [some (.inr (some (0, 0))), some (.inl a1)] rfl rfl ?_
  unfold cv_2 cs_2 at h
  unfold ci_2 at hi
  refine xr_go 3 (pc' := 5) (ls' := [some (.inr (some (0, 0))), some (.inl a1)]) (st' := [.inl a1, .inr (some (6, 0))]) (s' := μ) rfl ?_
  refine xr_cl (y' := 40) (as := [.inr (some (6, 0)), .inl a1]) (r := []) rfl rfl ?_
  refine tf_40 (d := d + 0) (μ := μ) (a1 := a1) (hi) ?_
  show xr_t (tm_I L xs) (d + 2) 2 8 [some (.inr (some (0, 0))), some (.inl a1)] [.inl (cv_40 a1 μ)] (cs_40 a1 μ) Q
  generalize gv1 : (cv_40 a1 μ) = v1 at h hi ⊢
  generalize gμ2 : (cs_40 a1 μ) = μ2 at h hi ⊢
  exact xr_rt (v := some (.inl v1)) rfl h
-- BootNet$Layout.reserveFor(II)Z
def cv_41 (a1 : Int32) (a2 : Int32) (μ : tm_M) : Int32 := (if ((cv_38 a1 μ) = 0) ∨ ((a2 < 1) ∨ (¬ (a2 ≤ 9))) then 0 else (if (cv_43 ((10 * (μ 9 0 ((a1).toNatClampNeg))) + a2) a1 μ) = 0 then 1 else 0))
def cs_41 (a1 : Int32) (a2 : Int32) (μ : tm_M) : tm_M := (if ((cv_38 a1 μ) = 0) ∨ ((a2 < 1) ∨ (¬ (a2 ≤ 9))) then μ else (if (cv_43 ((10 * (μ 9 0 ((a1).toNatClampNeg))) + a2) a1 μ) = 0 then (if (cv_42 a1 μ) = 0 then (tm_wr μ 10 0 ((((10 * (μ 9 0 ((a1).toNatClampNeg))) + a2) : Int32).toNatClampNeg) a1) else (tm_wr (tm_wr μ 10 0 (((cv_42 a1 μ) : Int32).toNatClampNeg) (-1)) 10 0 ((((10 * (μ 9 0 ((a1).toNatClampNeg))) + a2) : Int32).toNatClampNeg) a1)) else μ))
def ci_41 (a1 : Int32) (a2 : Int32) (μ : tm_M) : Prop := ((¬ (((cv_38 a1 μ) = 0) ∨ ((a2 < 1) ∨ (¬ (a2 ≤ 9))))) → tm_ix a1 6 = true) ∧ ((¬ (((cv_38 a1 μ) = 0) ∨ ((a2 < 1) ∨ (¬ (a2 ≤ 9))))) → ci_43 ((10 * (μ 9 0 ((a1).toNatClampNeg))) + a2) a1 μ) ∧ ((¬ (((cv_38 a1 μ) = 0) ∨ ((a2 < 1) ∨ (¬ (a2 ≤ 9))))) → ((cv_43 ((10 * (μ 9 0 ((a1).toNatClampNeg))) + a2) a1 μ) = 0) → ci_42 a1 μ) ∧ ((¬ (((cv_38 a1 μ) = 0) ∨ ((a2 < 1) ∨ (¬ (a2 ≤ 9))))) → ((cv_43 ((10 * (μ 9 0 ((a1).toNatClampNeg))) + a2) a1 μ) = 0) → ((cv_42 a1 μ) = 0) → tm_ix ((10 * (μ 9 0 ((a1).toNatClampNeg))) + a2) 30 = true) ∧ ((¬ (((cv_38 a1 μ) = 0) ∨ ((a2 < 1) ∨ (¬ (a2 ≤ 9))))) → ((cv_43 ((10 * (μ 9 0 ((a1).toNatClampNeg))) + a2) a1 μ) = 0) → (¬ ((cv_42 a1 μ) = 0)) → tm_ix (cv_42 a1 μ) 30 = true) ∧ ((¬ (((cv_38 a1 μ) = 0) ∨ ((a2 < 1) ∨ (¬ (a2 ≤ 9))))) → ((cv_43 ((10 * (μ 9 0 ((a1).toNatClampNeg))) + a2) a1 μ) = 0) → (¬ ((cv_42 a1 μ) = 0)) → tm_ix ((10 * (μ 9 0 ((a1).toNatClampNeg))) + a2) 30 = true)
theorem cz_41 {a1 : Int32} {a2 : Int32} {μ : tm_M} : cv_41 a1 a2 μ = 0 ∨ cv_41 a1 a2 μ = 1 := by
  unfold cv_41
  (repeat' split) <;> first | exact Or.inl rfl | exact Or.inr rfl | exact cz_38 | exact cz_43
set_option maxHeartbeats 4000000 in
set_option maxRecDepth 10000 in
theorem tf_41 {a1 : Int32} {a2 : Int32} (hi : ci_41 a1 a2 μ) (h : Q (some (.inl (cv_41 a1 a2 μ))) (cs_41 a1 a2 μ)) : xm_MW (tm_I L xs) (d + 2) 41 [.inr (some (6, 0)), .inl a1, .inl a2] μ Q := by
  refine xr_in2 [some (.inr (some (6, 0))), some (.inl a1), some (.inl a2), none, none] rfl rfl ?_
  unfold cv_41 cs_41 at h
  unfold ci_41 at hi
  refine xr_go 2 (pc' := 2) (ls' := [some (.inr (some (6, 0))), some (.inl a1), some (.inl a2), none, none]) (st' := [.inl a1, .inr (some (6, 0))]) (s' := μ) rfl ?_
  refine xr_cl (y' := 38) (as := [.inr (some (6, 0)), .inl a1]) (r := []) rfl rfl ?_
  refine tf_38 (d := d + 0) (μ := μ) (a1 := a1) ?_
  show xr_t (tm_I L xs) (d + 1) 41 5 [some (.inr (some (6, 0))), some (.inl a1), some (.inl a2), none, none] [.inl (cv_38 a1 μ)] μ Q
  have z1 : (cv_38 a1 μ) = 0 ∨ (cv_38 a1 μ) = 1 := cz_38
  generalize gv1 : (cv_38 a1 μ) = v1 at h hi z1 ⊢
  suffices hE1 : (((v1 = 0) ∨ ((a2 < 1) ∨ (¬ (a2 ≤ 9)))) → xr_t (tm_I L xs) (d + 1) 41 19 [some (.inr (some (6, 0))), some (.inl a1), some (.inl a2), none, none] [] μ Q) ∧ (¬ ((v1 = 0) ∨ ((a2 < 1) ∨ (¬ (a2 ≤ 9)))) → xr_t (tm_I L xs) (d + 1) 41 21 [some (.inr (some (6, 0))), some (.inl a1), some (.inl a2), none, none] [] μ Q) by
    refine xr_br 1 (c := v1 = 0) inferInstance (a := 19) (b := 8) (ls' := [some (.inr (some (6, 0))), some (.inl a1), some (.inl a2), none, none]) (st' := []) (s' := μ) rfl (fun c1 => ?_) (fun c1 => ?_)
    · skip
      exact hE1.1 (Or.inl c1)
    · skip
      refine xr_br 3 (c := a2 < 1) inferInstance (a := 19) (b := 13) (ls' := [some (.inr (some (6, 0))), some (.inl a1), some (.inl a2), none, none]) (st' := []) (s' := μ) rfl (fun c2 => ?_) (fun c2 => ?_)
      · skip
        exact hE1.1 (Or.inr (Or.inl c2))
      · skip
        refine xr_br 3 (c := a2 ≤ 9) inferInstance (a := 21) (b := 19) (ls' := [some (.inr (some (6, 0))), some (.inl a1), some (.inl a2), none, none]) (st' := []) (s' := μ) rfl (fun c3 => ?_) (fun c3 => ?_)
        · skip
          exact hE1.2 (fun z => z.elim c1 (fun z => z.elim c2 (fun z => z c3)))
        · skip
          exact hE1.1 (Or.inr (Or.inr c3))
  refine ⟨fun c4 => ?_, fun c4 => ?_⟩
  · skip
    refine xr_go 1 (pc' := 20) (ls' := [some (.inr (some (6, 0))), some (.inl a1), some (.inl a2), none, none]) (st' := [.inl 0]) (s' := μ) rfl ?_
    try simp only [if_pos c4] at h
    exact xr_rt (v := some (.inl 0)) rfl h
  · skip
    refine xr_go 4 (pc' := 28) (ls' := [some (.inr (some (6, 0))), some (.inl a1), some (.inl a2), none, none]) (st' := [.inl a1, .inr (some (9, 0)), .inl 10]) (s' := μ) rfl ?_
    refine xr_ial (n := 6) rfl rfl (hi.1 c4) ?_
    refine xr_go 7 (pc' := 36) (ls' := [some (.inr (some (6, 0))), some (.inl a1), some (.inl a2), some (.inl ((10 * (μ 9 0 ((a1).toNatClampNeg))) + a2)), none]) (st' := [.inl a1, .inl ((10 * (μ 9 0 ((a1).toNatClampNeg))) + a2), .inr (some (6, 0))]) (s' := μ) rfl ?_
    refine xr_cl (y' := 43) (as := [.inr (some (6, 0)), .inl ((10 * (μ 9 0 ((a1).toNatClampNeg))) + a2), .inl a1]) (r := []) rfl rfl ?_
    refine tf_43 (d := d + 0) (μ := μ) (a1 := ((10 * (μ 9 0 ((a1).toNatClampNeg))) + a2)) (a2 := a1) (hi.2.1 c4) ?_
    show xr_t (tm_I L xs) (d + 1) 41 39 [some (.inr (some (6, 0))), some (.inl a1), some (.inl a2), some (.inl ((10 * (μ 9 0 ((a1).toNatClampNeg))) + a2)), none] [.inl (cv_43 ((10 * (μ 9 0 ((a1).toNatClampNeg))) + a2) a1 μ)] μ Q
    have z2 : (cv_43 ((10 * (μ 9 0 ((a1).toNatClampNeg))) + a2) a1 μ) = 0 ∨ (cv_43 ((10 * (μ 9 0 ((a1).toNatClampNeg))) + a2) a1 μ) = 1 := cz_43
    generalize gv2 : (cv_43 ((10 * (μ 9 0 ((a1).toNatClampNeg))) + a2) a1 μ) = v2 at h hi z2 ⊢
    refine xr_br 1 (c := v2 = 0) inferInstance (a := 44) (b := 42) (ls' := [some (.inr (some (6, 0))), some (.inl a1), some (.inl a2), some (.inl ((10 * (μ 9 0 ((a1).toNatClampNeg))) + a2)), none]) (st' := []) (s' := μ) rfl (fun c5 => ?_) (fun c5 => ?_)
    · skip
      refine xr_go 2 (pc' := 46) (ls' := [some (.inr (some (6, 0))), some (.inl a1), some (.inl a2), some (.inl ((10 * (μ 9 0 ((a1).toNatClampNeg))) + a2)), none]) (st' := [.inl a1, .inr (some (6, 0))]) (s' := μ) rfl ?_
      refine xr_cl (y' := 42) (as := [.inr (some (6, 0)), .inl a1]) (r := []) rfl rfl ?_
      refine tf_42 (d := d + 0) (μ := μ) (a1 := a1) (hi.2.2.1 c4 c5) ?_
      show xr_t (tm_I L xs) (d + 1) 41 49 [some (.inr (some (6, 0))), some (.inl a1), some (.inl a2), some (.inl ((10 * (μ 9 0 ((a1).toNatClampNeg))) + a2)), none] [.inl (cv_42 a1 μ)] μ Q
      generalize gv3 : (cv_42 a1 μ) = v3 at h hi ⊢
      refine xr_br 3 (c := v3 = 0) inferInstance (a := 64) (b := 56) (ls' := [some (.inr (some (6, 0))), some (.inl a1), some (.inl a2), some (.inl ((10 * (μ 9 0 ((a1).toNatClampNeg))) + a2)), some (.inl v3)]) (st' := []) (s' := μ) rfl (fun c6 => ?_) (fun c6 => ?_)
      · skip
        refine xr_go 4 (pc' := 70) (ls' := [some (.inr (some (6, 0))), some (.inl a1), some (.inl a2), some (.inl ((10 * (μ 9 0 ((a1).toNatClampNeg))) + a2)), some (.inl v3)]) (st' := [.inl a1, .inl ((10 * (μ 9 0 ((a1).toNatClampNeg))) + a2), .inr (some (10, 0))]) (s' := μ) rfl ?_
        refine xr_ias (n := 30) rfl rfl (hi.2.2.2.1 c4 c5 c6) ?_
        refine xr_go 1 (pc' := 72) (ls' := [some (.inr (some (6, 0))), some (.inl a1), some (.inl a2), some (.inl ((10 * (μ 9 0 ((a1).toNatClampNeg))) + a2)), some (.inl v3)]) (st' := [.inl 1]) (s' := (tm_wr μ 10 0 ((((10 * (μ 9 0 ((a1).toNatClampNeg))) + a2) : Int32).toNatClampNeg) a1)) rfl ?_
        try simp only [if_neg c4, if_pos c5, if_pos c6] at h
        exact xr_rt (v := some (.inl 1)) rfl h
      · skip
        refine xr_go 4 (pc' := 63) (ls' := [some (.inr (some (6, 0))), some (.inl a1), some (.inl a2), some (.inl ((10 * (μ 9 0 ((a1).toNatClampNeg))) + a2)), some (.inl v3)]) (st' := [.inl (-1), .inl v3, .inr (some (10, 0))]) (s' := μ) rfl ?_
        refine xr_ias (n := 30) rfl rfl (hi.2.2.2.2.1 c4 c5 c6) ?_
        refine xr_go 4 (pc' := 70) (ls' := [some (.inr (some (6, 0))), some (.inl a1), some (.inl a2), some (.inl ((10 * (μ 9 0 ((a1).toNatClampNeg))) + a2)), some (.inl v3)]) (st' := [.inl a1, .inl ((10 * (μ 9 0 ((a1).toNatClampNeg))) + a2), .inr (some (10, 0))]) (s' := (tm_wr μ 10 0 ((v3 : Int32).toNatClampNeg) (-1))) rfl ?_
        refine xr_ias (n := 30) rfl rfl (hi.2.2.2.2.2 c4 c5 c6) ?_
        refine xr_go 1 (pc' := 72) (ls' := [some (.inr (some (6, 0))), some (.inl a1), some (.inl a2), some (.inl ((10 * (μ 9 0 ((a1).toNatClampNeg))) + a2)), some (.inl v3)]) (st' := [.inl 1]) (s' := (tm_wr (tm_wr μ 10 0 ((v3 : Int32).toNatClampNeg) (-1)) 10 0 ((((10 * (μ 9 0 ((a1).toNatClampNeg))) + a2) : Int32).toNatClampNeg) a1)) rfl ?_
        try simp only [if_neg c4, if_pos c5, if_neg c6] at h
        exact xr_rt (v := some (.inl 1)) rfl h
    · skip
      refine xr_go 1 (pc' := 43) (ls' := [some (.inr (some (6, 0))), some (.inl a1), some (.inl a2), some (.inl ((10 * (μ 9 0 ((a1).toNatClampNeg))) + a2)), none]) (st' := [.inl 0]) (s' := μ) rfl ?_
      try simp only [if_neg c4, if_neg c5] at h
      exact xr_rt (v := some (.inl 0)) rfl h
-- BootNet.reserve(II)Z
def cv_3 (a1 : Int32) (a2 : Int32) (μ : tm_M) : Int32 := (cv_41 a1 a2 μ)
def cs_3 (a1 : Int32) (a2 : Int32) (μ : tm_M) : tm_M := (cs_41 a1 a2 μ)
def ci_3 (a1 : Int32) (a2 : Int32) (μ : tm_M) : Prop := (ci_41 a1 a2 μ)
theorem cz_3 {a1 : Int32} {a2 : Int32} {μ : tm_M} : cv_3 a1 a2 μ = 0 ∨ cv_3 a1 a2 μ = 1 := by
  unfold cv_3
  (repeat' split) <;> first | exact Or.inl rfl | exact Or.inr rfl | exact cz_41
set_option maxHeartbeats 4000000 in
set_option maxRecDepth 10000 in
theorem tf_3 {a1 : Int32} {a2 : Int32} (hi : ci_3 a1 a2 μ) (h : Q (some (.inl (cv_3 a1 a2 μ))) (cs_3 a1 a2 μ)) : xm_MW (tm_I L xs) (d + 3) 3 [.inr (some (0, 0)), .inl a1, .inl a2] μ Q := by
  refine xr_in2 [some (.inr (some (0, 0))), some (.inl a1), some (.inl a2)] rfl rfl ?_
  unfold cv_3 cs_3 at h
  unfold ci_3 at hi
  refine xr_go 4 (pc' := 6) (ls' := [some (.inr (some (0, 0))), some (.inl a1), some (.inl a2)]) (st' := [.inl a2, .inl a1, .inr (some (6, 0))]) (s' := μ) rfl ?_
  refine xr_cl (y' := 41) (as := [.inr (some (6, 0)), .inl a1, .inl a2]) (r := []) rfl rfl ?_
  refine tf_41 (d := d + 0) (μ := μ) (a1 := a1) (a2 := a2) (hi) ?_
  show xr_t (tm_I L xs) (d + 2) 3 9 [some (.inr (some (0, 0))), some (.inl a1), some (.inl a2)] [.inl (cv_41 a1 a2 μ)] (cs_41 a1 a2 μ) Q
  have z1 : (cv_41 a1 a2 μ) = 0 ∨ (cv_41 a1 a2 μ) = 1 := cz_41
  generalize gv1 : (cv_41 a1 a2 μ) = v1 at h hi z1 ⊢
  generalize gμ2 : (cs_41 a1 a2 μ) = μ2 at h hi ⊢
  exact xr_zr rfl (fun _ => z1) h
-- BootNet.stranger(IZ)Z
def cv_4 (a1 : Int32) (a2 : Int32) (μ : tm_M) : Int32 := (cv_44 a1 a2 μ)
def cs_4 (a1 : Int32) (a2 : Int32) (μ : tm_M) : tm_M := (cs_44 a1 a2 μ)
def ci_4 (a1 : Int32) (a2 : Int32) (μ : tm_M) : Prop := (ci_44 a1 a2 μ)
theorem cz_4 {a1 : Int32} {a2 : Int32} {μ : tm_M} : cv_4 a1 a2 μ = 0 ∨ cv_4 a1 a2 μ = 1 := by
  unfold cv_4
  (repeat' split) <;> first | exact Or.inl rfl | exact Or.inr rfl | exact cz_44
set_option maxHeartbeats 4000000 in
set_option maxRecDepth 10000 in
theorem tf_4 {a1 : Int32} {a2 : Int32} (hi : ci_4 a1 a2 μ) (h : Q (some (.inl (cv_4 a1 a2 μ))) (cs_4 a1 a2 μ)) : xm_MW (tm_I L xs) (d + 3) 4 [.inr (some (0, 0)), .inl a1, .inl a2] μ Q := by
  refine xr_in2 [some (.inr (some (0, 0))), some (.inl a1), some (.inl a2)] rfl rfl ?_
  unfold cv_4 cs_4 at h
  unfold ci_4 at hi
  refine xr_go 4 (pc' := 6) (ls' := [some (.inr (some (0, 0))), some (.inl a1), some (.inl a2)]) (st' := [.inl a2, .inl a1, .inr (some (6, 0))]) (s' := μ) rfl ?_
  refine xr_cl (y' := 44) (as := [.inr (some (6, 0)), .inl a1, .inl a2]) (r := []) rfl rfl ?_
  refine tf_44 (d := d + 0) (μ := μ) (a1 := a1) (a2 := a2) (hi) ?_
  show xr_t (tm_I L xs) (d + 2) 4 9 [some (.inr (some (0, 0))), some (.inl a1), some (.inl a2)] [.inl (cv_44 a1 a2 μ)] (cs_44 a1 a2 μ) Q
  have z1 : (cv_44 a1 a2 μ) = 0 ∨ (cv_44 a1 a2 μ) = 1 := cz_44
  generalize gv1 : (cv_44 a1 a2 μ) = v1 at h hi z1 ⊢
  generalize gμ2 : (cs_44 a1 a2 μ) = μ2 at h hi ⊢
  exact xr_zr rfl (fun _ => z1) h
-- BootNet$Library.addByte(II)Z
def cv_53 (a1 : Int32) (a2 : Int32) (μ : tm_M) : Int32 := (if ((cv_51 a1 μ) = 0) ∨ ((a2 < 0) ∨ (((255 : Int32) < a2) ∨ (¬ ((μ 15 0 ((a1).toNatClampNeg)) < 40)))) then 0 else 1)
def cs_53 (a1 : Int32) (a2 : Int32) (μ : tm_M) : tm_M := (if ((cv_51 a1 μ) = 0) ∨ ((a2 < 0) ∨ (((255 : Int32) < a2) ∨ (¬ ((μ 15 0 ((a1).toNatClampNeg)) < 40)))) then μ else (tm_wr (tm_wr μ 14 ((a1).toNatClampNeg) (((μ 15 0 ((a1).toNatClampNeg)) : Int32).toNatClampNeg) a2) 15 0 ((a1).toNatClampNeg) ((μ 15 0 ((a1).toNatClampNeg)) + 1)))
def ci_53 (a1 : Int32) (a2 : Int32) (μ : tm_M) : Prop := ((¬ ((cv_51 a1 μ) = 0)) → (¬ (a2 < 0)) → (¬ ((255 : Int32) < a2)) → tm_ix a1 4 = true) ∧ ((¬ (((cv_51 a1 μ) = 0) ∨ ((a2 < 0) ∨ (((255 : Int32) < a2) ∨ (¬ ((μ 15 0 ((a1).toNatClampNeg)) < 40)))))) → tm_ix a1 4 = true) ∧ ((¬ (((cv_51 a1 μ) = 0) ∨ ((a2 < 0) ∨ (((255 : Int32) < a2) ∨ (¬ ((μ 15 0 ((a1).toNatClampNeg)) < 40)))))) → tm_ix (μ 15 0 ((a1).toNatClampNeg)) 40 = true)
theorem cz_53 {a1 : Int32} {a2 : Int32} {μ : tm_M} : cv_53 a1 a2 μ = 0 ∨ cv_53 a1 a2 μ = 1 := by
  unfold cv_53
  (repeat' split) <;> first | exact Or.inl rfl | exact Or.inr rfl | exact cz_51
set_option maxHeartbeats 4000000 in
set_option maxRecDepth 10000 in
theorem tf_53 {a1 : Int32} {a2 : Int32} (hi : ci_53 a1 a2 μ) (h : Q (some (.inl (cv_53 a1 a2 μ))) (cs_53 a1 a2 μ)) : xm_MW (tm_I L xs) (d + 2) 53 [.inr (some (12, 0)), .inl a1, .inl a2] μ Q := by
  refine xr_in2 [some (.inr (some (12, 0))), some (.inl a1), some (.inl a2)] rfl rfl ?_
  unfold cv_53 cs_53 at h
  unfold ci_53 at hi
  refine xr_go 1 (pc' := 1) (ls' := [some (.inr (some (12, 0))), some (.inl a1), some (.inl a2)]) (st' := [.inl a1]) (s' := μ) rfl ?_
  refine xr_cl (y' := 51) (as := [.inl a1]) (r := []) rfl rfl ?_
  refine tf_51 (d := d + 0) (μ := μ) (a1 := a1) ?_
  show xr_t (tm_I L xs) (d + 1) 53 4 [some (.inr (some (12, 0))), some (.inl a1), some (.inl a2)] [.inl (cv_51 a1 μ)] μ Q
  have z1 : (cv_51 a1 μ) = 0 ∨ (cv_51 a1 μ) = 1 := cz_51
  generalize gv1 : (cv_51 a1 μ) = v1 at h hi z1 ⊢
  suffices hE1 : (((v1 = 0) ∨ ((a2 < 0) ∨ (((255 : Int32) < a2) ∨ (¬ ((μ 15 0 ((a1).toNatClampNeg)) < 40))))) → xr_t (tm_I L xs) (d + 1) 53 29 [some (.inr (some (12, 0))), some (.inl a1), some (.inl a2)] [] μ Q) ∧ (¬ ((v1 = 0) ∨ ((a2 < 0) ∨ (((255 : Int32) < a2) ∨ (¬ ((μ 15 0 ((a1).toNatClampNeg)) < 40))))) → xr_t (tm_I L xs) (d + 1) 53 31 [some (.inr (some (12, 0))), some (.inl a1), some (.inl a2)] [] μ Q) by
    refine xr_br 1 (c := v1 = 0) inferInstance (a := 29) (b := 7) (ls' := [some (.inr (some (12, 0))), some (.inl a1), some (.inl a2)]) (st' := []) (s' := μ) rfl (fun c1 => ?_) (fun c1 => ?_)
    · skip
      exact hE1.1 (Or.inl c1)
    · skip
      refine xr_br 2 (c := a2 < 0) inferInstance (a := 29) (b := 11) (ls' := [some (.inr (some (12, 0))), some (.inl a1), some (.inl a2)]) (st' := []) (s' := μ) rfl (fun c2 => ?_) (fun c2 => ?_)
      · skip
        exact hE1.1 (Or.inr (Or.inl c2))
      · skip
        refine xr_br 3 (c := (255 : Int32) < a2) inferInstance (a := 29) (b := 18) (ls' := [some (.inr (some (12, 0))), some (.inl a1), some (.inl a2)]) (st' := []) (s' := μ) rfl (fun c3 => ?_) (fun c3 => ?_)
        · skip
          exact hE1.1 (Or.inr (Or.inr (Or.inl c3)))
        · skip
          refine xr_go 3 (pc' := 23) (ls' := [some (.inr (some (12, 0))), some (.inl a1), some (.inl a2)]) (st' := [.inl a1, .inr (some (15, 0))]) (s' := μ) rfl ?_
          refine xr_ial (n := 4) rfl rfl (hi.1 c1 c2 c3) ?_
          refine xr_br 2 (c := (μ 15 0 ((a1).toNatClampNeg)) < 40) inferInstance (a := 31) (b := 29) (ls' := [some (.inr (some (12, 0))), some (.inl a1), some (.inl a2)]) (st' := []) (s' := μ) rfl (fun c4 => ?_) (fun c4 => ?_)
          · skip
            exact hE1.2 (fun z => z.elim c1 (fun z => z.elim c2 (fun z => z.elim c3 (fun z => z c4))))
          · skip
            exact hE1.1 (Or.inr (Or.inr (Or.inr c4)))
  refine ⟨fun c5 => ?_, fun c5 => ?_⟩
  · skip
    refine xr_go 1 (pc' := 30) (ls' := [some (.inr (some (12, 0))), some (.inl a1), some (.inl a2)]) (st' := [.inl 0]) (s' := μ) rfl ?_
    try simp only [if_pos c5] at h
    exact xr_rt (v := some (.inl 0)) rfl h
  · skip
    refine xr_go 3 (pc' := 36) (ls' := [some (.inr (some (12, 0))), some (.inl a1), some (.inl a2)]) (st' := [.inl a1, .inr (some (13, 0))]) (s' := μ) rfl ?_
    refine xr_aal (n := 4) (w := (14, (a1).toNatClampNeg)) rfl rfl (hi.2.1 c5) rfl ?_
    refine xr_go 3 (pc' := 42) (ls' := [some (.inr (some (12, 0))), some (.inl a1), some (.inl a2)]) (st' := [.inl a1, .inr (some (15, 0)), .inr (some (14, (a1).toNatClampNeg))]) (s' := μ) rfl ?_
    refine xr_ial (n := 4) rfl rfl (hi.2.1 c5) ?_
    refine xr_go 1 (pc' := 44) (ls' := [some (.inr (some (12, 0))), some (.inl a1), some (.inl a2)]) (st' := [.inl a2, .inl (μ 15 0 ((a1).toNatClampNeg)), .inr (some (14, (a1).toNatClampNeg))]) (s' := μ) rfl ?_
    refine xr_ias (n := 40) rfl rfl (hi.2.2 c5) ?_
    refine xr_go 4 (pc' := 51) (ls' := [some (.inr (some (12, 0))), some (.inl a1), some (.inl a2)]) (st' := [.inl a1, .inr (some (15, 0)), .inl a1, .inr (some (15, 0))]) (s' := (tm_wr μ 14 ((a1).toNatClampNeg) (((μ 15 0 ((a1).toNatClampNeg)) : Int32).toNatClampNeg) a2)) rfl ?_
    refine xr_ial (n := 4) rfl rfl (hi.2.1 c5) ?_
    refine xr_go 2 (pc' := 54) (ls' := [some (.inr (some (12, 0))), some (.inl a1), some (.inl a2)]) (st' := [.inl ((μ 15 0 ((a1).toNatClampNeg)) + 1), .inl a1, .inr (some (15, 0))]) (s' := (tm_wr μ 14 ((a1).toNatClampNeg) (((μ 15 0 ((a1).toNatClampNeg)) : Int32).toNatClampNeg) a2)) rfl ?_
    refine xr_ias (n := 4) rfl rfl (hi.2.1 c5) ?_
    refine xr_go 1 (pc' := 56) (ls' := [some (.inr (some (12, 0))), some (.inl a1), some (.inl a2)]) (st' := [.inl 1]) (s' := (tm_wr (tm_wr μ 14 ((a1).toNatClampNeg) (((μ 15 0 ((a1).toNatClampNeg)) : Int32).toNatClampNeg) a2) 15 0 ((a1).toNatClampNeg) ((μ 15 0 ((a1).toNatClampNeg)) + 1))) rfl ?_
    try simp only [if_neg c5] at h
    exact xr_rt (v := some (.inl 1)) rfl h
-- BootNet.put(II)Z
def cv_5 (a1 : Int32) (a2 : Int32) (μ : tm_M) : Int32 := (cv_53 a1 a2 μ)
def cs_5 (a1 : Int32) (a2 : Int32) (μ : tm_M) : tm_M := (cs_53 a1 a2 μ)
def ci_5 (a1 : Int32) (a2 : Int32) (μ : tm_M) : Prop := (ci_53 a1 a2 μ)
theorem cz_5 {a1 : Int32} {a2 : Int32} {μ : tm_M} : cv_5 a1 a2 μ = 0 ∨ cv_5 a1 a2 μ = 1 := by
  unfold cv_5
  (repeat' split) <;> first | exact Or.inl rfl | exact Or.inr rfl | exact cz_53
set_option maxHeartbeats 4000000 in
set_option maxRecDepth 10000 in
theorem tf_5 {a1 : Int32} {a2 : Int32} (hi : ci_5 a1 a2 μ) (h : Q (some (.inl (cv_5 a1 a2 μ))) (cs_5 a1 a2 μ)) : xm_MW (tm_I L xs) (d + 3) 5 [.inr (some (0, 0)), .inl a1, .inl a2] μ Q := by
  refine xr_in2 [some (.inr (some (0, 0))), some (.inl a1), some (.inl a2)] rfl rfl ?_
  unfold cv_5 cs_5 at h
  unfold ci_5 at hi
  refine xr_go 4 (pc' := 6) (ls' := [some (.inr (some (0, 0))), some (.inl a1), some (.inl a2)]) (st' := [.inl a2, .inl a1, .inr (some (12, 0))]) (s' := μ) rfl ?_
  refine xr_cl (y' := 53) (as := [.inr (some (12, 0)), .inl a1, .inl a2]) (r := []) rfl rfl ?_
  refine tf_53 (d := d + 0) (μ := μ) (a1 := a1) (a2 := a2) (hi) ?_
  show xr_t (tm_I L xs) (d + 2) 5 9 [some (.inr (some (0, 0))), some (.inl a1), some (.inl a2)] [.inl (cv_53 a1 a2 μ)] (cs_53 a1 a2 μ) Q
  have z1 : (cv_53 a1 a2 μ) = 0 ∨ (cv_53 a1 a2 μ) = 1 := cz_53
  generalize gv1 : (cv_53 a1 a2 μ) = v1 at h hi z1 ⊢
  generalize gμ2 : (cs_53 a1 a2 μ) = μ2 at h hi ⊢
  exact xr_zr rfl (fun _ => z1) h
-- BootNet.entry(III)Z
def cv_6 (a1 : Int32) (a2 : Int32) (a3 : Int32) (μ : tm_M) : Int32 := (cv_57 a1 a2 a3 μ)
def cs_6 (a1 : Int32) (a2 : Int32) (a3 : Int32) (μ : tm_M) : tm_M := (cs_57 a1 a2 a3 μ)
def ci_6 (a1 : Int32) (a2 : Int32) (a3 : Int32) (μ : tm_M) : Prop := (ci_57 a1 a2 a3 μ)
theorem cz_6 {a1 : Int32} {a2 : Int32} {a3 : Int32} {μ : tm_M} : cv_6 a1 a2 a3 μ = 0 ∨ cv_6 a1 a2 a3 μ = 1 := by
  unfold cv_6
  (repeat' split) <;> first | exact Or.inl rfl | exact Or.inr rfl | exact cz_57
set_option maxHeartbeats 4000000 in
set_option maxRecDepth 10000 in
theorem tf_6 {a1 : Int32} {a2 : Int32} {a3 : Int32} (hi : ci_6 a1 a2 a3 μ) (h : Q (some (.inl (cv_6 a1 a2 a3 μ))) (cs_6 a1 a2 a3 μ)) : xm_MW (tm_I L xs) (d + 3) 6 [.inr (some (0, 0)), .inl a1, .inl a2, .inl a3] μ Q := by
  refine xr_in2 [some (.inr (some (0, 0))), some (.inl a1), some (.inl a2), some (.inl a3)] rfl rfl ?_
  unfold cv_6 cs_6 at h
  unfold ci_6 at hi
  refine xr_go 5 (pc' := 7) (ls' := [some (.inr (some (0, 0))), some (.inl a1), some (.inl a2), some (.inl a3)]) (st' := [.inl a3, .inl a2, .inl a1, .inr (some (12, 0))]) (s' := μ) rfl ?_
  refine xr_cl (y' := 57) (as := [.inr (some (12, 0)), .inl a1, .inl a2, .inl a3]) (r := []) rfl rfl ?_
  refine tf_57 (d := d + 0) (μ := μ) (a1 := a1) (a2 := a2) (a3 := a3) (hi) ?_
  show xr_t (tm_I L xs) (d + 2) 6 10 [some (.inr (some (0, 0))), some (.inl a1), some (.inl a2), some (.inl a3)] [.inl (cv_57 a1 a2 a3 μ)] (cs_57 a1 a2 a3 μ) Q
  have z1 : (cv_57 a1 a2 a3 μ) = 0 ∨ (cv_57 a1 a2 a3 μ) = 1 := cz_57
  generalize gv1 : (cv_57 a1 a2 a3 μ) = v1 at h hi z1 ⊢
  generalize gμ2 : (cs_57 a1 a2 a3 μ) = μ2 at h hi ⊢
  exact xr_zr rfl (fun _ => z1) h
-- BootNet$Library.checkOf(I)I
def cv_54 (a1 : Int32) (μ : tm_M) : Int32 := ((if (cv_51 a1 μ) = 0 then 0 else (cv_52k14 ((a1).toNatClampNeg) 0 (μ 15 0 ((a1).toNatClampNeg)) μ)) : Int32)
def ci_54 (a1 : Int32) (μ : tm_M) : Prop := ((¬ ((cv_51 a1 μ) = 0)) → tm_ix a1 4 = true) ∧ ((¬ ((cv_51 a1 μ) = 0)) → ci_52k14 ((a1).toNatClampNeg) 0 (μ 15 0 ((a1).toNatClampNeg)) μ)
set_option maxHeartbeats 4000000 in
set_option maxRecDepth 10000 in
theorem tf_54 {a1 : Int32} (hi : ci_54 a1 μ) (h : Q (some (.inl (cv_54 a1 μ))) μ) : xm_MW (tm_I L xs) (d + 2) 54 [.inr (some (12, 0)), .inl a1] μ Q := by
  refine xr_in2 [some (.inr (some (12, 0))), some (.inl a1)] rfl rfl ?_
  unfold cv_54 at h
  unfold ci_54 at hi
  refine xr_go 1 (pc' := 1) (ls' := [some (.inr (some (12, 0))), some (.inl a1)]) (st' := [.inl a1]) (s' := μ) rfl ?_
  refine xr_cl (y' := 51) (as := [.inl a1]) (r := []) rfl rfl ?_
  refine tf_51 (d := d + 0) (μ := μ) (a1 := a1) ?_
  show xr_t (tm_I L xs) (d + 1) 54 4 [some (.inr (some (12, 0))), some (.inl a1)] [.inl (cv_51 a1 μ)] μ Q
  have z1 : (cv_51 a1 μ) = 0 ∨ (cv_51 a1 μ) = 1 := cz_51
  generalize gv1 : (cv_51 a1 μ) = v1 at h hi z1 ⊢
  suffices hj1 : xr_t (tm_I L xs) (d + 1) 54 27 [some (.inr (some (12, 0))), some (.inl a1)] [.inl ((if v1 = 0 then 0 else (cv_52k14 ((a1).toNatClampNeg) 0 (μ 15 0 ((a1).toNatClampNeg)) μ)) : Int32)] μ Q by
    refine xr_br 1 (c := v1 = 0) inferInstance (a := 26) (b := 7) (ls' := [some (.inr (some (12, 0))), some (.inl a1)]) (st' := []) (s' := μ) rfl (fun c1 => ?_) (fun c1 => ?_)
    · skip
      refine xr_go 1 (pc' := 27) (ls' := [some (.inr (some (12, 0))), some (.inl a1)]) (st' := [.inl 0]) (s' := μ) rfl ?_
      have ehj1 : ((if v1 = 0 then 0 else (cv_52k14 ((a1).toNatClampNeg) 0 (μ 15 0 ((a1).toNatClampNeg)) μ)) : Int32) = 0 := by first | rfl | simp only [if_pos c1]
      rw [ehj1] at hj1
      exact hj1
    · skip
      refine xr_go 3 (pc' := 12) (ls' := [some (.inr (some (12, 0))), some (.inl a1)]) (st' := [.inl a1, .inr (some (13, 0))]) (s' := μ) rfl ?_
      refine xr_aal (n := 4) (w := (14, (a1).toNatClampNeg)) rfl rfl (hi.1 c1) rfl ?_
      refine xr_go 4 (pc' := 19) (ls' := [some (.inr (some (12, 0))), some (.inl a1)]) (st' := [.inl a1, .inr (some (15, 0)), .inl 0, .inr (some (14, (a1).toNatClampNeg))]) (s' := μ) rfl ?_
      refine xr_ial (n := 4) rfl rfl (hi.1 c1) ?_
      refine xr_cl (y' := 52) (as := [.inr (some (14, (a1).toNatClampNeg)), .inl 0, .inl (μ 15 0 ((a1).toNatClampNeg))]) (r := []) rfl rfl ?_
      refine tf_52k14 (d := d + 0) (μ := μ) (m1 := ((a1).toNatClampNeg)) (a2 := 0) (a3 := (μ 15 0 ((a1).toNatClampNeg))) (hi.2 c1) ?_
      show xr_t (tm_I L xs) (d + 1) 54 23 [some (.inr (some (12, 0))), some (.inl a1)] [.inl (cv_52k14 ((a1).toNatClampNeg) 0 (μ 15 0 ((a1).toNatClampNeg)) μ)] μ Q
      refine xr_go 1 (pc' := 27) (ls' := [some (.inr (some (12, 0))), some (.inl a1)]) (st' := [.inl (cv_52k14 ((a1).toNatClampNeg) 0 (μ 15 0 ((a1).toNatClampNeg)) μ)]) (s' := μ) rfl ?_
      have ehj1 : ((if v1 = 0 then 0 else (cv_52k14 ((a1).toNatClampNeg) 0 (μ 15 0 ((a1).toNatClampNeg)) μ)) : Int32) = (cv_52k14 ((a1).toNatClampNeg) 0 (μ 15 0 ((a1).toNatClampNeg)) μ) := by first | rfl | simp only [if_neg c1]
      rw [ehj1] at hj1
      exact hj1
  exact xr_rt (v := some (.inl ((if v1 = 0 then 0 else (cv_52k14 ((a1).toNatClampNeg) 0 (μ 15 0 ((a1).toNatClampNeg)) μ)) : Int32))) rfl h
-- BootNet.check(I)I
def cv_7 (a1 : Int32) (μ : tm_M) : Int32 := (cv_54 a1 μ)
def ci_7 (a1 : Int32) (μ : tm_M) : Prop := (ci_54 a1 μ)
set_option maxHeartbeats 4000000 in
set_option maxRecDepth 10000 in
theorem tf_7 {a1 : Int32} (hi : ci_7 a1 μ) (h : Q (some (.inl (cv_7 a1 μ))) μ) : xm_MW (tm_I L xs) (d + 3) 7 [.inr (some (0, 0)), .inl a1] μ Q := by
  refine xr_in2 [some (.inr (some (0, 0))), some (.inl a1)] rfl rfl ?_
  unfold cv_7 at h
  unfold ci_7 at hi
  refine xr_go 3 (pc' := 5) (ls' := [some (.inr (some (0, 0))), some (.inl a1)]) (st' := [.inl a1, .inr (some (12, 0))]) (s' := μ) rfl ?_
  refine xr_cl (y' := 54) (as := [.inr (some (12, 0)), .inl a1]) (r := []) rfl rfl ?_
  refine tf_54 (d := d + 0) (μ := μ) (a1 := a1) (hi) ?_
  show xr_t (tm_I L xs) (d + 2) 7 8 [some (.inr (some (0, 0))), some (.inl a1)] [.inl (cv_54 a1 μ)] μ Q
  generalize gv1 : (cv_54 a1 μ) = v1 at h hi ⊢
  exact xr_rt (v := some (.inl v1)) rfl h
-- BootNet$Wire.post(IIIIII)LBootNet$Message;
def cv_117 (a1 : Int32) (a2 : Int32) (a3 : Int32) (a4 : Int32) (a5 : Int32) (a6 : Int32) (μ : tm_M) : Nat := (if (32 : Int32) ≤ (μ 2 0 1) then 1 else ((μ 3 0 (((μ 2 0 1) : Int32).toNatClampNeg)) : Int32).toNatClampNeg)
def cs_117 (a1 : Int32) (a2 : Int32) (a3 : Int32) (a4 : Int32) (a5 : Int32) (a6 : Int32) (μ : tm_M) : tm_M := (if (32 : Int32) ≤ (μ 2 0 1) then (tm_wr (tm_wr (tm_wr (tm_wr (tm_wr (tm_wr (tm_wr μ 4 1 0 a1) 4 1 1 a2) 4 1 5 a3) 4 1 2 a4) 4 1 3 a5) 4 1 4 a6) 4 1 6 0) else (tm_wr (tm_wr (tm_wr (tm_wr (tm_wr (tm_wr (tm_wr (tm_wr μ 2 0 1 ((μ 2 0 1) + 1)) 4 (((μ 3 0 (((μ 2 0 1) : Int32).toNatClampNeg)) : Int32).toNatClampNeg) 0 a1) 4 (((μ 3 0 (((μ 2 0 1) : Int32).toNatClampNeg)) : Int32).toNatClampNeg) 1 a2) 4 (((μ 3 0 (((μ 2 0 1) : Int32).toNatClampNeg)) : Int32).toNatClampNeg) 5 a3) 4 (((μ 3 0 (((μ 2 0 1) : Int32).toNatClampNeg)) : Int32).toNatClampNeg) 2 a4) 4 (((μ 3 0 (((μ 2 0 1) : Int32).toNatClampNeg)) : Int32).toNatClampNeg) 3 a5) 4 (((μ 3 0 (((μ 2 0 1) : Int32).toNatClampNeg)) : Int32).toNatClampNeg) 4 a6) 4 (((μ 3 0 (((μ 2 0 1) : Int32).toNatClampNeg)) : Int32).toNatClampNeg) 6 0))
def ci_117 (a1 : Int32) (a2 : Int32) (a3 : Int32) (a4 : Int32) (a5 : Int32) (a6 : Int32) (μ : tm_M) : Prop := ((¬ ((32 : Int32) ≤ (μ 2 0 1))) → tm_ix (μ 2 0 1) 32 = true)
set_option maxHeartbeats 4000000 in
set_option maxRecDepth 10000 in
theorem tf_117 {a1 : Int32} {a2 : Int32} {a3 : Int32} {a4 : Int32} {a5 : Int32} {a6 : Int32} (hi : ci_117 a1 a2 a3 a4 a5 a6 μ) (h : Q (some (.inr (some (4, cv_117 a1 a2 a3 a4 a5 a6 μ)))) (cs_117 a1 a2 a3 a4 a5 a6 μ)) : xm_MW (tm_I L xs) (d + 1) 117 [.inr (some (2, 0)), .inl a1, .inl a2, .inl a3, .inl a4, .inl a5, .inl a6] μ Q := by
  refine xr_in2 [some (.inr (some (2, 0))), some (.inl a1), some (.inl a2), some (.inl a3), some (.inl a4), some (.inl a5), some (.inl a6), none] rfl rfl ?_
  unfold cv_117 cs_117 at h
  unfold ci_117 at hi
  refine xr_br 7 (c := (32 : Int32) ≤ (μ 2 0 1)) inferInstance (a := 36) (b := 15) (ls' := [some (.inr (some (2, 0))), some (.inl a1), some (.inl a2), some (.inl a3), some (.inl a4), some (.inl a5), some (.inl a6), some (.inr (some (4, 1)))]) (st' := []) (s' := μ) rfl (fun c1 => ?_) (fun c1 => ?_)
  · skip
    refine xr_go 22 (pc' := 83) (ls' := [some (.inr (some (2, 0))), some (.inl a1), some (.inl a2), some (.inl a3), some (.inl a4), some (.inl a5), some (.inl a6), some (.inr (some (4, 1)))]) (st' := [.inr (some (4, 1))]) (s' := (tm_wr (tm_wr (tm_wr (tm_wr (tm_wr (tm_wr (tm_wr μ 4 1 0 a1) 4 1 1 a2) 4 1 5 a3) 4 1 2 a4) 4 1 3 a5) 4 1 4 a6) 4 1 6 0)) rfl ?_
    try simp only [if_pos c1] at h
    exact xr_rt (v := some (.inr (some (4, 1)))) rfl h
  · skip
    refine xr_go 4 (pc' := 23) (ls' := [some (.inr (some (2, 0))), some (.inl a1), some (.inl a2), some (.inl a3), some (.inl a4), some (.inl a5), some (.inl a6), some (.inr (some (4, 1)))]) (st' := [.inl (μ 2 0 1), .inr (some (3, 0))]) (s' := μ) rfl ?_
    refine xr_aal (n := 32) (w := (4, ((μ 3 0 (((μ 2 0 1) : Int32).toNatClampNeg)) : Int32).toNatClampNeg)) rfl rfl (hi c1) rfl ?_
    refine xr_go 29 (pc' := 83) (ls' := [some (.inr (some (2, 0))), some (.inl a1), some (.inl a2), some (.inl a3), some (.inl a4), some (.inl a5), some (.inl a6), some (.inr (some (4, ((μ 3 0 (((μ 2 0 1) : Int32).toNatClampNeg)) : Int32).toNatClampNeg)))]) (st' := [.inr (some (4, ((μ 3 0 (((μ 2 0 1) : Int32).toNatClampNeg)) : Int32).toNatClampNeg))]) (s' := (tm_wr (tm_wr (tm_wr (tm_wr (tm_wr (tm_wr (tm_wr (tm_wr μ 2 0 1 ((μ 2 0 1) + 1)) 4 (((μ 3 0 (((μ 2 0 1) : Int32).toNatClampNeg)) : Int32).toNatClampNeg) 0 a1) 4 (((μ 3 0 (((μ 2 0 1) : Int32).toNatClampNeg)) : Int32).toNatClampNeg) 1 a2) 4 (((μ 3 0 (((μ 2 0 1) : Int32).toNatClampNeg)) : Int32).toNatClampNeg) 5 a3) 4 (((μ 3 0 (((μ 2 0 1) : Int32).toNatClampNeg)) : Int32).toNatClampNeg) 2 a4) 4 (((μ 3 0 (((μ 2 0 1) : Int32).toNatClampNeg)) : Int32).toNatClampNeg) 3 a5) 4 (((μ 3 0 (((μ 2 0 1) : Int32).toNatClampNeg)) : Int32).toNatClampNeg) 4 a6) 4 (((μ 3 0 (((μ 2 0 1) : Int32).toNatClampNeg)) : Int32).toNatClampNeg) 6 0)) rfl ?_
    try simp only [if_neg c1] at h
    exact xr_rt (v := some (.inr (some (4, ((μ 3 0 (((μ 2 0 1) : Int32).toNatClampNeg)) : Int32).toNatClampNeg)))) rfl h
-- BootNet$Station.sendDiscover()V
def cs_104 (i : Nat) (μ : tm_M) : tm_M := (tm_wr (cs_117 0 (μ 33 i 0) 0 (μ 33 i 6) 0 0 μ) 33 i 9 (((cs_117 0 (μ 33 i 0) 0 (μ 33 i 6) 0 0 μ) 1 0 3) + 3))
def ci_104 (i : Nat) (μ : tm_M) : Prop := (ci_117 0 (μ 33 i 0) 0 (μ 33 i 6) 0 0 μ)
set_option maxHeartbeats 4000000 in
set_option maxRecDepth 10000 in
theorem tf_104 {i : Nat} (hi : ci_104 i μ) (h : Q none (cs_104 i μ)) : xm_MW (tm_I L xs) (d + 2) 104 [.inr (some (33, i))] μ Q := by
  refine xr_in2 [some (.inr (some (33, i)))] rfl rfl ?_
  unfold cs_104 at h
  unfold ci_104 at hi
  refine xr_go 10 (pc' := 16) (ls' := [some (.inr (some (33, i)))]) (st' := [.inl 0, .inl 0, .inl (μ 33 i 6), .inl 0, .inl (μ 33 i 0), .inl 0, .inr (some (2, 0))]) (s' := μ) rfl ?_
  refine xr_cl (y' := 117) (as := [.inr (some (2, 0)), .inl 0, .inl (μ 33 i 0), .inl 0, .inl (μ 33 i 6), .inl 0, .inl 0]) (r := []) rfl rfl ?_
  refine tf_117 (d := d + 0) (μ := μ) (a1 := 0) (a2 := (μ 33 i 0)) (a3 := 0) (a4 := (μ 33 i 6)) (a5 := 0) (a6 := 0) (hi) ?_
  show xr_t (tm_I L xs) (d + 1) 104 19 [some (.inr (some (33, i)))] [.inr (some (4, (cv_117 0 (μ 33 i 0) 0 (μ 33 i 6) 0 0 μ)))] (cs_117 0 (μ 33 i 0) 0 (μ 33 i 6) 0 0 μ) Q
  generalize gv1 : (cv_117 0 (μ 33 i 0) 0 (μ 33 i 6) 0 0 μ) = v1 at h hi ⊢
  generalize gμ2 : (cs_117 0 (μ 33 i 0) 0 (μ 33 i 6) 0 0 μ) = μ2 at h hi ⊢
  refine xr_go 8 (pc' := 33) (ls' := [some (.inr (some (33, i)))]) (st' := []) (s' := (tm_wr μ2 33 i 9 ((μ2 1 0 3) + 3))) rfl ?_
  exact xr_rt (v := none) rfl h
-- BootNet$Station.select()V
def cs_103 (i : Nat) (μ : tm_M) : tm_M := (cs_62 i (cs_104 i (tm_wr (tm_wr (cs_34 (tm_wr (tm_wr μ 33 i 4 1) 33 i 5 0)) 33 i 6 (cv_34 (tm_wr (tm_wr μ 33 i 4 1) 33 i 5 0))) 33 i 10 1)))
def ci_103 (i : Nat) (μ : tm_M) : Prop := (ci_104 i (tm_wr (tm_wr (cs_34 (tm_wr (tm_wr μ 33 i 4 1) 33 i 5 0)) 33 i 6 (cv_34 (tm_wr (tm_wr μ 33 i 4 1) 33 i 5 0))) 33 i 10 1))
set_option maxHeartbeats 4000000 in
set_option maxRecDepth 10000 in
theorem tf_103 {i : Nat} (hi : ci_103 i μ) (h : Q none (cs_103 i μ)) : xm_MW (tm_I L xs) (d + 3) 103 [.inr (some (33, i))] μ Q := by
  refine xr_in2 [some (.inr (some (33, i)))] rfl rfl ?_
  unfold cs_103 at h
  unfold ci_103 at hi
  refine xr_go 9 (pc' := 15) (ls' := [some (.inr (some (33, i)))]) (st' := [.inr (some (1, 0)), .inr (some (33, i))]) (s' := (tm_wr (tm_wr μ 33 i 4 1) 33 i 5 0)) rfl ?_
  refine xr_cl (y' := 34) (as := [.inr (some (1, 0))]) (r := [.inr (some (33, i))]) rfl rfl ?_
  refine tf_34 (d := d + 1) (μ := (tm_wr (tm_wr μ 33 i 4 1) 33 i 5 0))  ?_
  show xr_t (tm_I L xs) (d + 2) 103 18 [some (.inr (some (33, i)))] [.inl (cv_34 (tm_wr (tm_wr μ 33 i 4 1) 33 i 5 0)), .inr (some (33, i))] (cs_34 (tm_wr (tm_wr μ 33 i 4 1) 33 i 5 0)) Q
  generalize gv1 : (cv_34 (tm_wr (tm_wr μ 33 i 4 1) 33 i 5 0)) = v1 at h hi ⊢
  generalize gμ2 : (cs_34 (tm_wr (tm_wr μ 33 i 4 1) 33 i 5 0)) = μ2 at h hi ⊢
  refine xr_go 5 (pc' := 27) (ls' := [some (.inr (some (33, i)))]) (st' := [.inr (some (33, i))]) (s' := (tm_wr (tm_wr μ2 33 i 6 v1) 33 i 10 1)) rfl ?_
  refine xr_cl (y' := 104) (as := [.inr (some (33, i))]) (r := []) rfl rfl ?_
  refine tf_104 (d := d + 0) (μ := (tm_wr (tm_wr μ2 33 i 6 v1) 33 i 10 1)) (i := i) (hi) ?_
  show xr_t (tm_I L xs) (d + 2) 103 30 [some (.inr (some (33, i)))] [] (cs_104 i (tm_wr (tm_wr μ2 33 i 6 v1) 33 i 10 1)) Q
  generalize gμ3 : (cs_104 i (tm_wr (tm_wr μ2 33 i 6 v1) 33 i 10 1)) = μ3 at h hi ⊢
  refine xr_go 2 (pc' := 34) (ls' := [some (.inr (some (33, i)))]) (st' := [.inr (some (34, i))]) (s' := μ3) rfl ?_
  refine xr_cl (y' := 62) (as := [.inr (some (34, i))]) (r := []) rfl rfl ?_
  refine tf_62 (d := d + 1) (μ := μ3) (i := i) ?_
  show xr_t (tm_I L xs) (d + 2) 103 37 [some (.inr (some (33, i)))] [] (cs_62 i μ3) Q
  generalize gμ4 : (cs_62 i μ3) = μ4 at h hi ⊢
  exact xr_rt (v := none) rfl h
-- BootNet$Station.restart()V
def cs_99 (i : Nat) (μ : tm_M) : tm_M := (cs_103 i (cs_60 i (tm_wr (tm_wr μ 33 i 8 0) 33 i 11 0)))
def ci_99 (i : Nat) (μ : tm_M) : Prop := (ci_103 i (cs_60 i (tm_wr (tm_wr μ 33 i 8 0) 33 i 11 0)))
set_option maxHeartbeats 4000000 in
set_option maxRecDepth 10000 in
theorem tf_99 {i : Nat} (hi : ci_99 i μ) (h : Q none (cs_99 i μ)) : xm_MW (tm_I L xs) (d + 4) 99 [.inr (some (33, i))] μ Q := by
  refine xr_in2 [some (.inr (some (33, i)))] rfl rfl ?_
  unfold cs_99 at h
  unfold ci_99 at hi
  refine xr_go 8 (pc' := 14) (ls' := [some (.inr (some (33, i)))]) (st' := [.inr (some (34, i))]) (s' := (tm_wr (tm_wr μ 33 i 8 0) 33 i 11 0)) rfl ?_
  refine xr_cl (y' := 60) (as := [.inr (some (34, i))]) (r := []) rfl rfl ?_
  refine tf_60 (d := d + 2) (μ := (tm_wr (tm_wr μ 33 i 8 0) 33 i 11 0)) (i := i) ?_
  show xr_t (tm_I L xs) (d + 3) 99 17 [some (.inr (some (33, i)))] [] (cs_60 i (tm_wr (tm_wr μ 33 i 8 0) 33 i 11 0)) Q
  generalize gμ1 : (cs_60 i (tm_wr (tm_wr μ 33 i 8 0) 33 i 11 0)) = μ1 at h hi ⊢
  refine xr_go 1 (pc' := 18) (ls' := [some (.inr (some (33, i)))]) (st' := [.inr (some (33, i))]) (s' := μ1) rfl ?_
  refine xr_cl (y' := 103) (as := [.inr (some (33, i))]) (r := []) rfl rfl ?_
  refine tf_103 (d := d + 0) (μ := μ1) (i := i) (hi) ?_
  show xr_t (tm_I L xs) (d + 3) 99 21 [some (.inr (some (33, i)))] [] (cs_103 i μ1) Q
  generalize gμ2 : (cs_103 i μ1) = μ2 at h hi ⊢
  exact xr_rt (v := none) rfl h
-- BootNet.boot(I)Z
def cv_8 (a1 : Int32) (μ : tm_M) : Int32 := (if (cv_38 a1 μ) = 0 then 0 else 1)
def cs_8 (a1 : Int32) (μ : tm_M) : tm_M := (if (cv_38 a1 μ) = 0 then μ else (cs_99 ((a1).toNatClampNeg) μ))
def ci_8 (a1 : Int32) (μ : tm_M) : Prop := ((¬ ((cv_38 a1 μ) = 0)) → tm_ix a1 6 = true) ∧ ((¬ ((cv_38 a1 μ) = 0)) → ci_99 ((a1).toNatClampNeg) μ)
theorem cz_8 {a1 : Int32} {μ : tm_M} : cv_8 a1 μ = 0 ∨ cv_8 a1 μ = 1 := by
  unfold cv_8
  (repeat' split) <;> first | exact Or.inl rfl | exact Or.inr rfl | exact cz_38
set_option maxHeartbeats 4000000 in
set_option maxRecDepth 10000 in
theorem tf_8 {a1 : Int32} (hi : ci_8 a1 μ) (h : Q (some (.inl (cv_8 a1 μ))) (cs_8 a1 μ)) : xm_MW (tm_I L xs) (d + 5) 8 [.inr (some (0, 0)), .inl a1] μ Q := by
  refine xr_in2 [some (.inr (some (0, 0))), some (.inl a1)] rfl rfl ?_
  unfold cv_8 cs_8 at h
  unfold ci_8 at hi
  refine xr_go 3 (pc' := 5) (ls' := [some (.inr (some (0, 0))), some (.inl a1)]) (st' := [.inl a1, .inr (some (6, 0))]) (s' := μ) rfl ?_
  refine xr_cl (y' := 38) (as := [.inr (some (6, 0)), .inl a1]) (r := []) rfl rfl ?_
  refine tf_38 (d := d + 3) (μ := μ) (a1 := a1) ?_
  show xr_t (tm_I L xs) (d + 4) 8 8 [some (.inr (some (0, 0))), some (.inl a1)] [.inl (cv_38 a1 μ)] μ Q
  have z1 : (cv_38 a1 μ) = 0 ∨ (cv_38 a1 μ) = 1 := cz_38
  generalize gv1 : (cv_38 a1 μ) = v1 at h hi z1 ⊢
  refine xr_br 1 (c := v1 = 0) inferInstance (a := 11) (b := 13) (ls' := [some (.inr (some (0, 0))), some (.inl a1)]) (st' := []) (s' := μ) rfl (fun c1 => ?_) (fun c1 => ?_)
  · skip
    refine xr_go 1 (pc' := 12) (ls' := [some (.inr (some (0, 0))), some (.inl a1)]) (st' := [.inl 0]) (s' := μ) rfl ?_
    try simp only [if_pos c1] at h
    exact xr_rt (v := some (.inl 0)) rfl h
  · skip
    refine xr_go 3 (pc' := 18) (ls' := [some (.inr (some (0, 0))), some (.inl a1)]) (st' := [.inl a1, .inr (some (32, 0))]) (s' := μ) rfl ?_
    refine xr_aal (n := 6) (w := (33, (a1).toNatClampNeg)) rfl rfl (hi.1 c1) rfl ?_
    refine xr_cl (y' := 99) (as := [.inr (some (33, (a1).toNatClampNeg))]) (r := []) rfl rfl ?_
    refine tf_99 (d := d + 0) (μ := μ) (i := ((a1).toNatClampNeg)) (hi.2 c1) ?_
    show xr_t (tm_I L xs) (d + 4) 8 22 [some (.inr (some (0, 0))), some (.inl a1)] [] (cs_99 ((a1).toNatClampNeg) μ) Q
    generalize gμ2 : (cs_99 ((a1).toNatClampNeg) μ) = μ2 at h hi ⊢
    refine xr_go 1 (pc' := 23) (ls' := [some (.inr (some (0, 0))), some (.inl a1)]) (st' := [.inl 1]) (s' := μ2) rfl ?_
    try simp only [if_neg c1] at h
    exact xr_rt (v := some (.inl 1)) rfl h
-- BootNet.answerProbe(LBootNet$Message;)V
def cs_19 (m1 : Nat) (μ : tm_M) : tm_M := (if (¬ ((cv_45 (μ 4 m1 3) μ) = 0)) ∨ (¬ ((cv_20 (μ 4 m1 3) (μ 4 m1 1) μ) = 0)) then (cs_117 7 (μ 4 m1 1) 0 0 (μ 4 m1 3) 0 μ) else μ)
def ci_19 (m1 : Nat) (μ : tm_M) : Prop := (ci_45 (μ 4 m1 3) μ) ∧ (((cv_45 (μ 4 m1 3) μ) = 0) → ci_20 (μ 4 m1 3) (μ 4 m1 1) μ) ∧ (((¬ ((cv_45 (μ 4 m1 3) μ) = 0)) ∨ (¬ ((cv_20 (μ 4 m1 3) (μ 4 m1 1) μ) = 0))) → ci_117 7 (μ 4 m1 1) 0 0 (μ 4 m1 3) 0 μ)
set_option maxHeartbeats 4000000 in
set_option maxRecDepth 10000 in
theorem tf_19 {m1 : Nat} (hi : ci_19 m1 μ) (h : Q none (cs_19 m1 μ)) : xm_MW (tm_I L xs) (d + 3) 19 [.inr (some (0, 0)), .inr (some (4, m1))] μ Q := by
  refine xr_in2 [some (.inr (some (0, 0))), some (.inr (some (4, m1)))] rfl rfl ?_
  unfold cs_19 at h
  unfold ci_19 at hi
  refine xr_go 4 (pc' := 8) (ls' := [some (.inr (some (0, 0))), some (.inr (some (4, m1)))]) (st' := [.inl (μ 4 m1 3), .inr (some (6, 0))]) (s' := μ) rfl ?_
  refine xr_cl (y' := 45) (as := [.inr (some (6, 0)), .inl (μ 4 m1 3)]) (r := []) rfl rfl ?_
  refine tf_45 (d := d + 0) (μ := μ) (a1 := (μ 4 m1 3)) (hi.1) ?_
  show xr_t (tm_I L xs) (d + 2) 19 11 [some (.inr (some (0, 0))), some (.inr (some (4, m1)))] [.inl (cv_45 (μ 4 m1 3) μ)] μ Q
  have z1 : (cv_45 (μ 4 m1 3) μ) = 0 ∨ (cv_45 (μ 4 m1 3) μ) = 1 := cz_45
  generalize gv1 : (cv_45 (μ 4 m1 3) μ) = v1 at h hi z1 ⊢
  suffices hE1 : (((¬ (v1 = 0)) ∨ (¬ ((cv_20 (μ 4 m1 3) (μ 4 m1 1) μ) = 0))) → xr_t (tm_I L xs) (d + 2) 19 29 [some (.inr (some (0, 0))), some (.inr (some (4, m1)))] [] μ Q) ∧ (¬ ((¬ (v1 = 0)) ∨ (¬ ((cv_20 (μ 4 m1 3) (μ 4 m1 1) μ) = 0))) → xr_t (tm_I L xs) (d + 2) 19 50 [some (.inr (some (0, 0))), some (.inr (some (4, m1)))] [] μ Q) by
    refine xr_br 1 (c := v1 = 0) inferInstance (a := 14) (b := 29) (ls' := [some (.inr (some (0, 0))), some (.inr (some (4, m1)))]) (st' := []) (s' := μ) rfl (fun c1 => ?_) (fun c1 => ?_)
    · skip
      refine xr_go 5 (pc' := 23) (ls' := [some (.inr (some (0, 0))), some (.inr (some (4, m1)))]) (st' := [.inl (μ 4 m1 1), .inl (μ 4 m1 3), .inr (some (0, 0))]) (s' := μ) rfl ?_
      refine xr_cl (y' := 20) (as := [.inr (some (0, 0)), .inl (μ 4 m1 3), .inl (μ 4 m1 1)]) (r := []) rfl rfl ?_
      refine tf_20 (d := d + 0) (μ := μ) (a1 := (μ 4 m1 3)) (a2 := (μ 4 m1 1)) (hi.2.1 c1) ?_
      show xr_t (tm_I L xs) (d + 2) 19 26 [some (.inr (some (0, 0))), some (.inr (some (4, m1)))] [.inl (cv_20 (μ 4 m1 3) (μ 4 m1 1) μ)] μ Q
      refine xr_br 1 (c := (cv_20 (μ 4 m1 3) (μ 4 m1 1) μ) = 0) inferInstance (a := 50) (b := 29) (ls' := [some (.inr (some (0, 0))), some (.inr (some (4, m1)))]) (st' := []) (s' := μ) rfl (fun c2 => ?_) (fun c2 => ?_)
      · skip
        exact hE1.2 (fun z => z.elim (fun w => w c1) (fun z => z c2))
      · skip
        exact hE1.1 (Or.inr c2)
    · skip
      exact hE1.1 (Or.inl c1)
  refine ⟨fun c3 => ?_, fun c3 => ?_⟩
  · skip
    refine xr_go 10 (pc' := 46) (ls' := [some (.inr (some (0, 0))), some (.inr (some (4, m1)))]) (st' := [.inl 0, .inl (μ 4 m1 3), .inl 0, .inl 0, .inl (μ 4 m1 1), .inl 7, .inr (some (2, 0))]) (s' := μ) rfl ?_
    refine xr_cl (y' := 117) (as := [.inr (some (2, 0)), .inl 7, .inl (μ 4 m1 1), .inl 0, .inl 0, .inl (μ 4 m1 3), .inl 0]) (r := []) rfl rfl ?_
    refine tf_117 (d := d + 1) (μ := μ) (a1 := 7) (a2 := (μ 4 m1 1)) (a3 := 0) (a4 := 0) (a5 := (μ 4 m1 3)) (a6 := 0) (hi.2.2 c3) ?_
    show xr_t (tm_I L xs) (d + 2) 19 49 [some (.inr (some (0, 0))), some (.inr (some (4, m1)))] [.inr (some (4, (cv_117 7 (μ 4 m1 1) 0 0 (μ 4 m1 3) 0 μ)))] (cs_117 7 (μ 4 m1 1) 0 0 (μ 4 m1 3) 0 μ) Q
    generalize gv2 : (cv_117 7 (μ 4 m1 1) 0 0 (μ 4 m1 3) 0 μ) = v2 at h hi ⊢
    generalize gμ3 : (cs_117 7 (μ 4 m1 1) 0 0 (μ 4 m1 3) 0 μ) = μ3 at h hi ⊢
    refine xr_go 1 (pc' := 50) (ls' := [some (.inr (some (0, 0))), some (.inr (some (4, m1)))]) (st' := []) (s' := μ3) rfl ?_
    try simp only [if_pos c3] at h
    exact xr_rt (v := none) rfl h
  · skip
    try simp only [if_neg c3] at h
    exact xr_rt (v := none) rfl h
end TF
