/-! Methods of the reference as functions. Written by prog/gen_tf.py. -/
section TF
variable {L : Nat} {xs : Nat → Int32} {d : Nat} {μ : tm_M} {Q : Option (xm_V tm_R) → tm_M → Prop}
-- BootNetModel.isStation(I)Z
def cv_122 (a1 : Int32) (μ : tm_M) : Int32 := ((if a1 < 0 then 0 else ((if (μ 36 0 38) ≤ a1 then 0 else 1) : Int32)) : Int32)
theorem cz_122 {a1 : Int32} {μ : tm_M} : cv_122 a1 μ = 0 ∨ cv_122 a1 μ = 1 := by
  unfold cv_122
  (repeat' split) <;> first | exact Or.inl rfl | exact Or.inr rfl
set_option maxHeartbeats 4000000 in
set_option maxRecDepth 10000 in
theorem tf_122 {a1 : Int32} (h : Q (some (.inl (cv_122 a1 μ))) μ) : xm_MW (tm_I L xs) (d + 1) 122 [.inr (some (36, 0)), .inl a1] μ Q := by
  refine xr_in2 [some (.inr (some (36, 0))), some (.inl a1)] rfl rfl ?_
  unfold cv_122 at h
  suffices hj1 : xr_t (tm_I L xs) (d + 0) 122 17 [some (.inr (some (36, 0))), some (.inl a1)] [.inl ((if a1 < 0 then 0 else ((if (μ 36 0 38) ≤ a1 then 0 else 1) : Int32)) : Int32)] μ Q by
    refine xr_br 2 (c := a1 < 0) inferInstance (a := 16) (b := 4) (ls' := [some (.inr (some (36, 0))), some (.inl a1)]) (st' := []) (s' := μ) rfl (fun c1 => ?_) (fun c1 => ?_)
    · skip
      refine xr_go 1 (pc' := 17) (ls' := [some (.inr (some (36, 0))), some (.inl a1)]) (st' := [.inl 0]) (s' := μ) rfl ?_
      have ehj1 : ((if a1 < 0 then 0 else ((if (μ 36 0 38) ≤ a1 then 0 else 1) : Int32)) : Int32) = 0 := by first | rfl | simp only [if_pos c1]
      rw [ehj1] at hj1
      exact hj1
    · skip
      suffices hj2 : xr_t (tm_I L xs) (d + 0) 122 17 [some (.inr (some (36, 0))), some (.inl a1)] [.inl ((if (μ 36 0 38) ≤ a1 then 0 else 1) : Int32)] μ Q by
        refine xr_br 4 (c := (μ 36 0 38) ≤ a1) inferInstance (a := 16) (b := 12) (ls' := [some (.inr (some (36, 0))), some (.inl a1)]) (st' := []) (s' := μ) rfl (fun c2 => ?_) (fun c2 => ?_)
        · skip
          refine xr_go 1 (pc' := 17) (ls' := [some (.inr (some (36, 0))), some (.inl a1)]) (st' := [.inl 0]) (s' := μ) rfl ?_
          have ehj2 : ((if (μ 36 0 38) ≤ a1 then 0 else 1) : Int32) = 0 := by first | rfl | simp only [if_pos c2]
          rw [ehj2] at hj2
          exact hj2
        · skip
          refine xr_go 2 (pc' := 17) (ls' := [some (.inr (some (36, 0))), some (.inl a1)]) (st' := [.inl 1]) (s' := μ) rfl ?_
          have ehj2 : ((if (μ 36 0 38) ≤ a1 then 0 else 1) : Int32) = 1 := by first | rfl | simp only [if_neg c2]
          rw [ehj2] at hj2
          exact hj2
      have ehj1 : ((if a1 < 0 then 0 else ((if (μ 36 0 38) ≤ a1 then 0 else 1) : Int32)) : Int32) = ((if (μ 36 0 38) ≤ a1 then 0 else 1) : Int32) := by first | rfl | simp only [if_neg c1]
      rw [ehj1] at hj1
      exact hj1
  exact xr_zr rfl (fun _ => (by (repeat' split) <;> first | exact Or.inl rfl | exact Or.inr rfl)) h
-- BootNetModel.isAddress(I)Z
def cv_123 (a1 : Int32) (μ : tm_M) : Int32 := ((if a1 < 1 then 0 else ((if (29 : Int32) < a1 then 0 else ((if (a1 - ((a1 / 10) * 10)) = 0 then 0 else 1) : Int32)) : Int32)) : Int32)
theorem cz_123 {a1 : Int32} {μ : tm_M} : cv_123 a1 μ = 0 ∨ cv_123 a1 μ = 1 := by
  unfold cv_123
  (repeat' split) <;> first | exact Or.inl rfl | exact Or.inr rfl
set_option maxHeartbeats 4000000 in
set_option maxRecDepth 10000 in
theorem tf_123 {a1 : Int32} (h : Q (some (.inl (cv_123 a1 μ))) μ) : xm_MW (tm_I L xs) (d + 1) 123 [.inl a1] μ Q := by
  refine xr_in2 [some (.inl a1)] rfl rfl ?_
  unfold cv_123 at h
  suffices hj1 : xr_t (tm_I L xs) (d + 0) 123 23 [some (.inl a1)] [.inl ((if a1 < 1 then 0 else ((if (29 : Int32) < a1 then 0 else ((if (a1 - ((a1 / 10) * 10)) = 0 then 0 else 1) : Int32)) : Int32)) : Int32)] μ Q by
    refine xr_br 3 (c := a1 < 1) inferInstance (a := 22) (b := 5) (ls' := [some (.inl a1)]) (st' := []) (s' := μ) rfl (fun c1 => ?_) (fun c1 => ?_)
    · skip
      refine xr_go 1 (pc' := 23) (ls' := [some (.inl a1)]) (st' := [.inl 0]) (s' := μ) rfl ?_
      have ehj1 : ((if a1 < 1 then 0 else ((if (29 : Int32) < a1 then 0 else ((if (a1 - ((a1 / 10) * 10)) = 0 then 0 else 1) : Int32)) : Int32)) : Int32) = 0 := by first | rfl | simp only [if_pos c1]
      rw [ehj1] at hj1
      exact hj1
    · skip
      suffices hj2 : xr_t (tm_I L xs) (d + 0) 123 23 [some (.inl a1)] [.inl ((if (29 : Int32) < a1 then 0 else ((if (a1 - ((a1 / 10) * 10)) = 0 then 0 else 1) : Int32)) : Int32)] μ Q by
        refine xr_br 3 (c := (29 : Int32) < a1) inferInstance (a := 22) (b := 11) (ls' := [some (.inl a1)]) (st' := []) (s' := μ) rfl (fun c2 => ?_) (fun c2 => ?_)
        · skip
          refine xr_go 1 (pc' := 23) (ls' := [some (.inl a1)]) (st' := [.inl 0]) (s' := μ) rfl ?_
          have ehj2 : ((if (29 : Int32) < a1 then 0 else ((if (a1 - ((a1 / 10) * 10)) = 0 then 0 else 1) : Int32)) : Int32) = 0 := by first | rfl | simp only [if_pos c2]
          rw [ehj2] at hj2
          exact hj2
        · skip
          suffices hj3 : xr_t (tm_I L xs) (d + 0) 123 23 [some (.inl a1)] [.inl ((if (a1 - ((a1 / 10) * 10)) = 0 then 0 else 1) : Int32)] μ Q by
            refine xr_br 4 (c := (a1 - ((a1 / 10) * 10)) = 0) inferInstance (a := 22) (b := 18) (ls' := [some (.inl a1)]) (st' := []) (s' := μ) rfl (fun c3 => ?_) (fun c3 => ?_)
            · skip
              refine xr_go 1 (pc' := 23) (ls' := [some (.inl a1)]) (st' := [.inl 0]) (s' := μ) rfl ?_
              have ehj3 : ((if (a1 - ((a1 / 10) * 10)) = 0 then 0 else 1) : Int32) = 0 := by first | rfl | simp only [if_pos c3]
              rw [ehj3] at hj3
              exact hj3
            · skip
              refine xr_go 2 (pc' := 23) (ls' := [some (.inl a1)]) (st' := [.inl 1]) (s' := μ) rfl ?_
              have ehj3 : ((if (a1 - ((a1 / 10) * 10)) = 0 then 0 else 1) : Int32) = 1 := by first | rfl | simp only [if_neg c3]
              rw [ehj3] at hj3
              exact hj3
          have ehj2 : ((if (29 : Int32) < a1 then 0 else ((if (a1 - ((a1 / 10) * 10)) = 0 then 0 else 1) : Int32)) : Int32) = ((if (a1 - ((a1 / 10) * 10)) = 0 then 0 else 1) : Int32) := by first | rfl | simp only [if_neg c2]
          rw [ehj2] at hj2
          exact hj2
      have ehj1 : ((if a1 < 1 then 0 else ((if (29 : Int32) < a1 then 0 else ((if (a1 - ((a1 / 10) * 10)) = 0 then 0 else 1) : Int32)) : Int32)) : Int32) = ((if (29 : Int32) < a1 then 0 else ((if (a1 - ((a1 / 10) * 10)) = 0 then 0 else 1) : Int32)) : Int32) := by first | rfl | simp only [if_neg c1]
      rw [ehj1] at hj1
      exact hj1
  exact xr_zr rfl (fun _ => (by (repeat' split) <;> first | exact Or.inl rfl | exact Or.inr rfl)) h
-- BootNetModel.isFile(I)Z
def cv_124 (a1 : Int32) (μ : tm_M) : Int32 := ((if a1 < 0 then 0 else ((if (3 : Int32) < a1 then 0 else 1) : Int32)) : Int32)
theorem cz_124 {a1 : Int32} {μ : tm_M} : cv_124 a1 μ = 0 ∨ cv_124 a1 μ = 1 := by
  unfold cv_124
  (repeat' split) <;> first | exact Or.inl rfl | exact Or.inr rfl
set_option maxHeartbeats 4000000 in
set_option maxRecDepth 10000 in
theorem tf_124 {a1 : Int32} (h : Q (some (.inl (cv_124 a1 μ))) μ) : xm_MW (tm_I L xs) (d + 1) 124 [.inl a1] μ Q := by
  refine xr_in2 [some (.inl a1)] rfl rfl ?_
  unfold cv_124 at h
  suffices hj1 : xr_t (tm_I L xs) (d + 0) 124 14 [some (.inl a1)] [.inl ((if a1 < 0 then 0 else ((if (3 : Int32) < a1 then 0 else 1) : Int32)) : Int32)] μ Q by
    refine xr_br 2 (c := a1 < 0) inferInstance (a := 13) (b := 4) (ls' := [some (.inl a1)]) (st' := []) (s' := μ) rfl (fun c1 => ?_) (fun c1 => ?_)
    · skip
      refine xr_go 1 (pc' := 14) (ls' := [some (.inl a1)]) (st' := [.inl 0]) (s' := μ) rfl ?_
      have ehj1 : ((if a1 < 0 then 0 else ((if (3 : Int32) < a1 then 0 else 1) : Int32)) : Int32) = 0 := by first | rfl | simp only [if_pos c1]
      rw [ehj1] at hj1
      exact hj1
    · skip
      suffices hj2 : xr_t (tm_I L xs) (d + 0) 124 14 [some (.inl a1)] [.inl ((if (3 : Int32) < a1 then 0 else 1) : Int32)] μ Q by
        refine xr_br 3 (c := (3 : Int32) < a1) inferInstance (a := 13) (b := 9) (ls' := [some (.inl a1)]) (st' := []) (s' := μ) rfl (fun c2 => ?_) (fun c2 => ?_)
        · skip
          refine xr_go 1 (pc' := 14) (ls' := [some (.inl a1)]) (st' := [.inl 0]) (s' := μ) rfl ?_
          have ehj2 : ((if (3 : Int32) < a1 then 0 else 1) : Int32) = 0 := by first | rfl | simp only [if_pos c2]
          rw [ehj2] at hj2
          exact hj2
        · skip
          refine xr_go 2 (pc' := 14) (ls' := [some (.inl a1)]) (st' := [.inl 1]) (s' := μ) rfl ?_
          have ehj2 : ((if (3 : Int32) < a1 then 0 else 1) : Int32) = 1 := by first | rfl | simp only [if_neg c2]
          rw [ehj2] at hj2
          exact hj2
      have ehj1 : ((if a1 < 0 then 0 else ((if (3 : Int32) < a1 then 0 else 1) : Int32)) : Int32) = ((if (3 : Int32) < a1 then 0 else 1) : Int32) := by first | rfl | simp only [if_neg c1]
      rw [ehj1] at hj1
      exact hj1
  exact xr_zr rfl (fun _ => (by (repeat' split) <;> first | exact Or.inl rfl | exact Or.inr rfl)) h
-- BootNetModel.pool(III)Z
def cv_125 (a1 : Int32) (a2 : Int32) (a3 : Int32) (μ : tm_M) : Int32 := (if (a1 < 0) ∨ (((2 : Int32) < a1) ∨ (((0 : Int32) < (μ 37 0 ((a1).toNatClampNeg))) ∨ ((a2 < 1) ∨ ((a3 < a2) ∨ (¬ (a3 ≤ 9)))))) then 0 else 1)
def cs_125 (a1 : Int32) (a2 : Int32) (a3 : Int32) (μ : tm_M) : tm_M := (if (a1 < 0) ∨ (((2 : Int32) < a1) ∨ (((0 : Int32) < (μ 37 0 ((a1).toNatClampNeg))) ∨ ((a2 < 1) ∨ ((a3 < a2) ∨ (¬ (a3 ≤ 9)))))) then μ else (tm_wr (tm_wr μ 37 0 ((a1).toNatClampNeg) a2) 38 0 ((a1).toNatClampNeg) a3))
def ci_125 (a1 : Int32) (a2 : Int32) (a3 : Int32) (μ : tm_M) : Prop := ((¬ (a1 < 0)) → (¬ ((2 : Int32) < a1)) → tm_ix a1 3 = true) ∧ ((¬ ((a1 < 0) ∨ (((2 : Int32) < a1) ∨ (((0 : Int32) < (μ 37 0 ((a1).toNatClampNeg))) ∨ ((a2 < 1) ∨ ((a3 < a2) ∨ (¬ (a3 ≤ 9)))))))) → tm_ix a1 3 = true)
theorem cz_125 {a1 : Int32} {a2 : Int32} {a3 : Int32} {μ : tm_M} : cv_125 a1 a2 a3 μ = 0 ∨ cv_125 a1 a2 a3 μ = 1 := by
  unfold cv_125
  (repeat' split) <;> first | exact Or.inl rfl | exact Or.inr rfl
set_option maxHeartbeats 4000000 in
set_option maxRecDepth 10000 in
theorem tf_125 {a1 : Int32} {a2 : Int32} {a3 : Int32} (hi : ci_125 a1 a2 a3 μ) (h : Q (some (.inl (cv_125 a1 a2 a3 μ))) (cs_125 a1 a2 a3 μ)) : xm_MW (tm_I L xs) (d + 1) 125 [.inr (some (36, 0)), .inl a1, .inl a2, .inl a3] μ Q := by
  refine xr_in2 [some (.inr (some (36, 0))), some (.inl a1), some (.inl a2), some (.inl a3)] rfl rfl ?_
  unfold cv_125 cs_125 at h
  unfold ci_125 at hi
  suffices hE1 : (((a1 < 0) ∨ (((2 : Int32) < a1) ∨ (((0 : Int32) < (μ 37 0 ((a1).toNatClampNeg))) ∨ ((a2 < 1) ∨ ((a3 < a2) ∨ (¬ (a3 ≤ 9))))))) → xr_t (tm_I L xs) (d + 0) 125 34 [some (.inr (some (36, 0))), some (.inl a1), some (.inl a2), some (.inl a3)] [] μ Q) ∧ (¬ ((a1 < 0) ∨ (((2 : Int32) < a1) ∨ (((0 : Int32) < (μ 37 0 ((a1).toNatClampNeg))) ∨ ((a2 < 1) ∨ ((a3 < a2) ∨ (¬ (a3 ≤ 9))))))) → xr_t (tm_I L xs) (d + 0) 125 36 [some (.inr (some (36, 0))), some (.inl a1), some (.inl a2), some (.inl a3)] [] μ Q) by
    refine xr_br 2 (c := a1 < 0) inferInstance (a := 34) (b := 4) (ls' := [some (.inr (some (36, 0))), some (.inl a1), some (.inl a2), some (.inl a3)]) (st' := []) (s' := μ) rfl (fun c1 => ?_) (fun c1 => ?_)
    · skip
      exact hE1.1 (Or.inl c1)
    · skip
      refine xr_br 3 (c := (2 : Int32) < a1) inferInstance (a := 34) (b := 9) (ls' := [some (.inr (some (36, 0))), some (.inl a1), some (.inl a2), some (.inl a3)]) (st' := []) (s' := μ) rfl (fun c2 => ?_) (fun c2 => ?_)
      · skip
        exact hE1.1 (Or.inr (Or.inl c2))
      · skip
        refine xr_go 3 (pc' := 14) (ls' := [some (.inr (some (36, 0))), some (.inl a1), some (.inl a2), some (.inl a3)]) (st' := [.inl a1, .inr (some (37, 0))]) (s' := μ) rfl ?_
        refine xr_ial (n := 3) rfl rfl (hi.1 c1 c2) ?_
        refine xr_br 1 (c := (0 : Int32) < (μ 37 0 ((a1).toNatClampNeg))) inferInstance (a := 34) (b := 18) (ls' := [some (.inr (some (36, 0))), some (.inl a1), some (.inl a2), some (.inl a3)]) (st' := []) (s' := μ) rfl (fun c3 => ?_) (fun c3 => ?_)
        · skip
          exact hE1.1 (Or.inr (Or.inr (Or.inl c3)))
        · skip
          refine xr_br 3 (c := a2 < 1) inferInstance (a := 34) (b := 23) (ls' := [some (.inr (some (36, 0))), some (.inl a1), some (.inl a2), some (.inl a3)]) (st' := []) (s' := μ) rfl (fun c4 => ?_) (fun c4 => ?_)
          · skip
            exact hE1.1 (Or.inr (Or.inr (Or.inr (Or.inl c4))))
          · skip
            refine xr_br 3 (c := a3 < a2) inferInstance (a := 34) (b := 28) (ls' := [some (.inr (some (36, 0))), some (.inl a1), some (.inl a2), some (.inl a3)]) (st' := []) (s' := μ) rfl (fun c5 => ?_) (fun c5 => ?_)
            · skip
              exact hE1.1 (Or.inr (Or.inr (Or.inr (Or.inr (Or.inl c5)))))
            · skip
              refine xr_br 3 (c := a3 ≤ 9) inferInstance (a := 36) (b := 34) (ls' := [some (.inr (some (36, 0))), some (.inl a1), some (.inl a2), some (.inl a3)]) (st' := []) (s' := μ) rfl (fun c6 => ?_) (fun c6 => ?_)
              · skip
                exact hE1.2 (fun z => z.elim c1 (fun z => z.elim c2 (fun z => z.elim c3 (fun z => z.elim c4 (fun z => z.elim c5 (fun z => z c6))))))
              · skip
                exact hE1.1 (Or.inr (Or.inr (Or.inr (Or.inr (Or.inr c6)))))
  refine ⟨fun c7 => ?_, fun c7 => ?_⟩
  · skip
    refine xr_go 1 (pc' := 35) (ls' := [some (.inr (some (36, 0))), some (.inl a1), some (.inl a2), some (.inl a3)]) (st' := [.inl 0]) (s' := μ) rfl ?_
    try simp only [if_pos c7] at h
    exact xr_rt (v := some (.inl 0)) rfl h
  · skip
    refine xr_go 4 (pc' := 42) (ls' := [some (.inr (some (36, 0))), some (.inl a1), some (.inl a2), some (.inl a3)]) (st' := [.inl a2, .inl a1, .inr (some (37, 0))]) (s' := μ) rfl ?_
    refine xr_ias (n := 3) rfl rfl (hi.2 c7) ?_
    refine xr_go 4 (pc' := 49) (ls' := [some (.inr (some (36, 0))), some (.inl a1), some (.inl a2), some (.inl a3)]) (st' := [.inl a3, .inl a1, .inr (some (38, 0))]) (s' := (tm_wr μ 37 0 ((a1).toNatClampNeg) a2)) rfl ?_
    refine xr_ias (n := 3) rfl rfl (hi.2 c7) ?_
    refine xr_go 1 (pc' := 51) (ls' := [some (.inr (some (36, 0))), some (.inl a1), some (.inl a2), some (.inl a3)]) (st' := [.inl 1]) (s' := (tm_wr (tm_wr μ 37 0 ((a1).toNatClampNeg) a2) 38 0 ((a1).toNatClampNeg) a3)) rfl ?_
    try simp only [if_neg c7] at h
    exact xr_rt (v := some (.inl 1)) rfl h
-- BootNetModel.attach(I)I
def cv_126 (a1 : Int32) (μ : tm_M) : Int32 := (if (a1 < 0) ∨ (((2 : Int32) < a1) ∨ ((μ 36 0 38) = 6)) then (-1) else (((μ 36 0 38) + 1) - 1))
def cs_126 (a1 : Int32) (μ : tm_M) : tm_M := (if (a1 < 0) ∨ (((2 : Int32) < a1) ∨ ((μ 36 0 38) = 6)) then μ else (tm_wr (tm_wr μ 67 0 (((μ 36 0 38) : Int32).toNatClampNeg) a1) 36 0 38 ((μ 36 0 38) + 1)))
def ci_126 (a1 : Int32) (μ : tm_M) : Prop := ((¬ ((a1 < 0) ∨ (((2 : Int32) < a1) ∨ ((μ 36 0 38) = 6)))) → tm_ix (μ 36 0 38) 6 = true)
set_option maxHeartbeats 4000000 in
set_option maxRecDepth 10000 in
theorem tf_126 {a1 : Int32} (hi : ci_126 a1 μ) (h : Q (some (.inl (cv_126 a1 μ))) (cs_126 a1 μ)) : xm_MW (tm_I L xs) (d + 1) 126 [.inr (some (36, 0)), .inl a1] μ Q := by
  refine xr_in2 [some (.inr (some (36, 0))), some (.inl a1)] rfl rfl ?_
  unfold cv_126 cs_126 at h
  unfold ci_126 at hi
  suffices hE1 : (((a1 < 0) ∨ (((2 : Int32) < a1) ∨ ((μ 36 0 38) = 6))) → xr_t (tm_I L xs) (d + 0) 126 18 [some (.inr (some (36, 0))), some (.inl a1)] [] μ Q) ∧ (¬ ((a1 < 0) ∨ (((2 : Int32) < a1) ∨ ((μ 36 0 38) = 6))) → xr_t (tm_I L xs) (d + 0) 126 20 [some (.inr (some (36, 0))), some (.inl a1)] [] μ Q) by
    refine xr_br 2 (c := a1 < 0) inferInstance (a := 18) (b := 4) (ls' := [some (.inr (some (36, 0))), some (.inl a1)]) (st' := []) (s' := μ) rfl (fun c1 => ?_) (fun c1 => ?_)
    · skip
      exact hE1.1 (Or.inl c1)
    · skip
      refine xr_br 3 (c := (2 : Int32) < a1) inferInstance (a := 18) (b := 9) (ls' := [some (.inr (some (36, 0))), some (.inl a1)]) (st' := []) (s' := μ) rfl (fun c2 => ?_) (fun c2 => ?_)
      · skip
        exact hE1.1 (Or.inr (Or.inl c2))
      · skip
        refine xr_br 4 (c := (μ 36 0 38) = 6) inferInstance (a := 18) (b := 20) (ls' := [some (.inr (some (36, 0))), some (.inl a1)]) (st' := []) (s' := μ) rfl (fun c3 => ?_) (fun c3 => ?_)
        · skip
          exact hE1.1 (Or.inr (Or.inr c3))
        · skip
          exact hE1.2 (fun z => z.elim c1 (fun z => z.elim c2 c3))
  refine ⟨fun c4 => ?_, fun c4 => ?_⟩
  · skip
    refine xr_go 1 (pc' := 19) (ls' := [some (.inr (some (36, 0))), some (.inl a1)]) (st' := [.inl (-1)]) (s' := μ) rfl ?_
    try simp only [if_pos c4] at h
    exact xr_rt (v := some (.inl (-1))) rfl h
  · skip
    refine xr_go 5 (pc' := 29) (ls' := [some (.inr (some (36, 0))), some (.inl a1)]) (st' := [.inl a1, .inl (μ 36 0 38), .inr (some (67, 0))]) (s' := μ) rfl ?_
    refine xr_ias (n := 6) rfl rfl (hi c4) ?_
    refine xr_go 10 (pc' := 46) (ls' := [some (.inr (some (36, 0))), some (.inl a1)]) (st' := [.inl (((μ 36 0 38) + 1) - 1)]) (s' := (tm_wr (tm_wr μ 67 0 (((μ 36 0 38) : Int32).toNatClampNeg) a1) 36 0 38 ((μ 36 0 38) + 1))) rfl ?_
    try simp only [if_neg c4] at h
    exact xr_rt (v := some (.inl (((μ 36 0 38) + 1) - 1))) rfl h
-- BootNetModel.reserve(II)Z
def cv_127_59 (a1 : Int32) (a2 : Int32) : Nat → Int32 → Int32 → tm_M → Int32
  | 0, _, _, _ => 0
  | n + 1, l3, l4, μ => (if (30 : Int32) ≤ l4 then 1 else (cv_127_59 a1 a2 n l3 (l4 + 1) (tm_wr μ 39 0 ((l4).toNatClampNeg) ((if (μ 39 0 ((l4).toNatClampNeg)) = (a1 + 1) then 0 else (μ 39 0 ((l4).toNatClampNeg))) : Int32))))
def cs_127_59 (a1 : Int32) (a2 : Int32) : Nat → Int32 → Int32 → tm_M → tm_M
  | 0, _, _, μ => μ
  | n + 1, l3, l4, μ => (if (30 : Int32) ≤ l4 then (tm_wr μ 39 0 ((l3).toNatClampNeg) (a1 + 1)) else (cs_127_59 a1 a2 n l3 (l4 + 1) (tm_wr μ 39 0 ((l4).toNatClampNeg) ((if (μ 39 0 ((l4).toNatClampNeg)) = (a1 + 1) then 0 else (μ 39 0 ((l4).toNatClampNeg))) : Int32))))
def ci_127_59 (a1 : Int32) (a2 : Int32) : Nat → Int32 → Int32 → tm_M → Prop
  | 0, _, _, _ => False
  | n + 1, l3, l4, μ => (((30 : Int32) ≤ l4) → tm_ix l3 30 = true) ∧ ((¬ ((30 : Int32) ≤ l4)) → tm_ix l4 30 = true) ∧ ((¬ ((30 : Int32) ≤ l4)) → ci_127_59 a1 a2 n l3 (l4 + 1) (tm_wr μ 39 0 ((l4).toNatClampNeg) ((if (μ 39 0 ((l4).toNatClampNeg)) = (a1 + 1) then 0 else (μ 39 0 ((l4).toNatClampNeg))) : Int32)))
set_option maxHeartbeats 4000000 in
set_option maxRecDepth 10000 in
theorem tl_127_59 {a1 : Int32} {a2 : Int32} : ∀ (n : Nat) (l3 : Int32) (l4 : Int32) (μ : tm_M), ci_127_59 a1 a2 n l3 l4 μ → Q (some (.inl (cv_127_59 a1 a2 n l3 l4 μ))) (cs_127_59 a1 a2 n l3 l4 μ) → xr_t (tm_I L xs) (d + 1) 127 59 [some (.inr (some (36, 0))), some (.inl a1), some (.inl a2), some (.inl l3), some (.inl l4)] [] μ Q := by
  intro n
  induction n with
  | zero => intro l3 l4 μ hi; exact hi.elim
  | succ n ih =>
    intro l3 l4 μ hi h
    unfold ci_127_59 at hi
    simp only [cv_127_59, cs_127_59] at h
    refine xr_br 3 (c := (30 : Int32) ≤ l4) inferInstance (a := 103) (b := 66) (ls' := [some (.inr (some (36, 0))), some (.inl a1), some (.inl a2), some (.inl l3), some (.inl l4)]) (st' := []) (s' := μ) rfl (fun c1 => ?_) (fun c1 => ?_)
    · skip
      refine xr_go 6 (pc' := 111) (ls' := [some (.inr (some (36, 0))), some (.inl a1), some (.inl a2), some (.inl l3), some (.inl l4)]) (st' := [.inl (a1 + 1), .inl l3, .inr (some (39, 0))]) (s' := μ) rfl ?_
      refine xr_ias (n := 30) rfl rfl (hi.1 c1) ?_
      refine xr_go 1 (pc' := 113) (ls' := [some (.inr (some (36, 0))), some (.inl a1), some (.inl a2), some (.inl l3), some (.inl l4)]) (st' := [.inl 1]) (s' := (tm_wr μ 39 0 ((l3).toNatClampNeg) (a1 + 1))) rfl ?_
      try simp only [if_pos c1] at h
      exact xr_rt (v := some (.inl 1)) rfl h
    · skip
      refine xr_go 6 (pc' := 78) (ls' := [some (.inr (some (36, 0))), some (.inl a1), some (.inl a2), some (.inl l3), some (.inl l4)]) (st' := [.inl l4, .inr (some (39, 0)), .inl l4, .inr (some (39, 0))]) (s' := μ) rfl ?_
      refine xr_ial (n := 30) rfl rfl (hi.2.1 c1) ?_
      suffices hj2 : xr_t (tm_I L xs) (d + 1) 127 96 [some (.inr (some (36, 0))), some (.inl a1), some (.inl a2), some (.inl l3), some (.inl l4)] [.inl ((if (μ 39 0 ((l4).toNatClampNeg)) = (a1 + 1) then 0 else (μ 39 0 ((l4).toNatClampNeg))) : Int32), .inl l4, .inr (some (39, 0))] μ Q by
        refine xr_br 4 (c := (μ 39 0 ((l4).toNatClampNeg)) = (a1 + 1)) inferInstance (a := 85) (b := 89) (ls' := [some (.inr (some (36, 0))), some (.inl a1), some (.inl a2), some (.inl l3), some (.inl l4)]) (st' := [.inl l4, .inr (some (39, 0))]) (s' := μ) rfl (fun c2 => ?_) (fun c2 => ?_)
        · skip
          refine xr_go 2 (pc' := 96) (ls' := [some (.inr (some (36, 0))), some (.inl a1), some (.inl a2), some (.inl l3), some (.inl l4)]) (st' := [.inl 0, .inl l4, .inr (some (39, 0))]) (s' := μ) rfl ?_
          have ehj2 : ((if (μ 39 0 ((l4).toNatClampNeg)) = (a1 + 1) then 0 else (μ 39 0 ((l4).toNatClampNeg))) : Int32) = 0 := by first | rfl | simp only [if_pos c2]
          rw [ehj2] at hj2
          exact hj2
        · skip
          refine xr_go 3 (pc' := 95) (ls' := [some (.inr (some (36, 0))), some (.inl a1), some (.inl a2), some (.inl l3), some (.inl l4)]) (st' := [.inl l4, .inr (some (39, 0)), .inl l4, .inr (some (39, 0))]) (s' := μ) rfl ?_
          refine xr_ial (n := 30) rfl rfl (hi.2.1 c1) ?_
          have ehj2 : ((if (μ 39 0 ((l4).toNatClampNeg)) = (a1 + 1) then 0 else (μ 39 0 ((l4).toNatClampNeg))) : Int32) = (μ 39 0 ((l4).toNatClampNeg)) := by first | rfl | simp only [if_neg c2]
          rw [ehj2] at hj2
          exact hj2
      refine xr_ias (n := 30) rfl rfl (hi.2.1 c1) ?_
      refine xr_go 2 (pc' := 59) (ls' := [some (.inr (some (36, 0))), some (.inl a1), some (.inl a2), some (.inl l3), some (.inl (l4 + 1))]) (st' := []) (s' := (tm_wr μ 39 0 ((l4).toNatClampNeg) ((if (μ 39 0 ((l4).toNatClampNeg)) = (a1 + 1) then 0 else (μ 39 0 ((l4).toNatClampNeg))) : Int32))) rfl ?_
      try simp only [if_neg c1] at h
      exact ih l3 (l4 + 1) (tm_wr μ 39 0 ((l4).toNatClampNeg) ((if (μ 39 0 ((l4).toNatClampNeg)) = (a1 + 1) then 0 else (μ 39 0 ((l4).toNatClampNeg))) : Int32)) (hi.2.2 c1) h
def cv_127 (a1 : Int32) (a2 : Int32) (μ : tm_M) : Int32 := (if ((cv_122 a1 μ) = 0) ∨ ((a2 < 1) ∨ (¬ (a2 ≤ 9))) then 0 else (if ((μ 39 0 ((((10 * (μ 67 0 ((a1).toNatClampNeg))) + a2) : Int32).toNatClampNeg)) = 0) ∨ ((μ 39 0 ((((10 * (μ 67 0 ((a1).toNatClampNeg))) + a2) : Int32).toNatClampNeg)) = (a1 + 1)) then (cv_127_59 a1 a2 64 ((10 * (μ 67 0 ((a1).toNatClampNeg))) + a2) 0 μ) else 0))
def cs_127 (a1 : Int32) (a2 : Int32) (μ : tm_M) : tm_M := (if ((cv_122 a1 μ) = 0) ∨ ((a2 < 1) ∨ (¬ (a2 ≤ 9))) then μ else (if ((μ 39 0 ((((10 * (μ 67 0 ((a1).toNatClampNeg))) + a2) : Int32).toNatClampNeg)) = 0) ∨ ((μ 39 0 ((((10 * (μ 67 0 ((a1).toNatClampNeg))) + a2) : Int32).toNatClampNeg)) = (a1 + 1)) then (cs_127_59 a1 a2 64 ((10 * (μ 67 0 ((a1).toNatClampNeg))) + a2) 0 μ) else μ))
def ci_127 (a1 : Int32) (a2 : Int32) (μ : tm_M) : Prop := ((¬ (((cv_122 a1 μ) = 0) ∨ ((a2 < 1) ∨ (¬ (a2 ≤ 9))))) → tm_ix a1 6 = true) ∧ ((¬ (((cv_122 a1 μ) = 0) ∨ ((a2 < 1) ∨ (¬ (a2 ≤ 9))))) → tm_ix ((10 * (μ 67 0 ((a1).toNatClampNeg))) + a2) 30 = true) ∧ ((¬ (((cv_122 a1 μ) = 0) ∨ ((a2 < 1) ∨ (¬ (a2 ≤ 9))))) → (((μ 39 0 ((((10 * (μ 67 0 ((a1).toNatClampNeg))) + a2) : Int32).toNatClampNeg)) = 0) ∨ ((μ 39 0 ((((10 * (μ 67 0 ((a1).toNatClampNeg))) + a2) : Int32).toNatClampNeg)) = (a1 + 1))) → ci_127_59 a1 a2 64 ((10 * (μ 67 0 ((a1).toNatClampNeg))) + a2) 0 μ)
set_option maxHeartbeats 4000000 in
set_option maxRecDepth 10000 in
theorem tf_127 {a1 : Int32} {a2 : Int32} (hi : ci_127 a1 a2 μ) (h : Q (some (.inl (cv_127 a1 a2 μ))) (cs_127 a1 a2 μ)) : xm_MW (tm_I L xs) (d + 2) 127 [.inr (some (36, 0)), .inl a1, .inl a2] μ Q := by
  refine xr_in2 [some (.inr (some (36, 0))), some (.inl a1), some (.inl a2), none, none] rfl rfl ?_
  unfold cv_127 cs_127 at h
  unfold ci_127 at hi
  refine xr_go 2 (pc' := 2) (ls' := [some (.inr (some (36, 0))), some (.inl a1), some (.inl a2), none, none]) (st' := [.inl a1, .inr (some (36, 0))]) (s' := μ) rfl ?_
  refine xr_cl (y' := 122) (as := [.inr (some (36, 0)), .inl a1]) (r := []) rfl rfl ?_
  refine tf_122 (d := d + 0) (μ := μ) (a1 := a1) ?_
  show xr_t (tm_I L xs) (d + 1) 127 5 [some (.inr (some (36, 0))), some (.inl a1), some (.inl a2), none, none] [.inl (cv_122 a1 μ)] μ Q
  have z1 : (cv_122 a1 μ) = 0 ∨ (cv_122 a1 μ) = 1 := cz_122
  generalize gv1 : (cv_122 a1 μ) = v1 at h hi z1 ⊢
  suffices hE1 : (((v1 = 0) ∨ ((a2 < 1) ∨ (¬ (a2 ≤ 9)))) → xr_t (tm_I L xs) (d + 1) 127 19 [some (.inr (some (36, 0))), some (.inl a1), some (.inl a2), none, none] [] μ Q) ∧ (¬ ((v1 = 0) ∨ ((a2 < 1) ∨ (¬ (a2 ≤ 9)))) → xr_t (tm_I L xs) (d + 1) 127 21 [some (.inr (some (36, 0))), some (.inl a1), some (.inl a2), none, none] [] μ Q) by
    refine xr_br 1 (c := v1 = 0) inferInstance (a := 19) (b := 8) (ls' := [some (.inr (some (36, 0))), some (.inl a1), some (.inl a2), none, none]) (st' := []) (s' := μ) rfl (fun c1 => ?_) (fun c1 => ?_)
    · skip
      exact hE1.1 (Or.inl c1)
    · skip
      refine xr_br 3 (c := a2 < 1) inferInstance (a := 19) (b := 13) (ls' := [some (.inr (some (36, 0))), some (.inl a1), some (.inl a2), none, none]) (st' := []) (s' := μ) rfl (fun c2 => ?_) (fun c2 => ?_)
      · skip
        exact hE1.1 (Or.inr (Or.inl c2))
      · skip
        refine xr_br 3 (c := a2 ≤ 9) inferInstance (a := 21) (b := 19) (ls' := [some (.inr (some (36, 0))), some (.inl a1), some (.inl a2), none, none]) (st' := []) (s' := μ) rfl (fun c3 => ?_) (fun c3 => ?_)
        · skip
          exact hE1.2 (fun z => z.elim c1 (fun z => z.elim c2 (fun z => z c3)))
        · skip
          exact hE1.1 (Or.inr (Or.inr c3))
  refine ⟨fun c4 => ?_, fun c4 => ?_⟩
  · skip
    refine xr_go 1 (pc' := 20) (ls' := [some (.inr (some (36, 0))), some (.inl a1), some (.inl a2), none, none]) (st' := [.inl 0]) (s' := μ) rfl ?_
    try simp only [if_pos c4] at h
    exact xr_rt (v := some (.inl 0)) rfl h
  · skip
    refine xr_go 4 (pc' := 28) (ls' := [some (.inr (some (36, 0))), some (.inl a1), some (.inl a2), none, none]) (st' := [.inl a1, .inr (some (67, 0)), .inl 10]) (s' := μ) rfl ?_
    refine xr_ial (n := 6) rfl rfl (hi.1 c4) ?_
    refine xr_go 7 (pc' := 38) (ls' := [some (.inr (some (36, 0))), some (.inl a1), some (.inl a2), some (.inl ((10 * (μ 67 0 ((a1).toNatClampNeg))) + a2)), none]) (st' := [.inl ((10 * (μ 67 0 ((a1).toNatClampNeg))) + a2), .inr (some (39, 0))]) (s' := μ) rfl ?_
    refine xr_ial (n := 30) rfl rfl (hi.2.1 c4) ?_
    suffices hE5 : ((((μ 39 0 ((((10 * (μ 67 0 ((a1).toNatClampNeg))) + a2) : Int32).toNatClampNeg)) = 0) ∨ ((μ 39 0 ((((10 * (μ 67 0 ((a1).toNatClampNeg))) + a2) : Int32).toNatClampNeg)) = (a1 + 1))) → xr_t (tm_I L xs) (d + 1) 127 56 [some (.inr (some (36, 0))), some (.inl a1), some (.inl a2), some (.inl ((10 * (μ 67 0 ((a1).toNatClampNeg))) + a2)), none] [] μ Q) ∧ (¬ (((μ 39 0 ((((10 * (μ 67 0 ((a1).toNatClampNeg))) + a2) : Int32).toNatClampNeg)) = 0) ∨ ((μ 39 0 ((((10 * (μ 67 0 ((a1).toNatClampNeg))) + a2) : Int32).toNatClampNeg)) = (a1 + 1))) → xr_t (tm_I L xs) (d + 1) 127 54 [some (.inr (some (36, 0))), some (.inl a1), some (.inl a2), some (.inl ((10 * (μ 67 0 ((a1).toNatClampNeg))) + a2)), none] [] μ Q) by
      refine xr_br 1 (c := (μ 39 0 ((((10 * (μ 67 0 ((a1).toNatClampNeg))) + a2) : Int32).toNatClampNeg)) = 0) inferInstance (a := 56) (b := 42) (ls' := [some (.inr (some (36, 0))), some (.inl a1), some (.inl a2), some (.inl ((10 * (μ 67 0 ((a1).toNatClampNeg))) + a2)), none]) (st' := []) (s' := μ) rfl (fun c5 => ?_) (fun c5 => ?_)
      · skip
        exact hE5.1 (Or.inl c5)
      · skip
        refine xr_go 3 (pc' := 47) (ls' := [some (.inr (some (36, 0))), some (.inl a1), some (.inl a2), some (.inl ((10 * (μ 67 0 ((a1).toNatClampNeg))) + a2)), none]) (st' := [.inl ((10 * (μ 67 0 ((a1).toNatClampNeg))) + a2), .inr (some (39, 0))]) (s' := μ) rfl ?_
        refine xr_ial (n := 30) rfl rfl (hi.2.1 c4) ?_
        refine xr_br 4 (c := (μ 39 0 ((((10 * (μ 67 0 ((a1).toNatClampNeg))) + a2) : Int32).toNatClampNeg)) = (a1 + 1)) inferInstance (a := 56) (b := 54) (ls' := [some (.inr (some (36, 0))), some (.inl a1), some (.inl a2), some (.inl ((10 * (μ 67 0 ((a1).toNatClampNeg))) + a2)), none]) (st' := []) (s' := μ) rfl (fun c6 => ?_) (fun c6 => ?_)
        · skip
          exact hE5.1 (Or.inr c6)
        · skip
          exact hE5.2 (fun z => z.elim c5 c6)
    refine ⟨fun c7 => ?_, fun c7 => ?_⟩
    · skip
      refine xr_go 2 (pc' := 59) (ls' := [some (.inr (some (36, 0))), some (.inl a1), some (.inl a2), some (.inl ((10 * (μ 67 0 ((a1).toNatClampNeg))) + a2)), some (.inl 0)]) (st' := []) (s' := μ) rfl ?_
      try simp only [if_neg c4, if_pos c7] at h
      exact tl_127_59 64 ((10 * (μ 67 0 ((a1).toNatClampNeg))) + a2) 0 μ (hi.2.2 c4 c7) h
    · skip
      refine xr_go 1 (pc' := 55) (ls' := [some (.inr (some (36, 0))), some (.inl a1), some (.inl a2), some (.inl ((10 * (μ 67 0 ((a1).toNatClampNeg))) + a2)), none]) (st' := [.inl 0]) (s' := μ) rfl ?_
      try simp only [if_neg c4, if_neg c7] at h
      exact xr_rt (v := some (.inl 0)) rfl h
-- BootNetModel.stranger(IZ)Z
def cv_128 (a1 : Int32) (a2 : Int32) (μ : tm_M) : Int32 := (if ((cv_123 a1 μ) = 0) ∨ ((μ 40 0 ((a1).toNatClampNeg)) = a2) then 0 else 1)
def cs_128 (a1 : Int32) (a2 : Int32) (μ : tm_M) : tm_M := (if ((cv_123 a1 μ) = 0) ∨ ((μ 40 0 ((a1).toNatClampNeg)) = a2) then μ else (tm_wr μ 40 0 ((a1).toNatClampNeg) (vp_nar .boolean a2)))
def ci_128 (a1 : Int32) (a2 : Int32) (μ : tm_M) : Prop := ((¬ ((cv_123 a1 μ) = 0)) → tm_ix a1 30 = true) ∧ ((¬ (((cv_123 a1 μ) = 0) ∨ ((μ 40 0 ((a1).toNatClampNeg)) = a2))) → tm_ix a1 30 = true)
theorem cz_128 {a1 : Int32} {a2 : Int32} {μ : tm_M} : cv_128 a1 a2 μ = 0 ∨ cv_128 a1 a2 μ = 1 := by
  unfold cv_128
  (repeat' split) <;> first | exact Or.inl rfl | exact Or.inr rfl | exact cz_123
set_option maxHeartbeats 4000000 in
set_option maxRecDepth 10000 in
theorem tf_128 {a1 : Int32} {a2 : Int32} (hi : ci_128 a1 a2 μ) (h : Q (some (.inl (cv_128 a1 a2 μ))) (cs_128 a1 a2 μ)) : xm_MW (tm_I L xs) (d + 2) 128 [.inr (some (36, 0)), .inl a1, .inl a2] μ Q := by
  refine xr_in2 [some (.inr (some (36, 0))), some (.inl a1), some (.inl a2)] rfl rfl ?_
  unfold cv_128 cs_128 at h
  unfold ci_128 at hi
  refine xr_go 1 (pc' := 1) (ls' := [some (.inr (some (36, 0))), some (.inl a1), some (.inl a2)]) (st' := [.inl a1]) (s' := μ) rfl ?_
  refine xr_cl (y' := 123) (as := [.inl a1]) (r := []) rfl rfl ?_
  refine tf_123 (d := d + 0) (μ := μ) (a1 := a1) ?_
  show xr_t (tm_I L xs) (d + 1) 128 4 [some (.inr (some (36, 0))), some (.inl a1), some (.inl a2)] [.inl (cv_123 a1 μ)] μ Q
  have z1 : (cv_123 a1 μ) = 0 ∨ (cv_123 a1 μ) = 1 := cz_123
  generalize gv1 : (cv_123 a1 μ) = v1 at h hi z1 ⊢
  suffices hE1 : (((v1 = 0) ∨ ((μ 40 0 ((a1).toNatClampNeg)) = a2)) → xr_t (tm_I L xs) (d + 1) 128 17 [some (.inr (some (36, 0))), some (.inl a1), some (.inl a2)] [] μ Q) ∧ (¬ ((v1 = 0) ∨ ((μ 40 0 ((a1).toNatClampNeg)) = a2)) → xr_t (tm_I L xs) (d + 1) 128 19 [some (.inr (some (36, 0))), some (.inl a1), some (.inl a2)] [] μ Q) by
    refine xr_br 1 (c := v1 = 0) inferInstance (a := 17) (b := 7) (ls' := [some (.inr (some (36, 0))), some (.inl a1), some (.inl a2)]) (st' := []) (s' := μ) rfl (fun c1 => ?_) (fun c1 => ?_)
    · skip
      exact hE1.1 (Or.inl c1)
    · skip
      refine xr_go 3 (pc' := 12) (ls' := [some (.inr (some (36, 0))), some (.inl a1), some (.inl a2)]) (st' := [.inl a1, .inr (some (40, 0))]) (s' := μ) rfl ?_
      refine xr_bal (n := 30) rfl rfl (hi.1 c1) ?_
      refine xr_br 2 (c := (μ 40 0 ((a1).toNatClampNeg)) = a2) inferInstance (a := 17) (b := 19) (ls' := [some (.inr (some (36, 0))), some (.inl a1), some (.inl a2)]) (st' := []) (s' := μ) rfl (fun c2 => ?_) (fun c2 => ?_)
      · skip
        exact hE1.1 (Or.inr c2)
      · skip
        exact hE1.2 (fun z => z.elim c1 c2)
  refine ⟨fun c3 => ?_, fun c3 => ?_⟩
  · skip
    refine xr_go 1 (pc' := 18) (ls' := [some (.inr (some (36, 0))), some (.inl a1), some (.inl a2)]) (st' := [.inl 0]) (s' := μ) rfl ?_
    try simp only [if_pos c3] at h
    exact xr_rt (v := some (.inl 0)) rfl h
  · skip
    refine xr_go 4 (pc' := 25) (ls' := [some (.inr (some (36, 0))), some (.inl a1), some (.inl a2)]) (st' := [.inl a2, .inl a1, .inr (some (40, 0))]) (s' := μ) rfl ?_
    refine xr_bas (n := 30) rfl rfl (hi.2 c3) ?_
    refine xr_go 1 (pc' := 27) (ls' := [some (.inr (some (36, 0))), some (.inl a1), some (.inl a2)]) (st' := [.inl 1]) (s' := (tm_wr μ 40 0 ((a1).toNatClampNeg) (vp_nar .boolean a2))) rfl ?_
    try simp only [if_neg c3] at h
    exact xr_rt (v := some (.inl 1)) rfl h
-- BootNetModel.put(II)Z
def cv_129 (a1 : Int32) (a2 : Int32) (μ : tm_M) : Int32 := (if ((cv_124 a1 μ) = 0) ∨ ((a2 < 0) ∨ (((255 : Int32) < a2) ∨ ((μ 49 0 ((a1).toNatClampNeg)) = 40))) then 0 else 1)
def cs_129 (a1 : Int32) (a2 : Int32) (μ : tm_M) : tm_M := (if ((cv_124 a1 μ) = 0) ∨ ((a2 < 0) ∨ (((255 : Int32) < a2) ∨ ((μ 49 0 ((a1).toNatClampNeg)) = 40))) then μ else (tm_wr (tm_wr μ 50 0 ((((40 * a1) + (μ 49 0 ((a1).toNatClampNeg))) : Int32).toNatClampNeg) a2) 49 0 ((a1).toNatClampNeg) ((μ 49 0 ((a1).toNatClampNeg)) + 1)))
def ci_129 (a1 : Int32) (a2 : Int32) (μ : tm_M) : Prop := ((¬ ((cv_124 a1 μ) = 0)) → (¬ (a2 < 0)) → (¬ ((255 : Int32) < a2)) → tm_ix a1 4 = true) ∧ ((¬ (((cv_124 a1 μ) = 0) ∨ ((a2 < 0) ∨ (((255 : Int32) < a2) ∨ ((μ 49 0 ((a1).toNatClampNeg)) = 40))))) → tm_ix a1 4 = true) ∧ ((¬ (((cv_124 a1 μ) = 0) ∨ ((a2 < 0) ∨ (((255 : Int32) < a2) ∨ ((μ 49 0 ((a1).toNatClampNeg)) = 40))))) → tm_ix ((40 * a1) + (μ 49 0 ((a1).toNatClampNeg))) 160 = true)
theorem cz_129 {a1 : Int32} {a2 : Int32} {μ : tm_M} : cv_129 a1 a2 μ = 0 ∨ cv_129 a1 a2 μ = 1 := by
  unfold cv_129
  (repeat' split) <;> first | exact Or.inl rfl | exact Or.inr rfl | exact cz_124
set_option maxHeartbeats 4000000 in
set_option maxRecDepth 10000 in
theorem tf_129 {a1 : Int32} {a2 : Int32} (hi : ci_129 a1 a2 μ) (h : Q (some (.inl (cv_129 a1 a2 μ))) (cs_129 a1 a2 μ)) : xm_MW (tm_I L xs) (d + 2) 129 [.inr (some (36, 0)), .inl a1, .inl a2] μ Q := by
  refine xr_in2 [some (.inr (some (36, 0))), some (.inl a1), some (.inl a2)] rfl rfl ?_
  unfold cv_129 cs_129 at h
  unfold ci_129 at hi
  refine xr_go 1 (pc' := 1) (ls' := [some (.inr (some (36, 0))), some (.inl a1), some (.inl a2)]) (st' := [.inl a1]) (s' := μ) rfl ?_
  refine xr_cl (y' := 124) (as := [.inl a1]) (r := []) rfl rfl ?_
  refine tf_124 (d := d + 0) (μ := μ) (a1 := a1) ?_
  show xr_t (tm_I L xs) (d + 1) 129 4 [some (.inr (some (36, 0))), some (.inl a1), some (.inl a2)] [.inl (cv_124 a1 μ)] μ Q
  have z1 : (cv_124 a1 μ) = 0 ∨ (cv_124 a1 μ) = 1 := cz_124
  generalize gv1 : (cv_124 a1 μ) = v1 at h hi z1 ⊢
  suffices hE1 : (((v1 = 0) ∨ ((a2 < 0) ∨ (((255 : Int32) < a2) ∨ ((μ 49 0 ((a1).toNatClampNeg)) = 40)))) → xr_t (tm_I L xs) (d + 1) 129 29 [some (.inr (some (36, 0))), some (.inl a1), some (.inl a2)] [] μ Q) ∧ (¬ ((v1 = 0) ∨ ((a2 < 0) ∨ (((255 : Int32) < a2) ∨ ((μ 49 0 ((a1).toNatClampNeg)) = 40)))) → xr_t (tm_I L xs) (d + 1) 129 31 [some (.inr (some (36, 0))), some (.inl a1), some (.inl a2)] [] μ Q) by
    refine xr_br 1 (c := v1 = 0) inferInstance (a := 29) (b := 7) (ls' := [some (.inr (some (36, 0))), some (.inl a1), some (.inl a2)]) (st' := []) (s' := μ) rfl (fun c1 => ?_) (fun c1 => ?_)
    · skip
      exact hE1.1 (Or.inl c1)
    · skip
      refine xr_br 2 (c := a2 < 0) inferInstance (a := 29) (b := 11) (ls' := [some (.inr (some (36, 0))), some (.inl a1), some (.inl a2)]) (st' := []) (s' := μ) rfl (fun c2 => ?_) (fun c2 => ?_)
      · skip
        exact hE1.1 (Or.inr (Or.inl c2))
      · skip
        refine xr_br 3 (c := (255 : Int32) < a2) inferInstance (a := 29) (b := 18) (ls' := [some (.inr (some (36, 0))), some (.inl a1), some (.inl a2)]) (st' := []) (s' := μ) rfl (fun c3 => ?_) (fun c3 => ?_)
        · skip
          exact hE1.1 (Or.inr (Or.inr (Or.inl c3)))
        · skip
          refine xr_go 3 (pc' := 23) (ls' := [some (.inr (some (36, 0))), some (.inl a1), some (.inl a2)]) (st' := [.inl a1, .inr (some (49, 0))]) (s' := μ) rfl ?_
          refine xr_ial (n := 4) rfl rfl (hi.1 c1 c2 c3) ?_
          refine xr_br 2 (c := (μ 49 0 ((a1).toNatClampNeg)) = 40) inferInstance (a := 29) (b := 31) (ls' := [some (.inr (some (36, 0))), some (.inl a1), some (.inl a2)]) (st' := []) (s' := μ) rfl (fun c4 => ?_) (fun c4 => ?_)
          · skip
            exact hE1.1 (Or.inr (Or.inr (Or.inr c4)))
          · skip
            exact hE1.2 (fun z => z.elim c1 (fun z => z.elim c2 (fun z => z.elim c3 c4)))
  refine ⟨fun c5 => ?_, fun c5 => ?_⟩
  · skip
    refine xr_go 1 (pc' := 30) (ls' := [some (.inr (some (36, 0))), some (.inl a1), some (.inl a2)]) (st' := [.inl 0]) (s' := μ) rfl ?_
    try simp only [if_pos c5] at h
    exact xr_rt (v := some (.inl 0)) rfl h
  · skip
    refine xr_go 8 (pc' := 44) (ls' := [some (.inr (some (36, 0))), some (.inl a1), some (.inl a2)]) (st' := [.inl a1, .inr (some (49, 0)), .inl (40 * a1), .inr (some (50, 0))]) (s' := μ) rfl ?_
    refine xr_ial (n := 4) rfl rfl (hi.2.1 c5) ?_
    refine xr_go 2 (pc' := 47) (ls' := [some (.inr (some (36, 0))), some (.inl a1), some (.inl a2)]) (st' := [.inl a2, .inl ((40 * a1) + (μ 49 0 ((a1).toNatClampNeg))), .inr (some (50, 0))]) (s' := μ) rfl ?_
    refine xr_ias (n := 160) rfl rfl (hi.2.2 c5) ?_
    refine xr_go 4 (pc' := 54) (ls' := [some (.inr (some (36, 0))), some (.inl a1), some (.inl a2)]) (st' := [.inl a1, .inr (some (49, 0)), .inl a1, .inr (some (49, 0))]) (s' := (tm_wr μ 50 0 ((((40 * a1) + (μ 49 0 ((a1).toNatClampNeg))) : Int32).toNatClampNeg) a2)) rfl ?_
    refine xr_ial (n := 4) rfl rfl (hi.2.1 c5) ?_
    refine xr_go 2 (pc' := 57) (ls' := [some (.inr (some (36, 0))), some (.inl a1), some (.inl a2)]) (st' := [.inl ((μ 49 0 ((a1).toNatClampNeg)) + 1), .inl a1, .inr (some (49, 0))]) (s' := (tm_wr μ 50 0 ((((40 * a1) + (μ 49 0 ((a1).toNatClampNeg))) : Int32).toNatClampNeg) a2)) rfl ?_
    refine xr_ias (n := 4) rfl rfl (hi.2.1 c5) ?_
    refine xr_go 1 (pc' := 59) (ls' := [some (.inr (some (36, 0))), some (.inl a1), some (.inl a2)]) (st' := [.inl 1]) (s' := (tm_wr (tm_wr μ 50 0 ((((40 * a1) + (μ 49 0 ((a1).toNatClampNeg))) : Int32).toNatClampNeg) a2) 49 0 ((a1).toNatClampNeg) ((μ 49 0 ((a1).toNatClampNeg)) + 1))) rfl ?_
    try simp only [if_neg c5] at h
    exact xr_rt (v := some (.inl 1)) rfl h
-- BootNetModel.entry(III)Z
def cv_130 (a1 : Int32) (a2 : Int32) (a3 : Int32) (μ : tm_M) : Int32 := (if ((cv_124 a1 μ) = 0) ∨ ((a2 < 0) ∨ (((40 : Int32) < a2) ∨ ((μ 36 0 20) = 4))) then 0 else 1)
def cs_130 (a1 : Int32) (a2 : Int32) (a3 : Int32) (μ : tm_M) : tm_M := (if ((cv_124 a1 μ) = 0) ∨ ((a2 < 0) ∨ (((40 : Int32) < a2) ∨ ((μ 36 0 20) = 4))) then μ else (tm_wr (tm_wr (tm_wr (tm_wr μ 51 0 (((μ 36 0 20) : Int32).toNatClampNeg) a1) 52 0 (((μ 36 0 20) : Int32).toNatClampNeg) a2) 53 0 (((μ 36 0 20) : Int32).toNatClampNeg) a3) 36 0 20 ((μ 36 0 20) + 1)))
def ci_130 (a1 : Int32) (a2 : Int32) (a3 : Int32) (μ : tm_M) : Prop := ((¬ (((cv_124 a1 μ) = 0) ∨ ((a2 < 0) ∨ (((40 : Int32) < a2) ∨ ((μ 36 0 20) = 4))))) → tm_ix (μ 36 0 20) 4 = true)
theorem cz_130 {a1 : Int32} {a2 : Int32} {a3 : Int32} {μ : tm_M} : cv_130 a1 a2 a3 μ = 0 ∨ cv_130 a1 a2 a3 μ = 1 := by
  unfold cv_130
  (repeat' split) <;> first | exact Or.inl rfl | exact Or.inr rfl | exact cz_124
set_option maxHeartbeats 4000000 in
set_option maxRecDepth 10000 in
theorem tf_130 {a1 : Int32} {a2 : Int32} {a3 : Int32} (hi : ci_130 a1 a2 a3 μ) (h : Q (some (.inl (cv_130 a1 a2 a3 μ))) (cs_130 a1 a2 a3 μ)) : xm_MW (tm_I L xs) (d + 2) 130 [.inr (some (36, 0)), .inl a1, .inl a2, .inl a3] μ Q := by
  refine xr_in2 [some (.inr (some (36, 0))), some (.inl a1), some (.inl a2), some (.inl a3)] rfl rfl ?_
  unfold cv_130 cs_130 at h
  unfold ci_130 at hi
  refine xr_go 1 (pc' := 1) (ls' := [some (.inr (some (36, 0))), some (.inl a1), some (.inl a2), some (.inl a3)]) (st' := [.inl a1]) (s' := μ) rfl ?_
  refine xr_cl (y' := 124) (as := [.inl a1]) (r := []) rfl rfl ?_
  refine tf_124 (d := d + 0) (μ := μ) (a1 := a1) ?_
  show xr_t (tm_I L xs) (d + 1) 130 4 [some (.inr (some (36, 0))), some (.inl a1), some (.inl a2), some (.inl a3)] [.inl (cv_124 a1 μ)] μ Q
  have z1 : (cv_124 a1 μ) = 0 ∨ (cv_124 a1 μ) = 1 := cz_124
  generalize gv1 : (cv_124 a1 μ) = v1 at h hi z1 ⊢
  suffices hE1 : (((v1 = 0) ∨ ((a2 < 0) ∨ (((40 : Int32) < a2) ∨ ((μ 36 0 20) = 4)))) → xr_t (tm_I L xs) (d + 1) 130 25 [some (.inr (some (36, 0))), some (.inl a1), some (.inl a2), some (.inl a3)] [] μ Q) ∧ (¬ ((v1 = 0) ∨ ((a2 < 0) ∨ (((40 : Int32) < a2) ∨ ((μ 36 0 20) = 4)))) → xr_t (tm_I L xs) (d + 1) 130 27 [some (.inr (some (36, 0))), some (.inl a1), some (.inl a2), some (.inl a3)] [] μ Q) by
    refine xr_br 1 (c := v1 = 0) inferInstance (a := 25) (b := 7) (ls' := [some (.inr (some (36, 0))), some (.inl a1), some (.inl a2), some (.inl a3)]) (st' := []) (s' := μ) rfl (fun c1 => ?_) (fun c1 => ?_)
    · skip
      exact hE1.1 (Or.inl c1)
    · skip
      refine xr_br 2 (c := a2 < 0) inferInstance (a := 25) (b := 11) (ls' := [some (.inr (some (36, 0))), some (.inl a1), some (.inl a2), some (.inl a3)]) (st' := []) (s' := μ) rfl (fun c2 => ?_) (fun c2 => ?_)
      · skip
        exact hE1.1 (Or.inr (Or.inl c2))
      · skip
        refine xr_br 3 (c := (40 : Int32) < a2) inferInstance (a := 25) (b := 17) (ls' := [some (.inr (some (36, 0))), some (.inl a1), some (.inl a2), some (.inl a3)]) (st' := []) (s' := μ) rfl (fun c3 => ?_) (fun c3 => ?_)
        · skip
          exact hE1.1 (Or.inr (Or.inr (Or.inl c3)))
        · skip
          refine xr_br 4 (c := (μ 36 0 20) = 4) inferInstance (a := 25) (b := 27) (ls' := [some (.inr (some (36, 0))), some (.inl a1), some (.inl a2), some (.inl a3)]) (st' := []) (s' := μ) rfl (fun c4 => ?_) (fun c4 => ?_)
          · skip
            exact hE1.1 (Or.inr (Or.inr (Or.inr c4)))
          · skip
            exact hE1.2 (fun z => z.elim c1 (fun z => z.elim c2 (fun z => z.elim c3 c4)))
  refine ⟨fun c5 => ?_, fun c5 => ?_⟩
  · skip
    refine xr_go 1 (pc' := 26) (ls' := [some (.inr (some (36, 0))), some (.inl a1), some (.inl a2), some (.inl a3)]) (st' := [.inl 0]) (s' := μ) rfl ?_
    try simp only [if_pos c5] at h
    exact xr_rt (v := some (.inl 0)) rfl h
  · skip
    refine xr_go 5 (pc' := 36) (ls' := [some (.inr (some (36, 0))), some (.inl a1), some (.inl a2), some (.inl a3)]) (st' := [.inl a1, .inl (μ 36 0 20), .inr (some (51, 0))]) (s' := μ) rfl ?_
    refine xr_ias (n := 4) rfl rfl (hi c5) ?_
    refine xr_go 5 (pc' := 46) (ls' := [some (.inr (some (36, 0))), some (.inl a1), some (.inl a2), some (.inl a3)]) (st' := [.inl a2, .inl (μ 36 0 20), .inr (some (52, 0))]) (s' := (tm_wr μ 51 0 (((μ 36 0 20) : Int32).toNatClampNeg) a1)) rfl ?_
    refine xr_ias (n := 4) rfl rfl (hi c5) ?_
    refine xr_go 5 (pc' := 56) (ls' := [some (.inr (some (36, 0))), some (.inl a1), some (.inl a2), some (.inl a3)]) (st' := [.inl a3, .inl (μ 36 0 20), .inr (some (53, 0))]) (s' := (tm_wr (tm_wr μ 51 0 (((μ 36 0 20) : Int32).toNatClampNeg) a1) 52 0 (((μ 36 0 20) : Int32).toNatClampNeg) a2)) rfl ?_
    refine xr_ias (n := 4) rfl rfl (hi c5) ?_
    refine xr_go 7 (pc' := 68) (ls' := [some (.inr (some (36, 0))), some (.inl a1), some (.inl a2), some (.inl a3)]) (st' := [.inl 1]) (s' := (tm_wr (tm_wr (tm_wr (tm_wr μ 51 0 (((μ 36 0 20) : Int32).toNatClampNeg) a1) 52 0 (((μ 36 0 20) : Int32).toNatClampNeg) a2) 53 0 (((μ 36 0 20) : Int32).toNatClampNeg) a3) 36 0 20 ((μ 36 0 20) + 1))) rfl ?_
    try simp only [if_neg c5] at h
    exact xr_rt (v := some (.inl 1)) rfl h
-- BootNetModel.mixed(II)I
def cv_131_6 (a1 : Int32) (a2 : Int32) : Nat → Int32 → Int32 → tm_M → Int32
  | 0, _, _, _ => 0
  | n + 1, l2, l3, μ => (if (8 : Int32) ≤ l3 then l2 else (cv_131_6 a1 a2 n ((if (l2 &&& 1) = 1 then ((l2.toUInt32 >>> ((1 : Int32).toUInt32 &&& Int32.toUInt32 31)).toInt32 ^^^ (-306674912)) else (l2.toUInt32 >>> ((1 : Int32).toUInt32 &&& Int32.toUInt32 31)).toInt32) : Int32) (l3 + 1) μ))
def ci_131_6 (a1 : Int32) (a2 : Int32) : Nat → Int32 → Int32 → tm_M → Prop
  | 0, _, _, _ => False
  | n + 1, l2, l3, μ => ((¬ ((8 : Int32) ≤ l3)) → ci_131_6 a1 a2 n ((if (l2 &&& 1) = 1 then ((l2.toUInt32 >>> ((1 : Int32).toUInt32 &&& Int32.toUInt32 31)).toInt32 ^^^ (-306674912)) else (l2.toUInt32 >>> ((1 : Int32).toUInt32 &&& Int32.toUInt32 31)).toInt32) : Int32) (l3 + 1) μ)
set_option maxHeartbeats 4000000 in
set_option maxRecDepth 10000 in
theorem tl_131_6 {a1 : Int32} {a2 : Int32} : ∀ (n : Nat) (l2 : Int32) (l3 : Int32) (μ : tm_M), ci_131_6 a1 a2 n l2 l3 μ → Q (some (.inl (cv_131_6 a1 a2 n l2 l3 μ))) μ → xr_t (tm_I L xs) (d + 0) 131 6 [some (.inl a1), some (.inl a2), some (.inl l2), some (.inl l3)] [] μ Q := by
  intro n
  induction n with
  | zero => intro l2 l3 μ hi; exact hi.elim
  | succ n ih =>
    intro l2 l3 μ hi h
    unfold ci_131_6 at hi
    simp only [cv_131_6] at h
    refine xr_br 3 (c := (8 : Int32) ≤ l3) inferInstance (a := 38) (b := 12) (ls' := [some (.inl a1), some (.inl a2), some (.inl l2), some (.inl l3)]) (st' := []) (s' := μ) rfl (fun c1 => ?_) (fun c1 => ?_)
    · skip
      refine xr_go 1 (pc' := 39) (ls' := [some (.inl a1), some (.inl a2), some (.inl l2), some (.inl l3)]) (st' := [.inl l2]) (s' := μ) rfl ?_
      try simp only [if_pos c1] at h
      exact xr_rt (v := some (.inl l2)) rfl h
    · skip
      suffices hj2 : xr_t (tm_I L xs) (d + 0) 131 31 [some (.inl a1), some (.inl a2), some (.inl l2), some (.inl l3)] [.inl ((if (l2 &&& 1) = 1 then ((l2.toUInt32 >>> ((1 : Int32).toUInt32 &&& Int32.toUInt32 31)).toInt32 ^^^ (-306674912)) else (l2.toUInt32 >>> ((1 : Int32).toUInt32 &&& Int32.toUInt32 31)).toInt32) : Int32)] μ Q by
        refine xr_br 5 (c := (l2 &&& 1) = 1) inferInstance (a := 19) (b := 28) (ls' := [some (.inl a1), some (.inl a2), some (.inl l2), some (.inl l3)]) (st' := []) (s' := μ) rfl (fun c2 => ?_) (fun c2 => ?_)
        · skip
          refine xr_go 6 (pc' := 31) (ls' := [some (.inl a1), some (.inl a2), some (.inl l2), some (.inl l3)]) (st' := [.inl ((l2.toUInt32 >>> ((1 : Int32).toUInt32 &&& Int32.toUInt32 31)).toInt32 ^^^ (-306674912))]) (s' := μ) rfl ?_
          have ehj2 : ((if (l2 &&& 1) = 1 then ((l2.toUInt32 >>> ((1 : Int32).toUInt32 &&& Int32.toUInt32 31)).toInt32 ^^^ (-306674912)) else (l2.toUInt32 >>> ((1 : Int32).toUInt32 &&& Int32.toUInt32 31)).toInt32) : Int32) = ((l2.toUInt32 >>> ((1 : Int32).toUInt32 &&& Int32.toUInt32 31)).toInt32 ^^^ (-306674912)) := by first | rfl | simp only [if_pos c2]
          rw [ehj2] at hj2
          exact hj2
        · skip
          refine xr_go 3 (pc' := 31) (ls' := [some (.inl a1), some (.inl a2), some (.inl l2), some (.inl l3)]) (st' := [.inl (l2.toUInt32 >>> ((1 : Int32).toUInt32 &&& Int32.toUInt32 31)).toInt32]) (s' := μ) rfl ?_
          have ehj2 : ((if (l2 &&& 1) = 1 then ((l2.toUInt32 >>> ((1 : Int32).toUInt32 &&& Int32.toUInt32 31)).toInt32 ^^^ (-306674912)) else (l2.toUInt32 >>> ((1 : Int32).toUInt32 &&& Int32.toUInt32 31)).toInt32) : Int32) = (l2.toUInt32 >>> ((1 : Int32).toUInt32 &&& Int32.toUInt32 31)).toInt32 := by first | rfl | simp only [if_neg c2]
          rw [ehj2] at hj2
          exact hj2
      refine xr_go 3 (pc' := 6) (ls' := [some (.inl a1), some (.inl a2), some (.inl ((if (l2 &&& 1) = 1 then ((l2.toUInt32 >>> ((1 : Int32).toUInt32 &&& Int32.toUInt32 31)).toInt32 ^^^ (-306674912)) else (l2.toUInt32 >>> ((1 : Int32).toUInt32 &&& Int32.toUInt32 31)).toInt32) : Int32)), some (.inl (l3 + 1))]) (st' := []) (s' := μ) rfl ?_
      try simp only [if_neg c1] at h
      exact ih ((if (l2 &&& 1) = 1 then ((l2.toUInt32 >>> ((1 : Int32).toUInt32 &&& Int32.toUInt32 31)).toInt32 ^^^ (-306674912)) else (l2.toUInt32 >>> ((1 : Int32).toUInt32 &&& Int32.toUInt32 31)).toInt32) : Int32) (l3 + 1) μ (hi c1) h
def cv_131 (a1 : Int32) (a2 : Int32) (μ : tm_M) : Int32 := (cv_131_6 a1 a2 64 (a1 ^^^ a2) 0 μ)
def ci_131 (a1 : Int32) (a2 : Int32) (μ : tm_M) : Prop := (ci_131_6 a1 a2 64 (a1 ^^^ a2) 0 μ)
set_option maxHeartbeats 4000000 in
set_option maxRecDepth 10000 in
theorem tf_131 {a1 : Int32} {a2 : Int32} (hi : ci_131 a1 a2 μ) (h : Q (some (.inl (cv_131 a1 a2 μ))) μ) : xm_MW (tm_I L xs) (d + 1) 131 [.inl a1, .inl a2] μ Q := by
  refine xr_in2 [some (.inl a1), some (.inl a2), none, none] rfl rfl ?_
  unfold cv_131 at h
  unfold ci_131 at hi
  refine xr_go 6 (pc' := 6) (ls' := [some (.inl a1), some (.inl a2), some (.inl (a1 ^^^ a2)), some (.inl 0)]) (st' := []) (s' := μ) rfl ?_
  exact tl_131_6 64 (a1 ^^^ a2) 0 μ (hi) h
-- BootNetModel.check(I)I
def cv_132_13 (a1 : Int32) : Nat → Int32 → Int32 → tm_M → Int32
  | 0, _, _, _ => 0
  | n + 1, l2, l3, μ => (if (μ 49 0 ((a1).toNatClampNeg)) ≤ l3 then (l2 ^^^ (-1)) else (cv_132_13 a1 n (cv_131 l2 (μ 50 0 ((((40 * a1) + l3) : Int32).toNatClampNeg)) μ) (l3 + 1) μ))
def ci_132_13 (a1 : Int32) : Nat → Int32 → Int32 → tm_M → Prop
  | 0, _, _, _ => False
  | n + 1, l2, l3, μ => (tm_ix a1 4 = true) ∧ ((¬ ((μ 49 0 ((a1).toNatClampNeg)) ≤ l3)) → tm_ix ((40 * a1) + l3) 160 = true) ∧ ((¬ ((μ 49 0 ((a1).toNatClampNeg)) ≤ l3)) → ci_131 l2 (μ 50 0 ((((40 * a1) + l3) : Int32).toNatClampNeg)) μ) ∧ ((¬ ((μ 49 0 ((a1).toNatClampNeg)) ≤ l3)) → ci_132_13 a1 n (cv_131 l2 (μ 50 0 ((((40 * a1) + l3) : Int32).toNatClampNeg)) μ) (l3 + 1) μ)
set_option maxHeartbeats 4000000 in
set_option maxRecDepth 10000 in
theorem tl_132_13 {a1 : Int32} : ∀ (n : Nat) (l2 : Int32) (l3 : Int32) (μ : tm_M), ci_132_13 a1 n l2 l3 μ → Q (some (.inl (cv_132_13 a1 n l2 l3 μ))) μ → xr_t (tm_I L xs) (d + 1) 132 13 [some (.inr (some (36, 0))), some (.inl a1), some (.inl l2), some (.inl l3)] [] μ Q := by
  intro n
  induction n with
  | zero => intro l2 l3 μ hi; exact hi.elim
  | succ n ih =>
    intro l2 l3 μ hi h
    unfold ci_132_13 at hi
    simp only [cv_132_13] at h
    refine xr_go 4 (pc' := 19) (ls' := [some (.inr (some (36, 0))), some (.inl a1), some (.inl l2), some (.inl l3)]) (st' := [.inl a1, .inr (some (49, 0)), .inl l3]) (s' := μ) rfl ?_
    refine xr_ial (n := 4) rfl rfl (hi.1) ?_
    refine xr_br 1 (c := (μ 49 0 ((a1).toNatClampNeg)) ≤ l3) inferInstance (a := 45) (b := 23) (ls' := [some (.inr (some (36, 0))), some (.inl a1), some (.inl l2), some (.inl l3)]) (st' := []) (s' := μ) rfl (fun c1 => ?_) (fun c1 => ?_)
    · skip
      refine xr_go 3 (pc' := 48) (ls' := [some (.inr (some (36, 0))), some (.inl a1), some (.inl l2), some (.inl l3)]) (st' := [.inl (l2 ^^^ (-1))]) (s' := μ) rfl ?_
      try simp only [if_pos c1] at h
      exact xr_rt (v := some (.inl (l2 ^^^ (-1)))) rfl h
    · skip
      refine xr_go 8 (pc' := 34) (ls' := [some (.inr (some (36, 0))), some (.inl a1), some (.inl l2), some (.inl l3)]) (st' := [.inl ((40 * a1) + l3), .inr (some (50, 0)), .inl l2]) (s' := μ) rfl ?_
      refine xr_ial (n := 160) rfl rfl (hi.2.1 c1) ?_
      refine xr_cl (y' := 131) (as := [.inl l2, .inl (μ 50 0 ((((40 * a1) + l3) : Int32).toNatClampNeg))]) (r := []) rfl rfl ?_
      refine tf_131 (d := d + 0) (μ := μ) (a1 := l2) (a2 := (μ 50 0 ((((40 * a1) + l3) : Int32).toNatClampNeg))) (hi.2.2.1 c1) ?_
      show xr_t (tm_I L xs) (d + 1) 132 38 [some (.inr (some (36, 0))), some (.inl a1), some (.inl l2), some (.inl l3)] [.inl (cv_131 l2 (μ 50 0 ((((40 * a1) + l3) : Int32).toNatClampNeg)) μ)] μ Q
      generalize gv1 : (cv_131 l2 (μ 50 0 ((((40 * a1) + l3) : Int32).toNatClampNeg)) μ) = v1 at h hi ⊢
      refine xr_go 3 (pc' := 13) (ls' := [some (.inr (some (36, 0))), some (.inl a1), some (.inl v1), some (.inl (l3 + 1))]) (st' := []) (s' := μ) rfl ?_
      try simp only [if_neg c1] at h
      exact ih v1 (l3 + 1) μ (hi.2.2.2 c1) h
def cv_132 (a1 : Int32) (μ : tm_M) : Int32 := (if (cv_124 a1 μ) = 0 then 0 else (cv_132_13 a1 64 (-1) 0 μ))
def ci_132 (a1 : Int32) (μ : tm_M) : Prop := ((¬ ((cv_124 a1 μ) = 0)) → ci_132_13 a1 64 (-1) 0 μ)
set_option maxHeartbeats 4000000 in
set_option maxRecDepth 10000 in
theorem tf_132 {a1 : Int32} (hi : ci_132 a1 μ) (h : Q (some (.inl (cv_132 a1 μ))) μ) : xm_MW (tm_I L xs) (d + 2) 132 [.inr (some (36, 0)), .inl a1] μ Q := by
  refine xr_in2 [some (.inr (some (36, 0))), some (.inl a1), none, none] rfl rfl ?_
  unfold cv_132 at h
  unfold ci_132 at hi
  refine xr_go 1 (pc' := 1) (ls' := [some (.inr (some (36, 0))), some (.inl a1), none, none]) (st' := [.inl a1]) (s' := μ) rfl ?_
  refine xr_cl (y' := 124) (as := [.inl a1]) (r := []) rfl rfl ?_
  refine tf_124 (d := d + 0) (μ := μ) (a1 := a1) ?_
  show xr_t (tm_I L xs) (d + 1) 132 4 [some (.inr (some (36, 0))), some (.inl a1), none, none] [.inl (cv_124 a1 μ)] μ Q
  have z1 : (cv_124 a1 μ) = 0 ∨ (cv_124 a1 μ) = 1 := cz_124
  generalize gv1 : (cv_124 a1 μ) = v1 at h hi z1 ⊢
  refine xr_br 1 (c := v1 = 0) inferInstance (a := 7) (b := 9) (ls' := [some (.inr (some (36, 0))), some (.inl a1), none, none]) (st' := []) (s' := μ) rfl (fun c1 => ?_) (fun c1 => ?_)
  · skip
    refine xr_go 1 (pc' := 8) (ls' := [some (.inr (some (36, 0))), some (.inl a1), none, none]) (st' := [.inl 0]) (s' := μ) rfl ?_
    try simp only [if_pos c1] at h
    exact xr_rt (v := some (.inl 0)) rfl h
  · skip
    refine xr_go 4 (pc' := 13) (ls' := [some (.inr (some (36, 0))), some (.inl a1), some (.inl (-1)), some (.inl 0)]) (st' := []) (s' := μ) rfl ?_
    try simp only [if_neg c1] at h
    exact tl_132_13 64 (-1) 0 μ (hi c1) h
-- BootNetModel.toServer(I)Z
def cv_133 (a1 : Int32) (μ : tm_M) : Int32 := ((if a1 = 0 then 1 else ((if a1 = 2 then 1 else ((if a1 = 5 then 1 else ((if a1 = 8 then 1 else ((if a1 = 10 then 1 else 0) : Int32)) : Int32)) : Int32)) : Int32)) : Int32)
theorem cz_133 {a1 : Int32} {μ : tm_M} : cv_133 a1 μ = 0 ∨ cv_133 a1 μ = 1 := by
  unfold cv_133
  (repeat' split) <;> first | exact Or.inl rfl | exact Or.inr rfl
set_option maxHeartbeats 4000000 in
set_option maxRecDepth 10000 in
theorem tf_133 {a1 : Int32} (h : Q (some (.inl (cv_133 a1 μ))) μ) : xm_MW (tm_I L xs) (d + 1) 133 [.inl a1] μ Q := by
  refine xr_in2 [some (.inl a1)] rfl rfl ?_
  unfold cv_133 at h
  suffices hj1 : xr_t (tm_I L xs) (d + 0) 133 31 [some (.inl a1)] [.inl ((if a1 = 0 then 1 else ((if a1 = 2 then 1 else ((if a1 = 5 then 1 else ((if a1 = 8 then 1 else ((if a1 = 10 then 1 else 0) : Int32)) : Int32)) : Int32)) : Int32)) : Int32)] μ Q by
    refine xr_br 2 (c := a1 = 0) inferInstance (a := 26) (b := 4) (ls' := [some (.inl a1)]) (st' := []) (s' := μ) rfl (fun c1 => ?_) (fun c1 => ?_)
    · skip
      refine xr_go 2 (pc' := 31) (ls' := [some (.inl a1)]) (st' := [.inl 1]) (s' := μ) rfl ?_
      have ehj1 : ((if a1 = 0 then 1 else ((if a1 = 2 then 1 else ((if a1 = 5 then 1 else ((if a1 = 8 then 1 else ((if a1 = 10 then 1 else 0) : Int32)) : Int32)) : Int32)) : Int32)) : Int32) = 1 := by first | rfl | simp only [if_pos c1]
      rw [ehj1] at hj1
      exact hj1
    · skip
      suffices hj2 : xr_t (tm_I L xs) (d + 0) 133 31 [some (.inl a1)] [.inl ((if a1 = 2 then 1 else ((if a1 = 5 then 1 else ((if a1 = 8 then 1 else ((if a1 = 10 then 1 else 0) : Int32)) : Int32)) : Int32)) : Int32)] μ Q by
        refine xr_br 3 (c := a1 = 2) inferInstance (a := 26) (b := 9) (ls' := [some (.inl a1)]) (st' := []) (s' := μ) rfl (fun c2 => ?_) (fun c2 => ?_)
        · skip
          refine xr_go 2 (pc' := 31) (ls' := [some (.inl a1)]) (st' := [.inl 1]) (s' := μ) rfl ?_
          have ehj2 : ((if a1 = 2 then 1 else ((if a1 = 5 then 1 else ((if a1 = 8 then 1 else ((if a1 = 10 then 1 else 0) : Int32)) : Int32)) : Int32)) : Int32) = 1 := by first | rfl | simp only [if_pos c2]
          rw [ehj2] at hj2
          exact hj2
        · skip
          suffices hj3 : xr_t (tm_I L xs) (d + 0) 133 31 [some (.inl a1)] [.inl ((if a1 = 5 then 1 else ((if a1 = 8 then 1 else ((if a1 = 10 then 1 else 0) : Int32)) : Int32)) : Int32)] μ Q by
            refine xr_br 3 (c := a1 = 5) inferInstance (a := 26) (b := 14) (ls' := [some (.inl a1)]) (st' := []) (s' := μ) rfl (fun c3 => ?_) (fun c3 => ?_)
            · skip
              refine xr_go 2 (pc' := 31) (ls' := [some (.inl a1)]) (st' := [.inl 1]) (s' := μ) rfl ?_
              have ehj3 : ((if a1 = 5 then 1 else ((if a1 = 8 then 1 else ((if a1 = 10 then 1 else 0) : Int32)) : Int32)) : Int32) = 1 := by first | rfl | simp only [if_pos c3]
              rw [ehj3] at hj3
              exact hj3
            · skip
              suffices hj4 : xr_t (tm_I L xs) (d + 0) 133 31 [some (.inl a1)] [.inl ((if a1 = 8 then 1 else ((if a1 = 10 then 1 else 0) : Int32)) : Int32)] μ Q by
                refine xr_br 3 (c := a1 = 8) inferInstance (a := 26) (b := 20) (ls' := [some (.inl a1)]) (st' := []) (s' := μ) rfl (fun c4 => ?_) (fun c4 => ?_)
                · skip
                  refine xr_go 2 (pc' := 31) (ls' := [some (.inl a1)]) (st' := [.inl 1]) (s' := μ) rfl ?_
                  have ehj4 : ((if a1 = 8 then 1 else ((if a1 = 10 then 1 else 0) : Int32)) : Int32) = 1 := by first | rfl | simp only [if_pos c4]
                  rw [ehj4] at hj4
                  exact hj4
                · skip
                  suffices hj5 : xr_t (tm_I L xs) (d + 0) 133 31 [some (.inl a1)] [.inl ((if a1 = 10 then 1 else 0) : Int32)] μ Q by
                    refine xr_br 3 (c := a1 = 10) inferInstance (a := 26) (b := 30) (ls' := [some (.inl a1)]) (st' := []) (s' := μ) rfl (fun c5 => ?_) (fun c5 => ?_)
                    · skip
                      refine xr_go 2 (pc' := 31) (ls' := [some (.inl a1)]) (st' := [.inl 1]) (s' := μ) rfl ?_
                      have ehj5 : ((if a1 = 10 then 1 else 0) : Int32) = 1 := by first | rfl | simp only [if_pos c5]
                      rw [ehj5] at hj5
                      exact hj5
                    · skip
                      refine xr_go 1 (pc' := 31) (ls' := [some (.inl a1)]) (st' := [.inl 0]) (s' := μ) rfl ?_
                      have ehj5 : ((if a1 = 10 then 1 else 0) : Int32) = 0 := by first | rfl | simp only [if_neg c5]
                      rw [ehj5] at hj5
                      exact hj5
                  have ehj4 : ((if a1 = 8 then 1 else ((if a1 = 10 then 1 else 0) : Int32)) : Int32) = ((if a1 = 10 then 1 else 0) : Int32) := by first | rfl | simp only [if_neg c4]
                  rw [ehj4] at hj4
                  exact hj4
              have ehj3 : ((if a1 = 5 then 1 else ((if a1 = 8 then 1 else ((if a1 = 10 then 1 else 0) : Int32)) : Int32)) : Int32) = ((if a1 = 8 then 1 else ((if a1 = 10 then 1 else 0) : Int32)) : Int32) := by first | rfl | simp only [if_neg c3]
              rw [ehj3] at hj3
              exact hj3
          have ehj2 : ((if a1 = 2 then 1 else ((if a1 = 5 then 1 else ((if a1 = 8 then 1 else ((if a1 = 10 then 1 else 0) : Int32)) : Int32)) : Int32)) : Int32) = ((if a1 = 5 then 1 else ((if a1 = 8 then 1 else ((if a1 = 10 then 1 else 0) : Int32)) : Int32)) : Int32) := by first | rfl | simp only [if_neg c2]
          rw [ehj2] at hj2
          exact hj2
      have ehj1 : ((if a1 = 0 then 1 else ((if a1 = 2 then 1 else ((if a1 = 5 then 1 else ((if a1 = 8 then 1 else ((if a1 = 10 then 1 else 0) : Int32)) : Int32)) : Int32)) : Int32)) : Int32) = ((if a1 = 2 then 1 else ((if a1 = 5 then 1 else ((if a1 = 8 then 1 else ((if a1 = 10 then 1 else 0) : Int32)) : Int32)) : Int32)) : Int32) := by first | rfl | simp only [if_neg c1]
      rw [ehj1] at hj1
      exact hj1
  exact xr_zr rfl (fun _ => (by (repeat' split) <;> first | exact Or.inl rfl | exact Or.inr rfl)) h
-- BootNetModel.fromServer(I)Z
def cv_134 (a1 : Int32) (μ : tm_M) : Int32 := ((if a1 = 1 then 1 else ((if a1 = 3 then 1 else ((if a1 = 4 then 1 else ((if a1 = 9 then 1 else ((if a1 = 11 then 1 else 0) : Int32)) : Int32)) : Int32)) : Int32)) : Int32)
theorem cz_134 {a1 : Int32} {μ : tm_M} : cv_134 a1 μ = 0 ∨ cv_134 a1 μ = 1 := by
  unfold cv_134
  (repeat' split) <;> first | exact Or.inl rfl | exact Or.inr rfl
set_option maxHeartbeats 4000000 in
set_option maxRecDepth 10000 in
theorem tf_134 {a1 : Int32} (h : Q (some (.inl (cv_134 a1 μ))) μ) : xm_MW (tm_I L xs) (d + 1) 134 [.inl a1] μ Q := by
  refine xr_in2 [some (.inl a1)] rfl rfl ?_
  unfold cv_134 at h
  suffices hj1 : xr_t (tm_I L xs) (d + 0) 134 32 [some (.inl a1)] [.inl ((if a1 = 1 then 1 else ((if a1 = 3 then 1 else ((if a1 = 4 then 1 else ((if a1 = 9 then 1 else ((if a1 = 11 then 1 else 0) : Int32)) : Int32)) : Int32)) : Int32)) : Int32)] μ Q by
    refine xr_br 3 (c := a1 = 1) inferInstance (a := 27) (b := 5) (ls' := [some (.inl a1)]) (st' := []) (s' := μ) rfl (fun c1 => ?_) (fun c1 => ?_)
    · skip
      refine xr_go 2 (pc' := 32) (ls' := [some (.inl a1)]) (st' := [.inl 1]) (s' := μ) rfl ?_
      have ehj1 : ((if a1 = 1 then 1 else ((if a1 = 3 then 1 else ((if a1 = 4 then 1 else ((if a1 = 9 then 1 else ((if a1 = 11 then 1 else 0) : Int32)) : Int32)) : Int32)) : Int32)) : Int32) = 1 := by first | rfl | simp only [if_pos c1]
      rw [ehj1] at hj1
      exact hj1
    · skip
      suffices hj2 : xr_t (tm_I L xs) (d + 0) 134 32 [some (.inl a1)] [.inl ((if a1 = 3 then 1 else ((if a1 = 4 then 1 else ((if a1 = 9 then 1 else ((if a1 = 11 then 1 else 0) : Int32)) : Int32)) : Int32)) : Int32)] μ Q by
        refine xr_br 3 (c := a1 = 3) inferInstance (a := 27) (b := 10) (ls' := [some (.inl a1)]) (st' := []) (s' := μ) rfl (fun c2 => ?_) (fun c2 => ?_)
        · skip
          refine xr_go 2 (pc' := 32) (ls' := [some (.inl a1)]) (st' := [.inl 1]) (s' := μ) rfl ?_
          have ehj2 : ((if a1 = 3 then 1 else ((if a1 = 4 then 1 else ((if a1 = 9 then 1 else ((if a1 = 11 then 1 else 0) : Int32)) : Int32)) : Int32)) : Int32) = 1 := by first | rfl | simp only [if_pos c2]
          rw [ehj2] at hj2
          exact hj2
        · skip
          suffices hj3 : xr_t (tm_I L xs) (d + 0) 134 32 [some (.inl a1)] [.inl ((if a1 = 4 then 1 else ((if a1 = 9 then 1 else ((if a1 = 11 then 1 else 0) : Int32)) : Int32)) : Int32)] μ Q by
            refine xr_br 3 (c := a1 = 4) inferInstance (a := 27) (b := 15) (ls' := [some (.inl a1)]) (st' := []) (s' := μ) rfl (fun c3 => ?_) (fun c3 => ?_)
            · skip
              refine xr_go 2 (pc' := 32) (ls' := [some (.inl a1)]) (st' := [.inl 1]) (s' := μ) rfl ?_
              have ehj3 : ((if a1 = 4 then 1 else ((if a1 = 9 then 1 else ((if a1 = 11 then 1 else 0) : Int32)) : Int32)) : Int32) = 1 := by first | rfl | simp only [if_pos c3]
              rw [ehj3] at hj3
              exact hj3
            · skip
              suffices hj4 : xr_t (tm_I L xs) (d + 0) 134 32 [some (.inl a1)] [.inl ((if a1 = 9 then 1 else ((if a1 = 11 then 1 else 0) : Int32)) : Int32)] μ Q by
                refine xr_br 3 (c := a1 = 9) inferInstance (a := 27) (b := 21) (ls' := [some (.inl a1)]) (st' := []) (s' := μ) rfl (fun c4 => ?_) (fun c4 => ?_)
                · skip
                  refine xr_go 2 (pc' := 32) (ls' := [some (.inl a1)]) (st' := [.inl 1]) (s' := μ) rfl ?_
                  have ehj4 : ((if a1 = 9 then 1 else ((if a1 = 11 then 1 else 0) : Int32)) : Int32) = 1 := by first | rfl | simp only [if_pos c4]
                  rw [ehj4] at hj4
                  exact hj4
                · skip
                  suffices hj5 : xr_t (tm_I L xs) (d + 0) 134 32 [some (.inl a1)] [.inl ((if a1 = 11 then 1 else 0) : Int32)] μ Q by
                    refine xr_br 3 (c := a1 = 11) inferInstance (a := 27) (b := 31) (ls' := [some (.inl a1)]) (st' := []) (s' := μ) rfl (fun c5 => ?_) (fun c5 => ?_)
                    · skip
                      refine xr_go 2 (pc' := 32) (ls' := [some (.inl a1)]) (st' := [.inl 1]) (s' := μ) rfl ?_
                      have ehj5 : ((if a1 = 11 then 1 else 0) : Int32) = 1 := by first | rfl | simp only [if_pos c5]
                      rw [ehj5] at hj5
                      exact hj5
                    · skip
                      refine xr_go 1 (pc' := 32) (ls' := [some (.inl a1)]) (st' := [.inl 0]) (s' := μ) rfl ?_
                      have ehj5 : ((if a1 = 11 then 1 else 0) : Int32) = 0 := by first | rfl | simp only [if_neg c5]
                      rw [ehj5] at hj5
                      exact hj5
                  have ehj4 : ((if a1 = 9 then 1 else ((if a1 = 11 then 1 else 0) : Int32)) : Int32) = ((if a1 = 11 then 1 else 0) : Int32) := by first | rfl | simp only [if_neg c4]
                  rw [ehj4] at hj4
                  exact hj4
              have ehj3 : ((if a1 = 4 then 1 else ((if a1 = 9 then 1 else ((if a1 = 11 then 1 else 0) : Int32)) : Int32)) : Int32) = ((if a1 = 9 then 1 else ((if a1 = 11 then 1 else 0) : Int32)) : Int32) := by first | rfl | simp only [if_neg c3]
              rw [ehj3] at hj3
              exact hj3
          have ehj2 : ((if a1 = 3 then 1 else ((if a1 = 4 then 1 else ((if a1 = 9 then 1 else ((if a1 = 11 then 1 else 0) : Int32)) : Int32)) : Int32)) : Int32) = ((if a1 = 4 then 1 else ((if a1 = 9 then 1 else ((if a1 = 11 then 1 else 0) : Int32)) : Int32)) : Int32) := by first | rfl | simp only [if_neg c2]
          rw [ehj2] at hj2
          exact hj2
      have ehj1 : ((if a1 = 1 then 1 else ((if a1 = 3 then 1 else ((if a1 = 4 then 1 else ((if a1 = 9 then 1 else ((if a1 = 11 then 1 else 0) : Int32)) : Int32)) : Int32)) : Int32)) : Int32) = ((if a1 = 3 then 1 else ((if a1 = 4 then 1 else ((if a1 = 9 then 1 else ((if a1 = 11 then 1 else 0) : Int32)) : Int32)) : Int32)) : Int32) := by first | rfl | simp only [if_neg c1]
      rw [ehj1] at hj1
      exact hj1
  exact xr_zr rfl (fun _ => (by (repeat' split) <;> first | exact Or.inl rfl | exact Or.inr rfl)) h
-- BootNetModel.send(IIIII)V
def cs_135 (a1 : Int32) (a2 : Int32) (a3 : Int32) (a4 : Int32) (a5 : Int32) (μ : tm_M) : tm_M := (if (μ 36 0 9) = 32 then μ else (tm_wr (tm_wr (tm_wr (tm_wr (tm_wr (tm_wr (tm_wr (tm_wr μ 41 0 (((μ 36 0 9) : Int32).toNatClampNeg) a1) 42 0 (((μ 36 0 9) : Int32).toNatClampNeg) a2) 43 0 (((μ 36 0 9) : Int32).toNatClampNeg) a3) 44 0 (((μ 36 0 9) : Int32).toNatClampNeg) a4) 45 0 (((μ 36 0 9) : Int32).toNatClampNeg) a5) 46 0 (((μ 36 0 9) : Int32).toNatClampNeg) 0) 47 0 (((μ 36 0 9) : Int32).toNatClampNeg) ((if (cv_134 a1 (tm_wr (tm_wr (tm_wr (tm_wr (tm_wr (tm_wr μ 41 0 (((μ 36 0 9) : Int32).toNatClampNeg) a1) 42 0 (((μ 36 0 9) : Int32).toNatClampNeg) a2) 43 0 (((μ 36 0 9) : Int32).toNatClampNeg) a3) 44 0 (((μ 36 0 9) : Int32).toNatClampNeg) a4) 45 0 (((μ 36 0 9) : Int32).toNatClampNeg) a5) 46 0 (((μ 36 0 9) : Int32).toNatClampNeg) 0)) = 0 then 0 else ((if (μ 67 0 ((a2).toNatClampNeg)) = 0 then 0 else 1) : Int32)) : Int32)) 36 0 9 ((μ 36 0 9) + 1)))
def ci_135 (a1 : Int32) (a2 : Int32) (a3 : Int32) (a4 : Int32) (a5 : Int32) (μ : tm_M) : Prop := ((¬ ((μ 36 0 9) = 32)) → tm_ix (μ 36 0 9) 32 = true) ∧ ((¬ ((μ 36 0 9) = 32)) → (¬ ((cv_134 a1 (tm_wr (tm_wr (tm_wr (tm_wr (tm_wr (tm_wr μ 41 0 (((μ 36 0 9) : Int32).toNatClampNeg) a1) 42 0 (((μ 36 0 9) : Int32).toNatClampNeg) a2) 43 0 (((μ 36 0 9) : Int32).toNatClampNeg) a3) 44 0 (((μ 36 0 9) : Int32).toNatClampNeg) a4) 45 0 (((μ 36 0 9) : Int32).toNatClampNeg) a5) 46 0 (((μ 36 0 9) : Int32).toNatClampNeg) 0)) = 0)) → tm_ix a2 6 = true)
set_option maxHeartbeats 4000000 in
set_option maxRecDepth 10000 in
theorem tf_135 {a1 : Int32} {a2 : Int32} {a3 : Int32} {a4 : Int32} {a5 : Int32} (hi : ci_135 a1 a2 a3 a4 a5 μ) (h : Q none (cs_135 a1 a2 a3 a4 a5 μ)) : xm_MW (tm_I L xs) (d + 2) 135 [.inr (some (36, 0)), .inl a1, .inl a2, .inl a3, .inl a4, .inl a5] μ Q := by
  refine xr_in2 [some (.inr (some (36, 0))), some (.inl a1), some (.inl a2), some (.inl a3), some (.inl a4), some (.inl a5)] rfl rfl ?_
  unfold cs_135 at h
  unfold ci_135 at hi
  refine xr_br 4 (c := (μ 36 0 9) = 32) inferInstance (a := 9) (b := 10) (ls' := [some (.inr (some (36, 0))), some (.inl a1), some (.inl a2), some (.inl a3), some (.inl a4), some (.inl a5)]) (st' := []) (s' := μ) rfl (fun c1 => ?_) (fun c1 => ?_)
  · skip
    try simp only [if_pos c1] at h
    exact xr_rt (v := none) rfl h
  · skip
    refine xr_go 5 (pc' := 19) (ls' := [some (.inr (some (36, 0))), some (.inl a1), some (.inl a2), some (.inl a3), some (.inl a4), some (.inl a5)]) (st' := [.inl a1, .inl (μ 36 0 9), .inr (some (41, 0))]) (s' := μ) rfl ?_
    refine xr_ias (n := 32) rfl rfl (hi.1 c1) ?_
    refine xr_go 5 (pc' := 29) (ls' := [some (.inr (some (36, 0))), some (.inl a1), some (.inl a2), some (.inl a3), some (.inl a4), some (.inl a5)]) (st' := [.inl a2, .inl (μ 36 0 9), .inr (some (42, 0))]) (s' := (tm_wr μ 41 0 (((μ 36 0 9) : Int32).toNatClampNeg) a1)) rfl ?_
    refine xr_ias (n := 32) rfl rfl (hi.1 c1) ?_
    refine xr_go 5 (pc' := 39) (ls' := [some (.inr (some (36, 0))), some (.inl a1), some (.inl a2), some (.inl a3), some (.inl a4), some (.inl a5)]) (st' := [.inl a3, .inl (μ 36 0 9), .inr (some (43, 0))]) (s' := (tm_wr (tm_wr μ 41 0 (((μ 36 0 9) : Int32).toNatClampNeg) a1) 42 0 (((μ 36 0 9) : Int32).toNatClampNeg) a2)) rfl ?_
    refine xr_ias (n := 32) rfl rfl (hi.1 c1) ?_
    refine xr_go 5 (pc' := 50) (ls' := [some (.inr (some (36, 0))), some (.inl a1), some (.inl a2), some (.inl a3), some (.inl a4), some (.inl a5)]) (st' := [.inl a4, .inl (μ 36 0 9), .inr (some (44, 0))]) (s' := (tm_wr (tm_wr (tm_wr μ 41 0 (((μ 36 0 9) : Int32).toNatClampNeg) a1) 42 0 (((μ 36 0 9) : Int32).toNatClampNeg) a2) 43 0 (((μ 36 0 9) : Int32).toNatClampNeg) a3)) rfl ?_
    refine xr_ias (n := 32) rfl rfl (hi.1 c1) ?_
    refine xr_go 5 (pc' := 61) (ls' := [some (.inr (some (36, 0))), some (.inl a1), some (.inl a2), some (.inl a3), some (.inl a4), some (.inl a5)]) (st' := [.inl a5, .inl (μ 36 0 9), .inr (some (45, 0))]) (s' := (tm_wr (tm_wr (tm_wr (tm_wr μ 41 0 (((μ 36 0 9) : Int32).toNatClampNeg) a1) 42 0 (((μ 36 0 9) : Int32).toNatClampNeg) a2) 43 0 (((μ 36 0 9) : Int32).toNatClampNeg) a3) 44 0 (((μ 36 0 9) : Int32).toNatClampNeg) a4)) rfl ?_
    refine xr_ias (n := 32) rfl rfl (hi.1 c1) ?_
    refine xr_go 5 (pc' := 71) (ls' := [some (.inr (some (36, 0))), some (.inl a1), some (.inl a2), some (.inl a3), some (.inl a4), some (.inl a5)]) (st' := [.inl 0, .inl (μ 36 0 9), .inr (some (46, 0))]) (s' := (tm_wr (tm_wr (tm_wr (tm_wr (tm_wr μ 41 0 (((μ 36 0 9) : Int32).toNatClampNeg) a1) 42 0 (((μ 36 0 9) : Int32).toNatClampNeg) a2) 43 0 (((μ 36 0 9) : Int32).toNatClampNeg) a3) 44 0 (((μ 36 0 9) : Int32).toNatClampNeg) a4) 45 0 (((μ 36 0 9) : Int32).toNatClampNeg) a5)) rfl ?_
    refine xr_ias (n := 32) rfl rfl (hi.1 c1) ?_
    refine xr_go 5 (pc' := 81) (ls' := [some (.inr (some (36, 0))), some (.inl a1), some (.inl a2), some (.inl a3), some (.inl a4), some (.inl a5)]) (st' := [.inl a1, .inl (μ 36 0 9), .inr (some (47, 0))]) (s' := (tm_wr (tm_wr (tm_wr (tm_wr (tm_wr (tm_wr μ 41 0 (((μ 36 0 9) : Int32).toNatClampNeg) a1) 42 0 (((μ 36 0 9) : Int32).toNatClampNeg) a2) 43 0 (((μ 36 0 9) : Int32).toNatClampNeg) a3) 44 0 (((μ 36 0 9) : Int32).toNatClampNeg) a4) 45 0 (((μ 36 0 9) : Int32).toNatClampNeg) a5) 46 0 (((μ 36 0 9) : Int32).toNatClampNeg) 0)) rfl ?_
    refine xr_cl (y' := 134) (as := [.inl a1]) (r := [.inl (μ 36 0 9), .inr (some (47, 0))]) rfl rfl ?_
    refine tf_134 (d := d + 0) (μ := (tm_wr (tm_wr (tm_wr (tm_wr (tm_wr (tm_wr μ 41 0 (((μ 36 0 9) : Int32).toNatClampNeg) a1) 42 0 (((μ 36 0 9) : Int32).toNatClampNeg) a2) 43 0 (((μ 36 0 9) : Int32).toNatClampNeg) a3) 44 0 (((μ 36 0 9) : Int32).toNatClampNeg) a4) 45 0 (((μ 36 0 9) : Int32).toNatClampNeg) a5) 46 0 (((μ 36 0 9) : Int32).toNatClampNeg) 0)) (a1 := a1) ?_
    show xr_t (tm_I L xs) (d + 1) 135 84 [some (.inr (some (36, 0))), some (.inl a1), some (.inl a2), some (.inl a3), some (.inl a4), some (.inl a5)] [.inl (cv_134 a1 (tm_wr (tm_wr (tm_wr (tm_wr (tm_wr (tm_wr μ 41 0 (((μ 36 0 9) : Int32).toNatClampNeg) a1) 42 0 (((μ 36 0 9) : Int32).toNatClampNeg) a2) 43 0 (((μ 36 0 9) : Int32).toNatClampNeg) a3) 44 0 (((μ 36 0 9) : Int32).toNatClampNeg) a4) 45 0 (((μ 36 0 9) : Int32).toNatClampNeg) a5) 46 0 (((μ 36 0 9) : Int32).toNatClampNeg) 0)), .inl (μ 36 0 9), .inr (some (47, 0))] (tm_wr (tm_wr (tm_wr (tm_wr (tm_wr (tm_wr μ 41 0 (((μ 36 0 9) : Int32).toNatClampNeg) a1) 42 0 (((μ 36 0 9) : Int32).toNatClampNeg) a2) 43 0 (((μ 36 0 9) : Int32).toNatClampNeg) a3) 44 0 (((μ 36 0 9) : Int32).toNatClampNeg) a4) 45 0 (((μ 36 0 9) : Int32).toNatClampNeg) a5) 46 0 (((μ 36 0 9) : Int32).toNatClampNeg) 0) Q
    have z1 : (cv_134 a1 (tm_wr (tm_wr (tm_wr (tm_wr (tm_wr (tm_wr μ 41 0 (((μ 36 0 9) : Int32).toNatClampNeg) a1) 42 0 (((μ 36 0 9) : Int32).toNatClampNeg) a2) 43 0 (((μ 36 0 9) : Int32).toNatClampNeg) a3) 44 0 (((μ 36 0 9) : Int32).toNatClampNeg) a4) 45 0 (((μ 36 0 9) : Int32).toNatClampNeg) a5) 46 0 (((μ 36 0 9) : Int32).toNatClampNeg) 0)) = 0 ∨ (cv_134 a1 (tm_wr (tm_wr (tm_wr (tm_wr (tm_wr (tm_wr μ 41 0 (((μ 36 0 9) : Int32).toNatClampNeg) a1) 42 0 (((μ 36 0 9) : Int32).toNatClampNeg) a2) 43 0 (((μ 36 0 9) : Int32).toNatClampNeg) a3) 44 0 (((μ 36 0 9) : Int32).toNatClampNeg) a4) 45 0 (((μ 36 0 9) : Int32).toNatClampNeg) a5) 46 0 (((μ 36 0 9) : Int32).toNatClampNeg) 0)) = 1 := cz_134
    generalize gv1 : (cv_134 a1 (tm_wr (tm_wr (tm_wr (tm_wr (tm_wr (tm_wr μ 41 0 (((μ 36 0 9) : Int32).toNatClampNeg) a1) 42 0 (((μ 36 0 9) : Int32).toNatClampNeg) a2) 43 0 (((μ 36 0 9) : Int32).toNatClampNeg) a3) 44 0 (((μ 36 0 9) : Int32).toNatClampNeg) a4) 45 0 (((μ 36 0 9) : Int32).toNatClampNeg) a5) 46 0 (((μ 36 0 9) : Int32).toNatClampNeg) 0)) = v1 at h hi z1 ⊢
    suffices hj2 : xr_t (tm_I L xs) (d + 1) 135 101 [some (.inr (some (36, 0))), some (.inl a1), some (.inl a2), some (.inl a3), some (.inl a4), some (.inl a5)] [.inl ((if v1 = 0 then 0 else ((if (μ 67 0 ((a2).toNatClampNeg)) = 0 then 0 else 1) : Int32)) : Int32), .inl (μ 36 0 9), .inr (some (47, 0))] (tm_wr (tm_wr (tm_wr (tm_wr (tm_wr (tm_wr μ 41 0 (((μ 36 0 9) : Int32).toNatClampNeg) a1) 42 0 (((μ 36 0 9) : Int32).toNatClampNeg) a2) 43 0 (((μ 36 0 9) : Int32).toNatClampNeg) a3) 44 0 (((μ 36 0 9) : Int32).toNatClampNeg) a4) 45 0 (((μ 36 0 9) : Int32).toNatClampNeg) a5) 46 0 (((μ 36 0 9) : Int32).toNatClampNeg) 0) Q by
      refine xr_br 1 (c := v1 = 0) inferInstance (a := 100) (b := 87) (ls' := [some (.inr (some (36, 0))), some (.inl a1), some (.inl a2), some (.inl a3), some (.inl a4), some (.inl a5)]) (st' := [.inl (μ 36 0 9), .inr (some (47, 0))]) (s' := (tm_wr (tm_wr (tm_wr (tm_wr (tm_wr (tm_wr μ 41 0 (((μ 36 0 9) : Int32).toNatClampNeg) a1) 42 0 (((μ 36 0 9) : Int32).toNatClampNeg) a2) 43 0 (((μ 36 0 9) : Int32).toNatClampNeg) a3) 44 0 (((μ 36 0 9) : Int32).toNatClampNeg) a4) 45 0 (((μ 36 0 9) : Int32).toNatClampNeg) a5) 46 0 (((μ 36 0 9) : Int32).toNatClampNeg) 0)) rfl (fun c2 => ?_) (fun c2 => ?_)
      · skip
        refine xr_go 1 (pc' := 101) (ls' := [some (.inr (some (36, 0))), some (.inl a1), some (.inl a2), some (.inl a3), some (.inl a4), some (.inl a5)]) (st' := [.inl 0, .inl (μ 36 0 9), .inr (some (47, 0))]) (s' := (tm_wr (tm_wr (tm_wr (tm_wr (tm_wr (tm_wr μ 41 0 (((μ 36 0 9) : Int32).toNatClampNeg) a1) 42 0 (((μ 36 0 9) : Int32).toNatClampNeg) a2) 43 0 (((μ 36 0 9) : Int32).toNatClampNeg) a3) 44 0 (((μ 36 0 9) : Int32).toNatClampNeg) a4) 45 0 (((μ 36 0 9) : Int32).toNatClampNeg) a5) 46 0 (((μ 36 0 9) : Int32).toNatClampNeg) 0)) rfl ?_
        have ehj2 : ((if v1 = 0 then 0 else ((if (μ 67 0 ((a2).toNatClampNeg)) = 0 then 0 else 1) : Int32)) : Int32) = 0 := by first | rfl | simp only [if_pos c2]
        rw [ehj2] at hj2
        exact hj2
      · skip
        refine xr_go 3 (pc' := 92) (ls' := [some (.inr (some (36, 0))), some (.inl a1), some (.inl a2), some (.inl a3), some (.inl a4), some (.inl a5)]) (st' := [.inl a2, .inr (some (67, 0)), .inl (μ 36 0 9), .inr (some (47, 0))]) (s' := (tm_wr (tm_wr (tm_wr (tm_wr (tm_wr (tm_wr μ 41 0 (((μ 36 0 9) : Int32).toNatClampNeg) a1) 42 0 (((μ 36 0 9) : Int32).toNatClampNeg) a2) 43 0 (((μ 36 0 9) : Int32).toNatClampNeg) a3) 44 0 (((μ 36 0 9) : Int32).toNatClampNeg) a4) 45 0 (((μ 36 0 9) : Int32).toNatClampNeg) a5) 46 0 (((μ 36 0 9) : Int32).toNatClampNeg) 0)) rfl ?_
        refine xr_ial (n := 6) rfl rfl (hi.2 c1 c2) ?_
        suffices hj3 : xr_t (tm_I L xs) (d + 1) 135 101 [some (.inr (some (36, 0))), some (.inl a1), some (.inl a2), some (.inl a3), some (.inl a4), some (.inl a5)] [.inl ((if (μ 67 0 ((a2).toNatClampNeg)) = 0 then 0 else 1) : Int32), .inl (μ 36 0 9), .inr (some (47, 0))] (tm_wr (tm_wr (tm_wr (tm_wr (tm_wr (tm_wr μ 41 0 (((μ 36 0 9) : Int32).toNatClampNeg) a1) 42 0 (((μ 36 0 9) : Int32).toNatClampNeg) a2) 43 0 (((μ 36 0 9) : Int32).toNatClampNeg) a3) 44 0 (((μ 36 0 9) : Int32).toNatClampNeg) a4) 45 0 (((μ 36 0 9) : Int32).toNatClampNeg) a5) 46 0 (((μ 36 0 9) : Int32).toNatClampNeg) 0) Q by
          refine xr_br 1 (c := (μ 67 0 ((a2).toNatClampNeg)) = 0) inferInstance (a := 100) (b := 96) (ls' := [some (.inr (some (36, 0))), some (.inl a1), some (.inl a2), some (.inl a3), some (.inl a4), some (.inl a5)]) (st' := [.inl (μ 36 0 9), .inr (some (47, 0))]) (s' := (tm_wr (tm_wr (tm_wr (tm_wr (tm_wr (tm_wr μ 41 0 (((μ 36 0 9) : Int32).toNatClampNeg) a1) 42 0 (((μ 36 0 9) : Int32).toNatClampNeg) a2) 43 0 (((μ 36 0 9) : Int32).toNatClampNeg) a3) 44 0 (((μ 36 0 9) : Int32).toNatClampNeg) a4) 45 0 (((μ 36 0 9) : Int32).toNatClampNeg) a5) 46 0 (((μ 36 0 9) : Int32).toNatClampNeg) 0)) rfl (fun c3 => ?_) (fun c3 => ?_)
          · skip
            refine xr_go 1 (pc' := 101) (ls' := [some (.inr (some (36, 0))), some (.inl a1), some (.inl a2), some (.inl a3), some (.inl a4), some (.inl a5)]) (st' := [.inl 0, .inl (μ 36 0 9), .inr (some (47, 0))]) (s' := (tm_wr (tm_wr (tm_wr (tm_wr (tm_wr (tm_wr μ 41 0 (((μ 36 0 9) : Int32).toNatClampNeg) a1) 42 0 (((μ 36 0 9) : Int32).toNatClampNeg) a2) 43 0 (((μ 36 0 9) : Int32).toNatClampNeg) a3) 44 0 (((μ 36 0 9) : Int32).toNatClampNeg) a4) 45 0 (((μ 36 0 9) : Int32).toNatClampNeg) a5) 46 0 (((μ 36 0 9) : Int32).toNatClampNeg) 0)) rfl ?_
            have ehj3 : ((if (μ 67 0 ((a2).toNatClampNeg)) = 0 then 0 else 1) : Int32) = 0 := by first | rfl | simp only [if_pos c3]
            rw [ehj3] at hj3
            exact hj3
          · skip
            refine xr_go 2 (pc' := 101) (ls' := [some (.inr (some (36, 0))), some (.inl a1), some (.inl a2), some (.inl a3), some (.inl a4), some (.inl a5)]) (st' := [.inl 1, .inl (μ 36 0 9), .inr (some (47, 0))]) (s' := (tm_wr (tm_wr (tm_wr (tm_wr (tm_wr (tm_wr μ 41 0 (((μ 36 0 9) : Int32).toNatClampNeg) a1) 42 0 (((μ 36 0 9) : Int32).toNatClampNeg) a2) 43 0 (((μ 36 0 9) : Int32).toNatClampNeg) a3) 44 0 (((μ 36 0 9) : Int32).toNatClampNeg) a4) 45 0 (((μ 36 0 9) : Int32).toNatClampNeg) a5) 46 0 (((μ 36 0 9) : Int32).toNatClampNeg) 0)) rfl ?_
            have ehj3 : ((if (μ 67 0 ((a2).toNatClampNeg)) = 0 then 0 else 1) : Int32) = 1 := by first | rfl | simp only [if_neg c3]
            rw [ehj3] at hj3
            exact hj3
        have ehj2 : ((if v1 = 0 then 0 else ((if (μ 67 0 ((a2).toNatClampNeg)) = 0 then 0 else 1) : Int32)) : Int32) = ((if (μ 67 0 ((a2).toNatClampNeg)) = 0 then 0 else 1) : Int32) := by first | rfl | simp only [if_neg c2]
        rw [ehj2] at hj2
        exact hj2
    refine xr_ias (n := 32) rfl rfl (hi.1 c1) ?_
    refine xr_go 6 (pc' := 112) (ls' := [some (.inr (some (36, 0))), some (.inl a1), some (.inl a2), some (.inl a3), some (.inl a4), some (.inl a5)]) (st' := []) (s' := (tm_wr (tm_wr (tm_wr (tm_wr (tm_wr (tm_wr (tm_wr (tm_wr μ 41 0 (((μ 36 0 9) : Int32).toNatClampNeg) a1) 42 0 (((μ 36 0 9) : Int32).toNatClampNeg) a2) 43 0 (((μ 36 0 9) : Int32).toNatClampNeg) a3) 44 0 (((μ 36 0 9) : Int32).toNatClampNeg) a4) 45 0 (((μ 36 0 9) : Int32).toNatClampNeg) a5) 46 0 (((μ 36 0 9) : Int32).toNatClampNeg) 0) 47 0 (((μ 36 0 9) : Int32).toNatClampNeg) ((if v1 = 0 then 0 else ((if (μ 67 0 ((a2).toNatClampNeg)) = 0 then 0 else 1) : Int32)) : Int32)) 36 0 9 ((μ 36 0 9) + 1))) rfl ?_
    try simp only [if_neg c1] at h
    exact xr_rt (v := none) rfl h
-- BootNetModel.copy(II)V
def cs_136_86 (a1 : Int32) (a2 : Int32) : Nat → Int32 → tm_M → tm_M
  | 0, _, μ => μ
  | n + 1, l3, μ => (if (12 : Int32) ≤ l3 then μ else (cs_136_86 a1 a2 n (l3 + 1) (tm_wr μ 48 0 ((((12 * a2) + l3) : Int32).toNatClampNeg) (μ 48 0 ((((12 * a1) + l3) : Int32).toNatClampNeg)))))
def ci_136_86 (a1 : Int32) (a2 : Int32) : Nat → Int32 → tm_M → Prop
  | 0, _, _ => False
  | n + 1, l3, μ => ((¬ ((12 : Int32) ≤ l3)) → tm_ix ((12 * a1) + l3) 384 = true) ∧ ((¬ ((12 : Int32) ≤ l3)) → tm_ix ((12 * a2) + l3) 384 = true) ∧ ((¬ ((12 : Int32) ≤ l3)) → ci_136_86 a1 a2 n (l3 + 1) (tm_wr μ 48 0 ((((12 * a2) + l3) : Int32).toNatClampNeg) (μ 48 0 ((((12 * a1) + l3) : Int32).toNatClampNeg))))
set_option maxHeartbeats 4000000 in
set_option maxRecDepth 10000 in
theorem tl_136_86 {a1 : Int32} {a2 : Int32} : ∀ (n : Nat) (l3 : Int32) (μ : tm_M), ci_136_86 a1 a2 n l3 μ → Q none (cs_136_86 a1 a2 n l3 μ) → xr_t (tm_I L xs) (d + 0) 136 86 [some (.inr (some (36, 0))), some (.inl a1), some (.inl a2), some (.inl l3)] [] μ Q := by
  intro n
  induction n with
  | zero => intro l3 μ hi; exact hi.elim
  | succ n ih =>
    intro l3 μ hi h
    unfold ci_136_86 at hi
    simp only [cs_136_86] at h
    refine xr_br 3 (c := (12 : Int32) ≤ l3) inferInstance (a := 120) (b := 92) (ls' := [some (.inr (some (36, 0))), some (.inl a1), some (.inl a2), some (.inl l3)]) (st' := []) (s' := μ) rfl (fun c1 => ?_) (fun c1 => ?_)
    · skip
      try simp only [if_pos c1] at h
      exact xr_rt (v := none) rfl h
    · skip
      refine xr_go 14 (pc' := 112) (ls' := [some (.inr (some (36, 0))), some (.inl a1), some (.inl a2), some (.inl l3)]) (st' := [.inl ((12 * a1) + l3), .inr (some (48, 0)), .inl ((12 * a2) + l3), .inr (some (48, 0))]) (s' := μ) rfl ?_
      refine xr_ial (n := 384) rfl rfl (hi.1 c1) ?_
      refine xr_ias (n := 384) rfl rfl (hi.2.1 c1) ?_
      refine xr_go 2 (pc' := 86) (ls' := [some (.inr (some (36, 0))), some (.inl a1), some (.inl a2), some (.inl (l3 + 1))]) (st' := []) (s' := (tm_wr μ 48 0 ((((12 * a2) + l3) : Int32).toNatClampNeg) (μ 48 0 ((((12 * a1) + l3) : Int32).toNatClampNeg)))) rfl ?_
      try simp only [if_neg c1] at h
      exact ih (l3 + 1) (tm_wr μ 48 0 ((((12 * a2) + l3) : Int32).toNatClampNeg) (μ 48 0 ((((12 * a1) + l3) : Int32).toNatClampNeg))) (hi.2.2 c1) h
def cs_136 (a1 : Int32) (a2 : Int32) (μ : tm_M) : tm_M := (cs_136_86 a1 a2 64 0 (tm_wr (tm_wr (tm_wr (tm_wr (tm_wr (tm_wr (tm_wr μ 41 0 ((a2).toNatClampNeg) (μ 41 0 ((a1).toNatClampNeg))) 42 0 ((a2).toNatClampNeg) (μ 42 0 ((a1).toNatClampNeg))) 43 0 ((a2).toNatClampNeg) (μ 43 0 ((a1).toNatClampNeg))) 44 0 ((a2).toNatClampNeg) (μ 44 0 ((a1).toNatClampNeg))) 45 0 ((a2).toNatClampNeg) (μ 45 0 ((a1).toNatClampNeg))) 46 0 ((a2).toNatClampNeg) (μ 46 0 ((a1).toNatClampNeg))) 47 0 ((a2).toNatClampNeg) (μ 47 0 ((a1).toNatClampNeg))))
def ci_136 (a1 : Int32) (a2 : Int32) (μ : tm_M) : Prop := (tm_ix a1 32 = true) ∧ (tm_ix a2 32 = true) ∧ (ci_136_86 a1 a2 64 0 (tm_wr (tm_wr (tm_wr (tm_wr (tm_wr (tm_wr (tm_wr μ 41 0 ((a2).toNatClampNeg) (μ 41 0 ((a1).toNatClampNeg))) 42 0 ((a2).toNatClampNeg) (μ 42 0 ((a1).toNatClampNeg))) 43 0 ((a2).toNatClampNeg) (μ 43 0 ((a1).toNatClampNeg))) 44 0 ((a2).toNatClampNeg) (μ 44 0 ((a1).toNatClampNeg))) 45 0 ((a2).toNatClampNeg) (μ 45 0 ((a1).toNatClampNeg))) 46 0 ((a2).toNatClampNeg) (μ 46 0 ((a1).toNatClampNeg))) 47 0 ((a2).toNatClampNeg) (μ 47 0 ((a1).toNatClampNeg))))
set_option maxHeartbeats 4000000 in
set_option maxRecDepth 10000 in
theorem tf_136 {a1 : Int32} {a2 : Int32} (hi : ci_136 a1 a2 μ) (h : Q none (cs_136 a1 a2 μ)) : xm_MW (tm_I L xs) (d + 1) 136 [.inr (some (36, 0)), .inl a1, .inl a2] μ Q := by
  refine xr_in2 [some (.inr (some (36, 0))), some (.inl a1), some (.inl a2), none] rfl rfl ?_
  unfold cs_136 at h
  unfold ci_136 at hi
  refine xr_go 6 (pc' := 10) (ls' := [some (.inr (some (36, 0))), some (.inl a1), some (.inl a2), none]) (st' := [.inl a1, .inr (some (41, 0)), .inl a2, .inr (some (41, 0))]) (s' := μ) rfl ?_
  refine xr_ial (n := 32) rfl rfl (hi.1) ?_
  refine xr_ias (n := 32) rfl rfl (hi.2.1) ?_
  refine xr_go 6 (pc' := 22) (ls' := [some (.inr (some (36, 0))), some (.inl a1), some (.inl a2), none]) (st' := [.inl a1, .inr (some (42, 0)), .inl a2, .inr (some (42, 0))]) (s' := (tm_wr μ 41 0 ((a2).toNatClampNeg) (μ 41 0 ((a1).toNatClampNeg)))) rfl ?_
  refine xr_ial (n := 32) rfl rfl (hi.1) ?_
  refine xr_ias (n := 32) rfl rfl (hi.2.1) ?_
  refine xr_go 6 (pc' := 34) (ls' := [some (.inr (some (36, 0))), some (.inl a1), some (.inl a2), none]) (st' := [.inl a1, .inr (some (43, 0)), .inl a2, .inr (some (43, 0))]) (s' := (tm_wr (tm_wr μ 41 0 ((a2).toNatClampNeg) (μ 41 0 ((a1).toNatClampNeg))) 42 0 ((a2).toNatClampNeg) (μ 42 0 ((a1).toNatClampNeg)))) rfl ?_
  refine xr_ial (n := 32) rfl rfl (hi.1) ?_
  refine xr_ias (n := 32) rfl rfl (hi.2.1) ?_
  refine xr_go 6 (pc' := 46) (ls' := [some (.inr (some (36, 0))), some (.inl a1), some (.inl a2), none]) (st' := [.inl a1, .inr (some (44, 0)), .inl a2, .inr (some (44, 0))]) (s' := (tm_wr (tm_wr (tm_wr μ 41 0 ((a2).toNatClampNeg) (μ 41 0 ((a1).toNatClampNeg))) 42 0 ((a2).toNatClampNeg) (μ 42 0 ((a1).toNatClampNeg))) 43 0 ((a2).toNatClampNeg) (μ 43 0 ((a1).toNatClampNeg)))) rfl ?_
  refine xr_ial (n := 32) rfl rfl (hi.1) ?_
  refine xr_ias (n := 32) rfl rfl (hi.2.1) ?_
  refine xr_go 6 (pc' := 58) (ls' := [some (.inr (some (36, 0))), some (.inl a1), some (.inl a2), none]) (st' := [.inl a1, .inr (some (45, 0)), .inl a2, .inr (some (45, 0))]) (s' := (tm_wr (tm_wr (tm_wr (tm_wr μ 41 0 ((a2).toNatClampNeg) (μ 41 0 ((a1).toNatClampNeg))) 42 0 ((a2).toNatClampNeg) (μ 42 0 ((a1).toNatClampNeg))) 43 0 ((a2).toNatClampNeg) (μ 43 0 ((a1).toNatClampNeg))) 44 0 ((a2).toNatClampNeg) (μ 44 0 ((a1).toNatClampNeg)))) rfl ?_
  refine xr_ial (n := 32) rfl rfl (hi.1) ?_
  refine xr_ias (n := 32) rfl rfl (hi.2.1) ?_
  refine xr_go 6 (pc' := 70) (ls' := [some (.inr (some (36, 0))), some (.inl a1), some (.inl a2), none]) (st' := [.inl a1, .inr (some (46, 0)), .inl a2, .inr (some (46, 0))]) (s' := (tm_wr (tm_wr (tm_wr (tm_wr (tm_wr μ 41 0 ((a2).toNatClampNeg) (μ 41 0 ((a1).toNatClampNeg))) 42 0 ((a2).toNatClampNeg) (μ 42 0 ((a1).toNatClampNeg))) 43 0 ((a2).toNatClampNeg) (μ 43 0 ((a1).toNatClampNeg))) 44 0 ((a2).toNatClampNeg) (μ 44 0 ((a1).toNatClampNeg))) 45 0 ((a2).toNatClampNeg) (μ 45 0 ((a1).toNatClampNeg)))) rfl ?_
  refine xr_ial (n := 32) rfl rfl (hi.1) ?_
  refine xr_ias (n := 32) rfl rfl (hi.2.1) ?_
  refine xr_go 6 (pc' := 82) (ls' := [some (.inr (some (36, 0))), some (.inl a1), some (.inl a2), none]) (st' := [.inl a1, .inr (some (47, 0)), .inl a2, .inr (some (47, 0))]) (s' := (tm_wr (tm_wr (tm_wr (tm_wr (tm_wr (tm_wr μ 41 0 ((a2).toNatClampNeg) (μ 41 0 ((a1).toNatClampNeg))) 42 0 ((a2).toNatClampNeg) (μ 42 0 ((a1).toNatClampNeg))) 43 0 ((a2).toNatClampNeg) (μ 43 0 ((a1).toNatClampNeg))) 44 0 ((a2).toNatClampNeg) (μ 44 0 ((a1).toNatClampNeg))) 45 0 ((a2).toNatClampNeg) (μ 45 0 ((a1).toNatClampNeg))) 46 0 ((a2).toNatClampNeg) (μ 46 0 ((a1).toNatClampNeg)))) rfl ?_
  refine xr_ial (n := 32) rfl rfl (hi.1) ?_
  refine xr_ias (n := 32) rfl rfl (hi.2.1) ?_
  refine xr_go 2 (pc' := 86) (ls' := [some (.inr (some (36, 0))), some (.inl a1), some (.inl a2), some (.inl 0)]) (st' := []) (s' := (tm_wr (tm_wr (tm_wr (tm_wr (tm_wr (tm_wr (tm_wr μ 41 0 ((a2).toNatClampNeg) (μ 41 0 ((a1).toNatClampNeg))) 42 0 ((a2).toNatClampNeg) (μ 42 0 ((a1).toNatClampNeg))) 43 0 ((a2).toNatClampNeg) (μ 43 0 ((a1).toNatClampNeg))) 44 0 ((a2).toNatClampNeg) (μ 44 0 ((a1).toNatClampNeg))) 45 0 ((a2).toNatClampNeg) (μ 45 0 ((a1).toNatClampNeg))) 46 0 ((a2).toNatClampNeg) (μ 46 0 ((a1).toNatClampNeg))) 47 0 ((a2).toNatClampNeg) (μ 47 0 ((a1).toNatClampNeg)))) rfl ?_
  exact tl_136_86 64 0 (tm_wr (tm_wr (tm_wr (tm_wr (tm_wr (tm_wr (tm_wr μ 41 0 ((a2).toNatClampNeg) (μ 41 0 ((a1).toNatClampNeg))) 42 0 ((a2).toNatClampNeg) (μ 42 0 ((a1).toNatClampNeg))) 43 0 ((a2).toNatClampNeg) (μ 43 0 ((a1).toNatClampNeg))) 44 0 ((a2).toNatClampNeg) (μ 44 0 ((a1).toNatClampNeg))) 45 0 ((a2).toNatClampNeg) (μ 45 0 ((a1).toNatClampNeg))) 46 0 ((a2).toNatClampNeg) (μ 46 0 ((a1).toNatClampNeg))) 47 0 ((a2).toNatClampNeg) (μ 47 0 ((a1).toNatClampNeg))) (hi.2.2) h
-- BootNetModel.take(I)V
def cs_137_12 (a1 : Int32) : Nat → Int32 → tm_M → tm_M
  | 0, _, μ => μ
  | n + 1, l2, μ => (if (μ 36 0 9) ≤ l2 then μ else (cs_137_12 a1 n (l2 + 1) (cs_136 (l2 + 1) l2 μ)))
def ci_137_12 (a1 : Int32) : Nat → Int32 → tm_M → Prop
  | 0, _, _ => False
  | n + 1, l2, μ => ((¬ ((μ 36 0 9) ≤ l2)) → ci_136 (l2 + 1) l2 μ) ∧ ((¬ ((μ 36 0 9) ≤ l2)) → ci_137_12 a1 n (l2 + 1) (cs_136 (l2 + 1) l2 μ))
set_option maxHeartbeats 4000000 in
set_option maxRecDepth 10000 in
theorem tl_137_12 {a1 : Int32} : ∀ (n : Nat) (l2 : Int32) (μ : tm_M), ci_137_12 a1 n l2 μ → Q none (cs_137_12 a1 n l2 μ) → xr_t (tm_I L xs) (d + 1) 137 12 [some (.inr (some (36, 0))), some (.inl a1), some (.inl l2)] [] μ Q := by
  intro n
  induction n with
  | zero => intro l2 μ hi; exact hi.elim
  | succ n ih =>
    intro l2 μ hi h
    unfold ci_137_12 at hi
    simp only [cs_137_12] at h
    refine xr_br 4 (c := (μ 36 0 9) ≤ l2) inferInstance (a := 34) (b := 20) (ls' := [some (.inr (some (36, 0))), some (.inl a1), some (.inl l2)]) (st' := []) (s' := μ) rfl (fun c1 => ?_) (fun c1 => ?_)
    · skip
      try simp only [if_pos c1] at h
      exact xr_rt (v := none) rfl h
    · skip
      refine xr_go 5 (pc' := 25) (ls' := [some (.inr (some (36, 0))), some (.inl a1), some (.inl l2)]) (st' := [.inl l2, .inl (l2 + 1), .inr (some (36, 0))]) (s' := μ) rfl ?_
      refine xr_cl (y' := 136) (as := [.inr (some (36, 0)), .inl (l2 + 1), .inl l2]) (r := []) rfl rfl ?_
      refine tf_136 (d := d + 0) (μ := μ) (a1 := (l2 + 1)) (a2 := l2) (hi.1 c1) ?_
      show xr_t (tm_I L xs) (d + 1) 137 28 [some (.inr (some (36, 0))), some (.inl a1), some (.inl l2)] [] (cs_136 (l2 + 1) l2 μ) Q
      generalize gμ1 : (cs_136 (l2 + 1) l2 μ) = μ1 at h hi ⊢
      refine xr_go 2 (pc' := 12) (ls' := [some (.inr (some (36, 0))), some (.inl a1), some (.inl (l2 + 1))]) (st' := []) (s' := μ1) rfl ?_
      try simp only [if_neg c1] at h
      exact ih (l2 + 1) μ1 (hi.2 c1) h
def cs_137 (a1 : Int32) (μ : tm_M) : tm_M := (cs_137_12 a1 64 a1 (tm_wr μ 36 0 9 ((μ 36 0 9) - 1)))
def ci_137 (a1 : Int32) (μ : tm_M) : Prop := (ci_137_12 a1 64 a1 (tm_wr μ 36 0 9 ((μ 36 0 9) - 1)))
set_option maxHeartbeats 4000000 in
set_option maxRecDepth 10000 in
theorem tf_137 {a1 : Int32} (hi : ci_137 a1 μ) (h : Q none (cs_137 a1 μ)) : xm_MW (tm_I L xs) (d + 2) 137 [.inr (some (36, 0)), .inl a1] μ Q := by
  refine xr_in2 [some (.inr (some (36, 0))), some (.inl a1), none] rfl rfl ?_
  unfold cs_137 at h
  unfold ci_137 at hi
  refine xr_go 8 (pc' := 12) (ls' := [some (.inr (some (36, 0))), some (.inl a1), some (.inl a1)]) (st' := []) (s' := (tm_wr μ 36 0 9 ((μ 36 0 9) - 1))) rfl ?_
  exact tl_137_12 64 a1 (tm_wr μ 36 0 9 ((μ 36 0 9) - 1)) (hi) h
end TF
