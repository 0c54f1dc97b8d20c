/-! Methods of the reference as functions. Written by prog/gen_tf.py. -/
section TF
variable {L : Nat} {xs : Nat → Int32} {d : Nat} {μ : tm_M} {Q : Option (xm_V tm_R) → tm_M → Prop}
-- BootNetModel.alter(IZ)Z
def cv_138 (a1 : Int32) (a2 : Int32) (μ : tm_M) : Int32 := (if (a1 < 0) ∨ ((μ 36 0 9) ≤ a1) then 0 else (if (a2 = 0) ∨ (¬ ((μ 36 0 9) = 32)) then 1 else 0))
def cs_138 (a1 : Int32) (a2 : Int32) (μ : tm_M) : tm_M := (if (a1 < 0) ∨ ((μ 36 0 9) ≤ a1) then μ else (if (a2 = 0) ∨ (¬ ((μ 36 0 9) = 32)) then (if a2 = 0 then (cs_137 a1 μ) else (tm_wr (cs_136 a1 (μ 36 0 9) μ) 36 0 9 (((cs_136 a1 (μ 36 0 9) μ) 36 0 9) + 1))) else μ))
def ci_138 (a1 : Int32) (a2 : Int32) (μ : tm_M) : Prop := ((¬ ((a1 < 0) ∨ ((μ 36 0 9) ≤ a1))) → ((a2 = 0) ∨ (¬ ((μ 36 0 9) = 32))) → (a2 = 0) → ci_137 a1 μ) ∧ ((¬ ((a1 < 0) ∨ ((μ 36 0 9) ≤ a1))) → ((a2 = 0) ∨ (¬ ((μ 36 0 9) = 32))) → (¬ (a2 = 0)) → ci_136 a1 (μ 36 0 9) μ)
theorem cz_138 {a1 : Int32} {a2 : Int32} {μ : tm_M} : cv_138 a1 a2 μ = 0 ∨ cv_138 a1 a2 μ = 1 := by
  unfold cv_138
  (repeat' split) <;> first | exact Or.inl rfl | exact Or.inr rfl
set_option maxHeartbeats 4000000 in
set_option maxRecDepth 10000 in
theorem tf_138 {a1 : Int32} {a2 : Int32} (hi : ci_138 a1 a2 μ) (h : Q (some (.inl (cv_138 a1 a2 μ))) (cs_138 a1 a2 μ)) : xm_MW (tm_I L xs) (d + 3) 138 [.inr (some (36, 0)), .inl a1, .inl a2] μ Q := by
  refine xr_in2 [some (.inr (some (36, 0))), some (.inl a1), some (.inl a2)] rfl rfl ?_
  unfold cv_138 cs_138 at h
  unfold ci_138 at hi
  suffices hE1 : (((a1 < 0) ∨ ((μ 36 0 9) ≤ a1)) → xr_t (tm_I L xs) (d + 2) 138 25 [some (.inr (some (36, 0))), some (.inl a1), some (.inl a2)] [] μ Q) ∧ (¬ ((a1 < 0) ∨ ((μ 36 0 9) ≤ a1)) → xr_t (tm_I L xs) (d + 2) 138 12 [some (.inr (some (36, 0))), some (.inl a1), some (.inl a2)] [] μ Q) by
    refine xr_br 2 (c := a1 < 0) inferInstance (a := 25) (b := 4) (ls' := [some (.inr (some (36, 0))), some (.inl a1), some (.inl a2)]) (st' := []) (s' := μ) rfl (fun c1 => ?_) (fun c1 => ?_)
    · skip
      exact hE1.1 (Or.inl c1)
    · skip
      refine xr_br 4 (c := (μ 36 0 9) ≤ a1) inferInstance (a := 25) (b := 12) (ls' := [some (.inr (some (36, 0))), some (.inl a1), some (.inl a2)]) (st' := []) (s' := μ) rfl (fun c2 => ?_) (fun c2 => ?_)
      · skip
        exact hE1.1 (Or.inr c2)
      · skip
        exact hE1.2 (fun z => z.elim c1 c2)
  refine ⟨fun c3 => ?_, fun c3 => ?_⟩
  · skip
    refine xr_go 1 (pc' := 26) (ls' := [some (.inr (some (36, 0))), some (.inl a1), some (.inl a2)]) (st' := [.inl 0]) (s' := μ) rfl ?_
    try simp only [if_pos c3] at h
    exact xr_rt (v := some (.inl 0)) rfl h
  · skip
    suffices hE4 : (((a2 = 0) ∨ (¬ ((μ 36 0 9) = 32))) → xr_t (tm_I L xs) (d + 2) 138 27 [some (.inr (some (36, 0))), some (.inl a1), some (.inl a2)] [] μ Q) ∧ (¬ ((a2 = 0) ∨ (¬ ((μ 36 0 9) = 32))) → xr_t (tm_I L xs) (d + 2) 138 25 [some (.inr (some (36, 0))), some (.inl a1), some (.inl a2)] [] μ Q) by
      refine xr_br 2 (c := a2 = 0) inferInstance (a := 27) (b := 16) (ls' := [some (.inr (some (36, 0))), some (.inl a1), some (.inl a2)]) (st' := []) (s' := μ) rfl (fun c4 => ?_) (fun c4 => ?_)
      · skip
        exact hE4.1 (Or.inl c4)
      · skip
        refine xr_br 4 (c := (μ 36 0 9) = 32) inferInstance (a := 25) (b := 27) (ls' := [some (.inr (some (36, 0))), some (.inl a1), some (.inl a2)]) (st' := []) (s' := μ) rfl (fun c5 => ?_) (fun c5 => ?_)
        · skip
          exact hE4.2 (fun z => z.elim c4 (fun z => z c5))
        · skip
          exact hE4.1 (Or.inr c5)
    refine ⟨fun c6 => ?_, fun c6 => ?_⟩
    · skip
      refine xr_br 2 (c := a2 = 0) inferInstance (a := 53) (b := 31) (ls' := [some (.inr (some (36, 0))), some (.inl a1), some (.inl a2)]) (st' := []) (s' := μ) rfl (fun c7 => ?_) (fun c7 => ?_)
      · skip
        refine xr_go 2 (pc' := 55) (ls' := [some (.inr (some (36, 0))), some (.inl a1), some (.inl a2)]) (st' := [.inl a1, .inr (some (36, 0))]) (s' := μ) rfl ?_
        refine xr_cl (y' := 137) (as := [.inr (some (36, 0)), .inl a1]) (r := []) rfl rfl ?_
        refine tf_137 (d := d + 0) (μ := μ) (a1 := a1) (hi.1 c3 c6 c7) ?_
        show xr_t (tm_I L xs) (d + 2) 138 58 [some (.inr (some (36, 0))), some (.inl a1), some (.inl a2)] [] (cs_137 a1 μ) Q
        generalize gμ2 : (cs_137 a1 μ) = μ2 at h hi ⊢
        refine xr_go 1 (pc' := 59) (ls' := [some (.inr (some (36, 0))), some (.inl a1), some (.inl a2)]) (st' := [.inl 1]) (s' := μ2) rfl ?_
        try simp only [if_neg c3, if_pos c6, if_pos c7] at h
        exact xr_rt (v := some (.inl 1)) rfl h
      · skip
        refine xr_go 4 (pc' := 37) (ls' := [some (.inr (some (36, 0))), some (.inl a1), some (.inl a2)]) (st' := [.inl (μ 36 0 9), .inl a1, .inr (some (36, 0))]) (s' := μ) rfl ?_
        refine xr_cl (y' := 136) (as := [.inr (some (36, 0)), .inl a1, .inl (μ 36 0 9)]) (r := []) rfl rfl ?_
        refine tf_136 (d := d + 1) (μ := μ) (a1 := a1) (a2 := (μ 36 0 9)) (hi.2 c3 c6 c7) ?_
        show xr_t (tm_I L xs) (d + 2) 138 40 [some (.inr (some (36, 0))), some (.inl a1), some (.inl a2)] [] (cs_136 a1 (μ 36 0 9) μ) Q
        generalize gμ3 : (cs_136 a1 (μ 36 0 9) μ) = μ3 at h hi ⊢
        refine xr_go 8 (pc' := 59) (ls' := [some (.inr (some (36, 0))), some (.inl a1), some (.inl a2)]) (st' := [.inl 1]) (s' := (tm_wr μ3 36 0 9 ((μ3 36 0 9) + 1))) rfl ?_
        try simp only [if_neg c3, if_pos c6, if_neg c7] at h
        exact xr_rt (v := some (.inl 1)) rfl h
    · skip
      refine xr_go 1 (pc' := 26) (ls' := [some (.inr (some (36, 0))), some (.inl a1), some (.inl a2)]) (st' := [.inl 0]) (s' := μ) rfl ?_
      try simp only [if_neg c3, if_neg c6] at h
      exact xr_rt (v := some (.inl 0)) rfl h
-- BootNetModel.swap(II)V
def cs_140_209 (a1 : Int32) (a2 : Int32) : Nat → Int32 → tm_M → tm_M
  | 0, _, μ => μ
  | n + 1, l3, μ => (if (12 : Int32) ≤ l3 then μ else (cs_140_209 a1 a2 n (l3 + 1) (tm_wr μ 48 0 ((((12 * a2) + l3) : Int32).toNatClampNeg) (μ 84 0 ((l3).toNatClampNeg)))))
def ci_140_209 (a1 : Int32) (a2 : Int32) : Nat → Int32 → tm_M → Prop
  | 0, _, _ => False
  | n + 1, l3, μ => ((¬ ((12 : Int32) ≤ l3)) → tm_ix l3 12 = true) ∧ ((¬ ((12 : Int32) ≤ l3)) → tm_ix ((12 * a2) + l3) 384 = true) ∧ ((¬ ((12 : Int32) ≤ l3)) → ci_140_209 a1 a2 n (l3 + 1) (tm_wr μ 48 0 ((((12 * a2) + l3) : Int32).toNatClampNeg) (μ 84 0 ((l3).toNatClampNeg))))
set_option maxHeartbeats 4000000 in
set_option maxRecDepth 10000 in
theorem tl_140_209 {a1 : Int32} {a2 : Int32} : ∀ (n : Nat) (l3 : Int32) (μ : tm_M), ci_140_209 a1 a2 n l3 μ → Q none (cs_140_209 a1 a2 n l3 μ) → xr_t (tm_I L xs) (d + 1) 140 209 [some (.inr (some (36, 0))), some (.inl a1), some (.inl a2), some (.inl l3)] [] μ Q := by
  intro n
  induction n with
  | zero => intro l3 μ hi; exact hi.elim
  | succ n ih =>
    intro l3 μ hi h
    unfold ci_140_209 at hi
    simp only [cs_140_209] at h
    refine xr_br 3 (c := (12 : Int32) ≤ l3) inferInstance (a := 238) (b := 215) (ls' := [some (.inr (some (36, 0))), some (.inl a1), some (.inl a2), some (.inl l3)]) (st' := []) (s' := μ) rfl (fun c1 => ?_) (fun c1 => ?_)
    · skip
      try simp only [if_pos c1] at h
      exact xr_rt (v := none) rfl h
    · skip
      refine xr_go 10 (pc' := 230) (ls' := [some (.inr (some (36, 0))), some (.inl a1), some (.inl a2), some (.inl l3)]) (st' := [.inl l3, .inr (some (84, 0)), .inl ((12 * a2) + l3), .inr (some (48, 0))]) (s' := μ) rfl ?_
      refine xr_ial (n := 12) rfl rfl (hi.1 c1) ?_
      refine xr_ias (n := 384) rfl rfl (hi.2.1 c1) ?_
      refine xr_go 2 (pc' := 209) (ls' := [some (.inr (some (36, 0))), some (.inl a1), some (.inl a2), some (.inl (l3 + 1))]) (st' := []) (s' := (tm_wr μ 48 0 ((((12 * a2) + l3) : Int32).toNatClampNeg) (μ 84 0 ((l3).toNatClampNeg)))) rfl ?_
      try simp only [if_neg c1] at h
      exact ih (l3 + 1) (tm_wr μ 48 0 ((((12 * a2) + l3) : Int32).toNatClampNeg) (μ 84 0 ((l3).toNatClampNeg))) (hi.2.2 c1) h
def cs_140_87 (a1 : Int32) (a2 : Int32) : Nat → Int32 → tm_M → tm_M
  | 0, _, μ => μ
  | n + 1, l3, μ => (if (12 : Int32) ≤ l3 then (cs_140_209 a1 a2 64 0 (tm_wr (tm_wr (tm_wr (tm_wr (tm_wr (tm_wr (tm_wr (cs_136 a2 a1 μ) 41 0 ((a2).toNatClampNeg) ((cs_136 a2 a1 μ) 85 0 0)) 42 0 ((a2).toNatClampNeg) ((cs_136 a2 a1 μ) 85 0 1)) 43 0 ((a2).toNatClampNeg) ((cs_136 a2 a1 μ) 85 0 2)) 44 0 ((a2).toNatClampNeg) ((cs_136 a2 a1 μ) 85 0 3)) 45 0 ((a2).toNatClampNeg) ((cs_136 a2 a1 μ) 85 0 4)) 46 0 ((a2).toNatClampNeg) ((cs_136 a2 a1 μ) 85 0 5)) 47 0 ((a2).toNatClampNeg) ((cs_136 a2 a1 μ) 85 0 6))) else (cs_140_87 a1 a2 n (l3 + 1) (tm_wr μ 84 0 ((l3).toNatClampNeg) (μ 48 0 ((((12 * a1) + l3) : Int32).toNatClampNeg)))))
def ci_140_87 (a1 : Int32) (a2 : Int32) : Nat → Int32 → tm_M → Prop
  | 0, _, _ => False
  | n + 1, l3, μ => (((12 : Int32) ≤ l3) → ci_136 a2 a1 μ) ∧ (((12 : Int32) ≤ l3) → tm_ix a2 32 = true) ∧ (((12 : Int32) ≤ l3) → ci_140_209 a1 a2 64 0 (tm_wr (tm_wr (tm_wr (tm_wr (tm_wr (tm_wr (tm_wr (cs_136 a2 a1 μ) 41 0 ((a2).toNatClampNeg) ((cs_136 a2 a1 μ) 85 0 0)) 42 0 ((a2).toNatClampNeg) ((cs_136 a2 a1 μ) 85 0 1)) 43 0 ((a2).toNatClampNeg) ((cs_136 a2 a1 μ) 85 0 2)) 44 0 ((a2).toNatClampNeg) ((cs_136 a2 a1 μ) 85 0 3)) 45 0 ((a2).toNatClampNeg) ((cs_136 a2 a1 μ) 85 0 4)) 46 0 ((a2).toNatClampNeg) ((cs_136 a2 a1 μ) 85 0 5)) 47 0 ((a2).toNatClampNeg) ((cs_136 a2 a1 μ) 85 0 6))) ∧ ((¬ ((12 : Int32) ≤ l3)) → tm_ix ((12 * a1) + l3) 384 = true) ∧ ((¬ ((12 : Int32) ≤ l3)) → tm_ix l3 12 = true) ∧ ((¬ ((12 : Int32) ≤ l3)) → ci_140_87 a1 a2 n (l3 + 1) (tm_wr μ 84 0 ((l3).toNatClampNeg) (μ 48 0 ((((12 * a1) + l3) : Int32).toNatClampNeg))))
set_option maxHeartbeats 4000000 in
set_option maxRecDepth 10000 in
theorem tl_140_87 {a1 : Int32} {a2 : Int32} : ∀ (n : Nat) (l3 : Int32) (μ : tm_M), ci_140_87 a1 a2 n l3 μ → Q none (cs_140_87 a1 a2 n l3 μ) → xr_t (tm_I L xs) (d + 1) 140 87 [some (.inr (some (36, 0))), some (.inl a1), some (.inl a2), some (.inl l3)] [] μ Q := by
  intro n
  induction n with
  | zero => intro l3 μ hi; exact hi.elim
  | succ n ih =>
    intro l3 μ hi h
    unfold ci_140_87 at hi
    simp only [cs_140_87] at h
    refine xr_br 3 (c := (12 : Int32) ≤ l3) inferInstance (a := 116) (b := 93) (ls' := [some (.inr (some (36, 0))), some (.inl a1), some (.inl a2), some (.inl l3)]) (st' := []) (s' := μ) rfl (fun c1 => ?_) (fun c1 => ?_)
    · skip
      refine xr_go 3 (pc' := 119) (ls' := [some (.inr (some (36, 0))), some (.inl a1), some (.inl a2), some (.inl l3)]) (st' := [.inl a1, .inl a2, .inr (some (36, 0))]) (s' := μ) rfl ?_
      refine xr_cl (y' := 136) (as := [.inr (some (36, 0)), .inl a2, .inl a1]) (r := []) rfl rfl ?_
      refine tf_136 (d := d + 0) (μ := μ) (a1 := a2) (a2 := a1) (hi.1 c1) ?_
      show xr_t (tm_I L xs) (d + 1) 140 122 [some (.inr (some (36, 0))), some (.inl a1), some (.inl a2), some (.inl l3)] [] (cs_136 a2 a1 μ) Q
      generalize gμ1 : (cs_136 a2 a1 μ) = μ1 at h hi ⊢
      refine xr_go 6 (pc' := 132) (ls' := [some (.inr (some (36, 0))), some (.inl a1), some (.inl a2), some (.inl l3)]) (st' := [.inl 0, .inr (some (85, 0)), .inl a2, .inr (some (41, 0))]) (s' := μ1) rfl ?_
      refine xr_iall (n := 7) (x := (μ1 85 0 0)) 0 rfl rfl rfl ?_
      refine xr_ias (n := 32) rfl rfl (hi.2.1 c1) ?_
      refine xr_go 6 (pc' := 144) (ls' := [some (.inr (some (36, 0))), some (.inl a1), some (.inl a2), some (.inl l3)]) (st' := [.inl 1, .inr (some (85, 0)), .inl a2, .inr (some (42, 0))]) (s' := (tm_wr μ1 41 0 ((a2).toNatClampNeg) (μ1 85 0 0))) rfl ?_
      refine xr_iall (n := 7) (x := (μ1 85 0 1)) 1 rfl rfl (by rw [tm_wr_n (fun q => absurd q.1 (by decide))]) ?_
      refine xr_ias (n := 32) rfl rfl (hi.2.1 c1) ?_
      refine xr_go 6 (pc' := 156) (ls' := [some (.inr (some (36, 0))), some (.inl a1), some (.inl a2), some (.inl l3)]) (st' := [.inl 2, .inr (some (85, 0)), .inl a2, .inr (some (43, 0))]) (s' := (tm_wr (tm_wr μ1 41 0 ((a2).toNatClampNeg) (μ1 85 0 0)) 42 0 ((a2).toNatClampNeg) (μ1 85 0 1))) rfl ?_
      refine xr_iall (n := 7) (x := (μ1 85 0 2)) 2 rfl rfl (by rw [tm_wr_n (fun q => absurd q.1 (by decide)), tm_wr_n (fun q => absurd q.1 (by decide))]) ?_
      refine xr_ias (n := 32) rfl rfl (hi.2.1 c1) ?_
      refine xr_go 6 (pc' := 168) (ls' := [some (.inr (some (36, 0))), some (.inl a1), some (.inl a2), some (.inl l3)]) (st' := [.inl 3, .inr (some (85, 0)), .inl a2, .inr (some (44, 0))]) (s' := (tm_wr (tm_wr (tm_wr μ1 41 0 ((a2).toNatClampNeg) (μ1 85 0 0)) 42 0 ((a2).toNatClampNeg) (μ1 85 0 1)) 43 0 ((a2).toNatClampNeg) (μ1 85 0 2))) rfl ?_
      refine xr_iall (n := 7) (x := (μ1 85 0 3)) 3 rfl rfl (by rw [tm_wr_n (fun q => absurd q.1 (by decide)), tm_wr_n (fun q => absurd q.1 (by decide)), tm_wr_n (fun q => absurd q.1 (by decide))]) ?_
      refine xr_ias (n := 32) rfl rfl (hi.2.1 c1) ?_
      refine xr_go 6 (pc' := 180) (ls' := [some (.inr (some (36, 0))), some (.inl a1), some (.inl a2), some (.inl l3)]) (st' := [.inl 4, .inr (some (85, 0)), .inl a2, .inr (some (45, 0))]) (s' := (tm_wr (tm_wr (tm_wr (tm_wr μ1 41 0 ((a2).toNatClampNeg) (μ1 85 0 0)) 42 0 ((a2).toNatClampNeg) (μ1 85 0 1)) 43 0 ((a2).toNatClampNeg) (μ1 85 0 2)) 44 0 ((a2).toNatClampNeg) (μ1 85 0 3))) rfl ?_
      refine xr_iall (n := 7) (x := (μ1 85 0 4)) 4 rfl rfl (by rw [tm_wr_n (fun q => absurd q.1 (by decide)), tm_wr_n (fun q => absurd q.1 (by decide)), tm_wr_n (fun q => absurd q.1 (by decide)), tm_wr_n (fun q => absurd q.1 (by decide))]) ?_
      refine xr_ias (n := 32) rfl rfl (hi.2.1 c1) ?_
      refine xr_go 6 (pc' := 192) (ls' := [some (.inr (some (36, 0))), some (.inl a1), some (.inl a2), some (.inl l3)]) (st' := [.inl 5, .inr (some (85, 0)), .inl a2, .inr (some (46, 0))]) (s' := (tm_wr (tm_wr (tm_wr (tm_wr (tm_wr μ1 41 0 ((a2).toNatClampNeg) (μ1 85 0 0)) 42 0 ((a2).toNatClampNeg) (μ1 85 0 1)) 43 0 ((a2).toNatClampNeg) (μ1 85 0 2)) 44 0 ((a2).toNatClampNeg) (μ1 85 0 3)) 45 0 ((a2).toNatClampNeg) (μ1 85 0 4))) rfl ?_
      refine xr_iall (n := 7) (x := (μ1 85 0 5)) 5 rfl rfl (by rw [tm_wr_n (fun q => absurd q.1 (by decide)), tm_wr_n (fun q => absurd q.1 (by decide)), tm_wr_n (fun q => absurd q.1 (by decide)), tm_wr_n (fun q => absurd q.1 (by decide)), tm_wr_n (fun q => absurd q.1 (by decide))]) ?_
      refine xr_ias (n := 32) rfl rfl (hi.2.1 c1) ?_
      refine xr_go 6 (pc' := 205) (ls' := [some (.inr (some (36, 0))), some (.inl a1), some (.inl a2), some (.inl l3)]) (st' := [.inl 6, .inr (some (85, 0)), .inl a2, .inr (some (47, 0))]) (s' := (tm_wr (tm_wr (tm_wr (tm_wr (tm_wr (tm_wr μ1 41 0 ((a2).toNatClampNeg) (μ1 85 0 0)) 42 0 ((a2).toNatClampNeg) (μ1 85 0 1)) 43 0 ((a2).toNatClampNeg) (μ1 85 0 2)) 44 0 ((a2).toNatClampNeg) (μ1 85 0 3)) 45 0 ((a2).toNatClampNeg) (μ1 85 0 4)) 46 0 ((a2).toNatClampNeg) (μ1 85 0 5))) rfl ?_
      refine xr_iall (n := 7) (x := (μ1 85 0 6)) 6 rfl rfl (by rw [tm_wr_n (fun q => absurd q.1 (by decide)), tm_wr_n (fun q => absurd q.1 (by decide)), tm_wr_n (fun q => absurd q.1 (by decide)), tm_wr_n (fun q => absurd q.1 (by decide)), tm_wr_n (fun q => absurd q.1 (by decide)), tm_wr_n (fun q => absurd q.1 (by decide))]) ?_
      refine xr_ias (n := 32) rfl rfl (hi.2.1 c1) ?_
      refine xr_go 2 (pc' := 209) (ls' := [some (.inr (some (36, 0))), some (.inl a1), some (.inl a2), some (.inl 0)]) (st' := []) (s' := (tm_wr (tm_wr (tm_wr (tm_wr (tm_wr (tm_wr (tm_wr μ1 41 0 ((a2).toNatClampNeg) (μ1 85 0 0)) 42 0 ((a2).toNatClampNeg) (μ1 85 0 1)) 43 0 ((a2).toNatClampNeg) (μ1 85 0 2)) 44 0 ((a2).toNatClampNeg) (μ1 85 0 3)) 45 0 ((a2).toNatClampNeg) (μ1 85 0 4)) 46 0 ((a2).toNatClampNeg) (μ1 85 0 5)) 47 0 ((a2).toNatClampNeg) (μ1 85 0 6))) rfl ?_
      try simp only [if_pos c1] at h
      exact tl_140_209 64 0 (tm_wr (tm_wr (tm_wr (tm_wr (tm_wr (tm_wr (tm_wr μ1 41 0 ((a2).toNatClampNeg) (μ1 85 0 0)) 42 0 ((a2).toNatClampNeg) (μ1 85 0 1)) 43 0 ((a2).toNatClampNeg) (μ1 85 0 2)) 44 0 ((a2).toNatClampNeg) (μ1 85 0 3)) 45 0 ((a2).toNatClampNeg) (μ1 85 0 4)) 46 0 ((a2).toNatClampNeg) (μ1 85 0 5)) 47 0 ((a2).toNatClampNeg) (μ1 85 0 6)) (hi.2.2.1 c1) h
    · skip
      refine xr_go 10 (pc' := 108) (ls' := [some (.inr (some (36, 0))), some (.inl a1), some (.inl a2), some (.inl l3)]) (st' := [.inl ((12 * a1) + l3), .inr (some (48, 0)), .inl l3, .inr (some (84, 0))]) (s' := μ) rfl ?_
      refine xr_ial (n := 384) rfl rfl (hi.2.2.2.1 c1) ?_
      refine xr_ias (n := 12) rfl rfl (hi.2.2.2.2.1 c1) ?_
      refine xr_go 2 (pc' := 87) (ls' := [some (.inr (some (36, 0))), some (.inl a1), some (.inl a2), some (.inl (l3 + 1))]) (st' := []) (s' := (tm_wr μ 84 0 ((l3).toNatClampNeg) (μ 48 0 ((((12 * a1) + l3) : Int32).toNatClampNeg)))) rfl ?_
      try simp only [if_neg c1] at h
      exact ih (l3 + 1) (tm_wr μ 84 0 ((l3).toNatClampNeg) (μ 48 0 ((((12 * a1) + l3) : Int32).toNatClampNeg))) (hi.2.2.2.2.2 c1) h
def cs_140 (a1 : Int32) (a2 : Int32) (μ : tm_M) : tm_M := (cs_140_87 a1 a2 64 0 (tm_wr (tm_wr (tm_wr (tm_wr (tm_wr (tm_wr (tm_wr μ 85 0 0 (μ 41 0 ((a1).toNatClampNeg))) 85 0 1 (μ 42 0 ((a1).toNatClampNeg))) 85 0 2 (μ 43 0 ((a1).toNatClampNeg))) 85 0 3 (μ 44 0 ((a1).toNatClampNeg))) 85 0 4 (μ 45 0 ((a1).toNatClampNeg))) 85 0 5 (μ 46 0 ((a1).toNatClampNeg))) 85 0 6 (μ 47 0 ((a1).toNatClampNeg))))
def ci_140 (a1 : Int32) (a2 : Int32) (μ : tm_M) : Prop := (tm_ix a1 32 = true) ∧ (ci_140_87 a1 a2 64 0 (tm_wr (tm_wr (tm_wr (tm_wr (tm_wr (tm_wr (tm_wr μ 85 0 0 (μ 41 0 ((a1).toNatClampNeg))) 85 0 1 (μ 42 0 ((a1).toNatClampNeg))) 85 0 2 (μ 43 0 ((a1).toNatClampNeg))) 85 0 3 (μ 44 0 ((a1).toNatClampNeg))) 85 0 4 (μ 45 0 ((a1).toNatClampNeg))) 85 0 5 (μ 46 0 ((a1).toNatClampNeg))) 85 0 6 (μ 47 0 ((a1).toNatClampNeg))))
set_option maxHeartbeats 4000000 in
set_option maxRecDepth 10000 in
theorem tf_140 {a1 : Int32} {a2 : Int32} (hi : ci_140 a1 a2 μ) (h : Q none (cs_140 a1 a2 μ)) : xm_MW (tm_I L xs) (d + 2) 140 [.inr (some (36, 0)), .inl a1, .inl a2] μ Q := by
  refine xr_in2 [some (.inr (some (36, 0))), some (.inl a1), some (.inl a2), none] rfl rfl ?_
  unfold cs_140 at h
  unfold ci_140 at hi
  refine xr_go 6 (pc' := 10) (ls' := [some (.inr (some (36, 0))), some (.inl a1), some (.inl a2), none]) (st' := [.inl a1, .inr (some (41, 0)), .inl 0, .inr (some (85, 0))]) (s' := μ) rfl ?_
  refine xr_ial (n := 32) rfl rfl (hi.1) ?_
  refine xr_iasl (n := 7) 0 rfl rfl ?_
  refine xr_go 6 (pc' := 22) (ls' := [some (.inr (some (36, 0))), some (.inl a1), some (.inl a2), none]) (st' := [.inl a1, .inr (some (42, 0)), .inl 1, .inr (some (85, 0))]) (s' := (tm_wr μ 85 0 0 (μ 41 0 ((a1).toNatClampNeg)))) rfl ?_
  refine xr_ial (n := 32) rfl rfl (hi.1) ?_
  refine xr_iasl (n := 7) 1 rfl rfl ?_
  refine xr_go 6 (pc' := 34) (ls' := [some (.inr (some (36, 0))), some (.inl a1), some (.inl a2), none]) (st' := [.inl a1, .inr (some (43, 0)), .inl 2, .inr (some (85, 0))]) (s' := (tm_wr (tm_wr μ 85 0 0 (μ 41 0 ((a1).toNatClampNeg))) 85 0 1 (μ 42 0 ((a1).toNatClampNeg)))) rfl ?_
  refine xr_ial (n := 32) rfl rfl (hi.1) ?_
  refine xr_iasl (n := 7) 2 rfl rfl ?_
  refine xr_go 6 (pc' := 46) (ls' := [some (.inr (some (36, 0))), some (.inl a1), some (.inl a2), none]) (st' := [.inl a1, .inr (some (44, 0)), .inl 3, .inr (some (85, 0))]) (s' := (tm_wr (tm_wr (tm_wr μ 85 0 0 (μ 41 0 ((a1).toNatClampNeg))) 85 0 1 (μ 42 0 ((a1).toNatClampNeg))) 85 0 2 (μ 43 0 ((a1).toNatClampNeg)))) rfl ?_
  refine xr_ial (n := 32) rfl rfl (hi.1) ?_
  refine xr_iasl (n := 7) 3 rfl rfl ?_
  refine xr_go 6 (pc' := 58) (ls' := [some (.inr (some (36, 0))), some (.inl a1), some (.inl a2), none]) (st' := [.inl a1, .inr (some (45, 0)), .inl 4, .inr (some (85, 0))]) (s' := (tm_wr (tm_wr (tm_wr (tm_wr μ 85 0 0 (μ 41 0 ((a1).toNatClampNeg))) 85 0 1 (μ 42 0 ((a1).toNatClampNeg))) 85 0 2 (μ 43 0 ((a1).toNatClampNeg))) 85 0 3 (μ 44 0 ((a1).toNatClampNeg)))) rfl ?_
  refine xr_ial (n := 32) rfl rfl (hi.1) ?_
  refine xr_iasl (n := 7) 4 rfl rfl ?_
  refine xr_go 6 (pc' := 70) (ls' := [some (.inr (some (36, 0))), some (.inl a1), some (.inl a2), none]) (st' := [.inl a1, .inr (some (46, 0)), .inl 5, .inr (some (85, 0))]) (s' := (tm_wr (tm_wr (tm_wr (tm_wr (tm_wr μ 85 0 0 (μ 41 0 ((a1).toNatClampNeg))) 85 0 1 (μ 42 0 ((a1).toNatClampNeg))) 85 0 2 (μ 43 0 ((a1).toNatClampNeg))) 85 0 3 (μ 44 0 ((a1).toNatClampNeg))) 85 0 4 (μ 45 0 ((a1).toNatClampNeg)))) rfl ?_
  refine xr_ial (n := 32) rfl rfl (hi.1) ?_
  refine xr_iasl (n := 7) 5 rfl rfl ?_
  refine xr_go 6 (pc' := 83) (ls' := [some (.inr (some (36, 0))), some (.inl a1), some (.inl a2), none]) (st' := [.inl a1, .inr (some (47, 0)), .inl 6, .inr (some (85, 0))]) (s' := (tm_wr (tm_wr (tm_wr (tm_wr (tm_wr (tm_wr μ 85 0 0 (μ 41 0 ((a1).toNatClampNeg))) 85 0 1 (μ 42 0 ((a1).toNatClampNeg))) 85 0 2 (μ 43 0 ((a1).toNatClampNeg))) 85 0 3 (μ 44 0 ((a1).toNatClampNeg))) 85 0 4 (μ 45 0 ((a1).toNatClampNeg))) 85 0 5 (μ 46 0 ((a1).toNatClampNeg)))) rfl ?_
  refine xr_ial (n := 32) rfl rfl (hi.1) ?_
  refine xr_iasl (n := 7) 6 rfl rfl ?_
  refine xr_go 2 (pc' := 87) (ls' := [some (.inr (some (36, 0))), some (.inl a1), some (.inl a2), some (.inl 0)]) (st' := []) (s' := (tm_wr (tm_wr (tm_wr (tm_wr (tm_wr (tm_wr (tm_wr μ 85 0 0 (μ 41 0 ((a1).toNatClampNeg))) 85 0 1 (μ 42 0 ((a1).toNatClampNeg))) 85 0 2 (μ 43 0 ((a1).toNatClampNeg))) 85 0 3 (μ 44 0 ((a1).toNatClampNeg))) 85 0 4 (μ 45 0 ((a1).toNatClampNeg))) 85 0 5 (μ 46 0 ((a1).toNatClampNeg))) 85 0 6 (μ 47 0 ((a1).toNatClampNeg)))) rfl ?_
  exact tl_140_87 64 0 (tm_wr (tm_wr (tm_wr (tm_wr (tm_wr (tm_wr (tm_wr μ 85 0 0 (μ 41 0 ((a1).toNatClampNeg))) 85 0 1 (μ 42 0 ((a1).toNatClampNeg))) 85 0 2 (μ 43 0 ((a1).toNatClampNeg))) 85 0 3 (μ 44 0 ((a1).toNatClampNeg))) 85 0 4 (μ 45 0 ((a1).toNatClampNeg))) 85 0 5 (μ 46 0 ((a1).toNatClampNeg))) 85 0 6 (μ 47 0 ((a1).toNatClampNeg))) (hi.2) h
-- BootNetModel.leased(II)Z
def cv_142 (a1 : Int32) (a2 : Int32) (μ : tm_M) : Int32 := ((if (μ 55 0 ((a1).toNatClampNeg)) ≤ (μ 36 0 3) then 0 else ((if (μ 54 0 ((a1).toNatClampNeg)) = a2 then 1 else 0) : Int32)) : Int32)
def ci_142 (a1 : Int32) (a2 : Int32) (μ : tm_M) : Prop := (tm_ix a1 30 = true)
theorem cz_142 {a1 : Int32} {a2 : Int32} {μ : tm_M} : cv_142 a1 a2 μ = 0 ∨ cv_142 a1 a2 μ = 1 := by
  unfold cv_142
  (repeat' split) <;> first | exact Or.inl rfl | exact Or.inr rfl
set_option maxHeartbeats 4000000 in
set_option maxRecDepth 10000 in
theorem tf_142 {a1 : Int32} {a2 : Int32} (hi : ci_142 a1 a2 μ) (h : Q (some (.inl (cv_142 a1 a2 μ))) μ) : xm_MW (tm_I L xs) (d + 1) 142 [.inr (some (36, 0)), .inl a1, .inl a2] μ Q := by
  refine xr_in2 [some (.inr (some (36, 0))), some (.inl a1), some (.inl a2)] rfl rfl ?_
  unfold cv_142 at h
  unfold ci_142 at hi
  refine xr_go 3 (pc' := 5) (ls' := [some (.inr (some (36, 0))), some (.inl a1), some (.inl a2)]) (st' := [.inl a1, .inr (some (55, 0))]) (s' := μ) rfl ?_
  refine xr_ial (n := 30) rfl rfl (hi) ?_
  suffices hj1 : xr_t (tm_I L xs) (d + 0) 142 28 [some (.inr (some (36, 0))), some (.inl a1), some (.inl a2)] [.inl ((if (μ 55 0 ((a1).toNatClampNeg)) ≤ (μ 36 0 3) then 0 else ((if (μ 54 0 ((a1).toNatClampNeg)) = a2 then 1 else 0) : Int32)) : Int32)] μ Q by
    refine xr_br 3 (c := (μ 55 0 ((a1).toNatClampNeg)) ≤ (μ 36 0 3)) inferInstance (a := 27) (b := 13) (ls' := [some (.inr (some (36, 0))), some (.inl a1), some (.inl a2)]) (st' := []) (s' := μ) rfl (fun c1 => ?_) (fun c1 => ?_)
    · skip
      refine xr_go 1 (pc' := 28) (ls' := [some (.inr (some (36, 0))), some (.inl a1), some (.inl a2)]) (st' := [.inl 0]) (s' := μ) rfl ?_
      have ehj1 : ((if (μ 55 0 ((a1).toNatClampNeg)) ≤ (μ 36 0 3) then 0 else ((if (μ 54 0 ((a1).toNatClampNeg)) = a2 then 1 else 0) : Int32)) : Int32) = 0 := by first | rfl | simp only [if_pos c1]
      rw [ehj1] at hj1
      exact hj1
    · skip
      refine xr_go 3 (pc' := 18) (ls' := [some (.inr (some (36, 0))), some (.inl a1), some (.inl a2)]) (st' := [.inl a1, .inr (some (54, 0))]) (s' := μ) rfl ?_
      refine xr_ial (n := 30) rfl rfl (hi) ?_
      suffices hj2 : xr_t (tm_I L xs) (d + 0) 142 28 [some (.inr (some (36, 0))), some (.inl a1), some (.inl a2)] [.inl ((if (μ 54 0 ((a1).toNatClampNeg)) = a2 then 1 else 0) : Int32)] μ Q by
        refine xr_br 2 (c := (μ 54 0 ((a1).toNatClampNeg)) = a2) inferInstance (a := 23) (b := 27) (ls' := [some (.inr (some (36, 0))), some (.inl a1), some (.inl a2)]) (st' := []) (s' := μ) rfl (fun c2 => ?_) (fun c2 => ?_)
        · skip
          refine xr_go 2 (pc' := 28) (ls' := [some (.inr (some (36, 0))), some (.inl a1), some (.inl a2)]) (st' := [.inl 1]) (s' := μ) rfl ?_
          have ehj2 : ((if (μ 54 0 ((a1).toNatClampNeg)) = a2 then 1 else 0) : Int32) = 1 := by first | rfl | simp only [if_pos c2]
          rw [ehj2] at hj2
          exact hj2
        · skip
          refine xr_go 1 (pc' := 28) (ls' := [some (.inr (some (36, 0))), some (.inl a1), some (.inl a2)]) (st' := [.inl 0]) (s' := μ) rfl ?_
          have ehj2 : ((if (μ 54 0 ((a1).toNatClampNeg)) = a2 then 1 else 0) : Int32) = 0 := by first | rfl | simp only [if_neg c2]
          rw [ehj2] at hj2
          exact hj2
      have ehj1 : ((if (μ 55 0 ((a1).toNatClampNeg)) ≤ (μ 36 0 3) then 0 else ((if (μ 54 0 ((a1).toNatClampNeg)) = a2 then 1 else 0) : Int32)) : Int32) = ((if (μ 54 0 ((a1).toNatClampNeg)) = a2 then 1 else 0) : Int32) := by first | rfl | simp only [if_neg c1]
      rw [ehj1] at hj1
      exact hj1
  exact xr_zr rfl (fun _ => (by (repeat' split) <;> first | exact Or.inl rfl | exact Or.inr rfl)) h
-- BootNetModel.free(II)Z
def cv_144 (a1 : Int32) (a2 : Int32) (μ : tm_M) : Int32 := ((if (μ 36 0 3) < (μ 58 0 ((a1).toNatClampNeg)) then 0 else ((if ((if (μ 55 0 ((a1).toNatClampNeg)) ≤ (μ 36 0 3) then ((if (μ 57 0 ((a1).toNatClampNeg)) ≤ (μ 36 0 3) then 0 else ((if (μ 56 0 ((a1).toNatClampNeg)) = a2 then 0 else 1) : Int32)) : Int32) else ((if (μ 54 0 ((a1).toNatClampNeg)) = a2 then ((if (μ 57 0 ((a1).toNatClampNeg)) ≤ (μ 36 0 3) then 0 else ((if (μ 56 0 ((a1).toNatClampNeg)) = a2 then 0 else 1) : Int32)) : Int32) else 1) : Int32)) : Int32) = 0 then ((if (μ 39 0 ((a1).toNatClampNeg)) = 0 then 1 else ((if (μ 39 0 ((a1).toNatClampNeg)) = (a2 + 1) then 1 else 0) : Int32)) : Int32) else 0) : Int32)) : Int32)
def ci_144 (a1 : Int32) (a2 : Int32) (μ : tm_M) : Prop := (tm_ix a1 30 = true)
theorem cz_144 {a1 : Int32} {a2 : Int32} {μ : tm_M} : cv_144 a1 a2 μ = 0 ∨ cv_144 a1 a2 μ = 1 := by
  unfold cv_144
  (repeat' split) <;> first | exact Or.inl rfl | exact Or.inr rfl
set_option maxHeartbeats 4000000 in
set_option maxRecDepth 10000 in
theorem tf_144 {a1 : Int32} {a2 : Int32} (hi : ci_144 a1 a2 μ) (h : Q (some (.inl (cv_144 a1 a2 μ))) μ) : xm_MW (tm_I L xs) (d + 1) 144 [.inr (some (36, 0)), .inl a1, .inl a2] μ Q := by
  refine xr_in2 [some (.inr (some (36, 0))), some (.inl a1), some (.inl a2), none] rfl rfl ?_
  unfold cv_144 at h
  unfold ci_144 at hi
  refine xr_go 3 (pc' := 5) (ls' := [some (.inr (some (36, 0))), some (.inl a1), some (.inl a2), none]) (st' := [.inl a1, .inr (some (55, 0))]) (s' := μ) rfl ?_
  refine xr_ial (n := 30) rfl rfl (hi) ?_
  suffices hj1 : xr_t (tm_I L xs) (d + 0) 144 51 [some (.inr (some (36, 0))), some (.inl a1), some (.inl a2), none] [.inl ((if (μ 55 0 ((a1).toNatClampNeg)) ≤ (μ 36 0 3) then ((if (μ 57 0 ((a1).toNatClampNeg)) ≤ (μ 36 0 3) then 0 else ((if (μ 56 0 ((a1).toNatClampNeg)) = a2 then 0 else 1) : Int32)) : Int32) else ((if (μ 54 0 ((a1).toNatClampNeg)) = a2 then ((if (μ 57 0 ((a1).toNatClampNeg)) ≤ (μ 36 0 3) then 0 else ((if (μ 56 0 ((a1).toNatClampNeg)) = a2 then 0 else 1) : Int32)) : Int32) else 1) : Int32)) : Int32)] μ Q by
    refine xr_br 3 (c := (μ 55 0 ((a1).toNatClampNeg)) ≤ (μ 36 0 3)) inferInstance (a := 23) (b := 13) (ls' := [some (.inr (some (36, 0))), some (.inl a1), some (.inl a2), none]) (st' := []) (s' := μ) rfl (fun c1 => ?_) (fun c1 => ?_)
    · skip
      refine xr_go 3 (pc' := 28) (ls' := [some (.inr (some (36, 0))), some (.inl a1), some (.inl a2), none]) (st' := [.inl a1, .inr (some (57, 0))]) (s' := μ) rfl ?_
      refine xr_ial (n := 30) rfl rfl (hi) ?_
      suffices hj2 : xr_t (tm_I L xs) (d + 0) 144 51 [some (.inr (some (36, 0))), some (.inl a1), some (.inl a2), none] [.inl ((if (μ 57 0 ((a1).toNatClampNeg)) ≤ (μ 36 0 3) then 0 else ((if (μ 56 0 ((a1).toNatClampNeg)) = a2 then 0 else 1) : Int32)) : Int32)] μ Q by
        refine xr_br 3 (c := (μ 57 0 ((a1).toNatClampNeg)) ≤ (μ 36 0 3)) inferInstance (a := 50) (b := 36) (ls' := [some (.inr (some (36, 0))), some (.inl a1), some (.inl a2), none]) (st' := []) (s' := μ) rfl (fun c2 => ?_) (fun c2 => ?_)
        · skip
          refine xr_go 1 (pc' := 51) (ls' := [some (.inr (some (36, 0))), some (.inl a1), some (.inl a2), none]) (st' := [.inl 0]) (s' := μ) rfl ?_
          have ehj2 : ((if (μ 57 0 ((a1).toNatClampNeg)) ≤ (μ 36 0 3) then 0 else ((if (μ 56 0 ((a1).toNatClampNeg)) = a2 then 0 else 1) : Int32)) : Int32) = 0 := by first | rfl | simp only [if_pos c2]
          rw [ehj2] at hj2
          exact hj2
        · skip
          refine xr_go 3 (pc' := 41) (ls' := [some (.inr (some (36, 0))), some (.inl a1), some (.inl a2), none]) (st' := [.inl a1, .inr (some (56, 0))]) (s' := μ) rfl ?_
          refine xr_ial (n := 30) rfl rfl (hi) ?_
          suffices hj3 : xr_t (tm_I L xs) (d + 0) 144 51 [some (.inr (some (36, 0))), some (.inl a1), some (.inl a2), none] [.inl ((if (μ 56 0 ((a1).toNatClampNeg)) = a2 then 0 else 1) : Int32)] μ Q by
            refine xr_br 2 (c := (μ 56 0 ((a1).toNatClampNeg)) = a2) inferInstance (a := 50) (b := 46) (ls' := [some (.inr (some (36, 0))), some (.inl a1), some (.inl a2), none]) (st' := []) (s' := μ) rfl (fun c3 => ?_) (fun c3 => ?_)
            · skip
              refine xr_go 1 (pc' := 51) (ls' := [some (.inr (some (36, 0))), some (.inl a1), some (.inl a2), none]) (st' := [.inl 0]) (s' := μ) rfl ?_
              have ehj3 : ((if (μ 56 0 ((a1).toNatClampNeg)) = a2 then 0 else 1) : Int32) = 0 := by first | rfl | simp only [if_pos c3]
              rw [ehj3] at hj3
              exact hj3
            · skip
              refine xr_go 2 (pc' := 51) (ls' := [some (.inr (some (36, 0))), some (.inl a1), some (.inl a2), none]) (st' := [.inl 1]) (s' := μ) rfl ?_
              have ehj3 : ((if (μ 56 0 ((a1).toNatClampNeg)) = a2 then 0 else 1) : Int32) = 1 := by first | rfl | simp only [if_neg c3]
              rw [ehj3] at hj3
              exact hj3
          have ehj2 : ((if (μ 57 0 ((a1).toNatClampNeg)) ≤ (μ 36 0 3) then 0 else ((if (μ 56 0 ((a1).toNatClampNeg)) = a2 then 0 else 1) : Int32)) : Int32) = ((if (μ 56 0 ((a1).toNatClampNeg)) = a2 then 0 else 1) : Int32) := by first | rfl | simp only [if_neg c2]
          rw [ehj2] at hj2
          exact hj2
      have ehj1 : ((if (μ 55 0 ((a1).toNatClampNeg)) ≤ (μ 36 0 3) then ((if (μ 57 0 ((a1).toNatClampNeg)) ≤ (μ 36 0 3) then 0 else ((if (μ 56 0 ((a1).toNatClampNeg)) = a2 then 0 else 1) : Int32)) : Int32) else ((if (μ 54 0 ((a1).toNatClampNeg)) = a2 then ((if (μ 57 0 ((a1).toNatClampNeg)) ≤ (μ 36 0 3) then 0 else ((if (μ 56 0 ((a1).toNatClampNeg)) = a2 then 0 else 1) : Int32)) : Int32) else 1) : Int32)) : Int32) = ((if (μ 57 0 ((a1).toNatClampNeg)) ≤ (μ 36 0 3) then 0 else ((if (μ 56 0 ((a1).toNatClampNeg)) = a2 then 0 else 1) : Int32)) : Int32) := by first | rfl | simp only [if_pos c1]
      rw [ehj1] at hj1
      exact hj1
    · skip
      refine xr_go 3 (pc' := 18) (ls' := [some (.inr (some (36, 0))), some (.inl a1), some (.inl a2), none]) (st' := [.inl a1, .inr (some (54, 0))]) (s' := μ) rfl ?_
      refine xr_ial (n := 30) rfl rfl (hi) ?_
      suffices hj4 : xr_t (tm_I L xs) (d + 0) 144 51 [some (.inr (some (36, 0))), some (.inl a1), some (.inl a2), none] [.inl ((if (μ 54 0 ((a1).toNatClampNeg)) = a2 then ((if (μ 57 0 ((a1).toNatClampNeg)) ≤ (μ 36 0 3) then 0 else ((if (μ 56 0 ((a1).toNatClampNeg)) = a2 then 0 else 1) : Int32)) : Int32) else 1) : Int32)] μ Q by
        refine xr_br 2 (c := (μ 54 0 ((a1).toNatClampNeg)) = a2) inferInstance (a := 23) (b := 46) (ls' := [some (.inr (some (36, 0))), some (.inl a1), some (.inl a2), none]) (st' := []) (s' := μ) rfl (fun c4 => ?_) (fun c4 => ?_)
        · skip
          refine xr_go 3 (pc' := 28) (ls' := [some (.inr (some (36, 0))), some (.inl a1), some (.inl a2), none]) (st' := [.inl a1, .inr (some (57, 0))]) (s' := μ) rfl ?_
          refine xr_ial (n := 30) rfl rfl (hi) ?_
          suffices hj5 : xr_t (tm_I L xs) (d + 0) 144 51 [some (.inr (some (36, 0))), some (.inl a1), some (.inl a2), none] [.inl ((if (μ 57 0 ((a1).toNatClampNeg)) ≤ (μ 36 0 3) then 0 else ((if (μ 56 0 ((a1).toNatClampNeg)) = a2 then 0 else 1) : Int32)) : Int32)] μ Q by
            refine xr_br 3 (c := (μ 57 0 ((a1).toNatClampNeg)) ≤ (μ 36 0 3)) inferInstance (a := 50) (b := 36) (ls' := [some (.inr (some (36, 0))), some (.inl a1), some (.inl a2), none]) (st' := []) (s' := μ) rfl (fun c5 => ?_) (fun c5 => ?_)
            · skip
              refine xr_go 1 (pc' := 51) (ls' := [some (.inr (some (36, 0))), some (.inl a1), some (.inl a2), none]) (st' := [.inl 0]) (s' := μ) rfl ?_
              have ehj5 : ((if (μ 57 0 ((a1).toNatClampNeg)) ≤ (μ 36 0 3) then 0 else ((if (μ 56 0 ((a1).toNatClampNeg)) = a2 then 0 else 1) : Int32)) : Int32) = 0 := by first | rfl | simp only [if_pos c5]
              rw [ehj5] at hj5
              exact hj5
            · skip
              refine xr_go 3 (pc' := 41) (ls' := [some (.inr (some (36, 0))), some (.inl a1), some (.inl a2), none]) (st' := [.inl a1, .inr (some (56, 0))]) (s' := μ) rfl ?_
              refine xr_ial (n := 30) rfl rfl (hi) ?_
              suffices hj6 : xr_t (tm_I L xs) (d + 0) 144 51 [some (.inr (some (36, 0))), some (.inl a1), some (.inl a2), none] [.inl ((if (μ 56 0 ((a1).toNatClampNeg)) = a2 then 0 else 1) : Int32)] μ Q by
                refine xr_br 2 (c := (μ 56 0 ((a1).toNatClampNeg)) = a2) inferInstance (a := 50) (b := 46) (ls' := [some (.inr (some (36, 0))), some (.inl a1), some (.inl a2), none]) (st' := []) (s' := μ) rfl (fun c6 => ?_) (fun c6 => ?_)
                · skip
                  refine xr_go 1 (pc' := 51) (ls' := [some (.inr (some (36, 0))), some (.inl a1), some (.inl a2), none]) (st' := [.inl 0]) (s' := μ) rfl ?_
                  have ehj6 : ((if (μ 56 0 ((a1).toNatClampNeg)) = a2 then 0 else 1) : Int32) = 0 := by first | rfl | simp only [if_pos c6]
                  rw [ehj6] at hj6
                  exact hj6
                · skip
                  refine xr_go 2 (pc' := 51) (ls' := [some (.inr (some (36, 0))), some (.inl a1), some (.inl a2), none]) (st' := [.inl 1]) (s' := μ) rfl ?_
                  have ehj6 : ((if (μ 56 0 ((a1).toNatClampNeg)) = a2 then 0 else 1) : Int32) = 1 := by first | rfl | simp only [if_neg c6]
                  rw [ehj6] at hj6
                  exact hj6
              have ehj5 : ((if (μ 57 0 ((a1).toNatClampNeg)) ≤ (μ 36 0 3) then 0 else ((if (μ 56 0 ((a1).toNatClampNeg)) = a2 then 0 else 1) : Int32)) : Int32) = ((if (μ 56 0 ((a1).toNatClampNeg)) = a2 then 0 else 1) : Int32) := by first | rfl | simp only [if_neg c5]
              rw [ehj5] at hj5
              exact hj5
          have ehj4 : ((if (μ 54 0 ((a1).toNatClampNeg)) = a2 then ((if (μ 57 0 ((a1).toNatClampNeg)) ≤ (μ 36 0 3) then 0 else ((if (μ 56 0 ((a1).toNatClampNeg)) = a2 then 0 else 1) : Int32)) : Int32) else 1) : Int32) = ((if (μ 57 0 ((a1).toNatClampNeg)) ≤ (μ 36 0 3) then 0 else ((if (μ 56 0 ((a1).toNatClampNeg)) = a2 then 0 else 1) : Int32)) : Int32) := by first | rfl | simp only [if_pos c4]
          rw [ehj4] at hj4
          exact hj4
        · skip
          refine xr_go 2 (pc' := 51) (ls' := [some (.inr (some (36, 0))), some (.inl a1), some (.inl a2), none]) (st' := [.inl 1]) (s' := μ) rfl ?_
          have ehj4 : ((if (μ 54 0 ((a1).toNatClampNeg)) = a2 then ((if (μ 57 0 ((a1).toNatClampNeg)) ≤ (μ 36 0 3) then 0 else ((if (μ 56 0 ((a1).toNatClampNeg)) = a2 then 0 else 1) : Int32)) : Int32) else 1) : Int32) = 1 := by first | rfl | simp only [if_neg c4]
          rw [ehj4] at hj4
          exact hj4
      have ehj1 : ((if (μ 55 0 ((a1).toNatClampNeg)) ≤ (μ 36 0 3) then ((if (μ 57 0 ((a1).toNatClampNeg)) ≤ (μ 36 0 3) then 0 else ((if (μ 56 0 ((a1).toNatClampNeg)) = a2 then 0 else 1) : Int32)) : Int32) else ((if (μ 54 0 ((a1).toNatClampNeg)) = a2 then ((if (μ 57 0 ((a1).toNatClampNeg)) ≤ (μ 36 0 3) then 0 else ((if (μ 56 0 ((a1).toNatClampNeg)) = a2 then 0 else 1) : Int32)) : Int32) else 1) : Int32)) : Int32) = ((if (μ 54 0 ((a1).toNatClampNeg)) = a2 then ((if (μ 57 0 ((a1).toNatClampNeg)) ≤ (μ 36 0 3) then 0 else ((if (μ 56 0 ((a1).toNatClampNeg)) = a2 then 0 else 1) : Int32)) : Int32) else 1) : Int32) := by first | rfl | simp only [if_neg c1]
      rw [ehj1] at hj1
      exact hj1
  refine xr_go 4 (pc' := 57) (ls' := [some (.inr (some (36, 0))), some (.inl a1), some (.inl a2), some (.inl ((if (μ 55 0 ((a1).toNatClampNeg)) ≤ (μ 36 0 3) then ((if (μ 57 0 ((a1).toNatClampNeg)) ≤ (μ 36 0 3) then 0 else ((if (μ 56 0 ((a1).toNatClampNeg)) = a2 then 0 else 1) : Int32)) : Int32) else ((if (μ 54 0 ((a1).toNatClampNeg)) = a2 then ((if (μ 57 0 ((a1).toNatClampNeg)) ≤ (μ 36 0 3) then 0 else ((if (μ 56 0 ((a1).toNatClampNeg)) = a2 then 0 else 1) : Int32)) : Int32) else 1) : Int32)) : Int32))]) (st' := [.inl a1, .inr (some (58, 0))]) (s' := μ) rfl ?_
  refine xr_ial (n := 30) rfl rfl (hi) ?_
  suffices hj7 : xr_t (tm_I L xs) (d + 0) 144 95 [some (.inr (some (36, 0))), some (.inl a1), some (.inl a2), some (.inl ((if (μ 55 0 ((a1).toNatClampNeg)) ≤ (μ 36 0 3) then ((if (μ 57 0 ((a1).toNatClampNeg)) ≤ (μ 36 0 3) then 0 else ((if (μ 56 0 ((a1).toNatClampNeg)) = a2 then 0 else 1) : Int32)) : Int32) else ((if (μ 54 0 ((a1).toNatClampNeg)) = a2 then ((if (μ 57 0 ((a1).toNatClampNeg)) ≤ (μ 36 0 3) then 0 else ((if (μ 56 0 ((a1).toNatClampNeg)) = a2 then 0 else 1) : Int32)) : Int32) else 1) : Int32)) : Int32))] [.inl ((if (μ 36 0 3) < (μ 58 0 ((a1).toNatClampNeg)) then 0 else ((if ((if (μ 55 0 ((a1).toNatClampNeg)) ≤ (μ 36 0 3) then ((if (μ 57 0 ((a1).toNatClampNeg)) ≤ (μ 36 0 3) then 0 else ((if (μ 56 0 ((a1).toNatClampNeg)) = a2 then 0 else 1) : Int32)) : Int32) else ((if (μ 54 0 ((a1).toNatClampNeg)) = a2 then ((if (μ 57 0 ((a1).toNatClampNeg)) ≤ (μ 36 0 3) then 0 else ((if (μ 56 0 ((a1).toNatClampNeg)) = a2 then 0 else 1) : Int32)) : Int32) else 1) : Int32)) : Int32) = 0 then ((if (μ 39 0 ((a1).toNatClampNeg)) = 0 then 1 else ((if (μ 39 0 ((a1).toNatClampNeg)) = (a2 + 1) then 1 else 0) : Int32)) : Int32) else 0) : Int32)) : Int32)] μ Q by
    refine xr_br 3 (c := (μ 36 0 3) < (μ 58 0 ((a1).toNatClampNeg))) inferInstance (a := 94) (b := 65) (ls' := [some (.inr (some (36, 0))), some (.inl a1), some (.inl a2), some (.inl ((if (μ 55 0 ((a1).toNatClampNeg)) ≤ (μ 36 0 3) then ((if (μ 57 0 ((a1).toNatClampNeg)) ≤ (μ 36 0 3) then 0 else ((if (μ 56 0 ((a1).toNatClampNeg)) = a2 then 0 else 1) : Int32)) : Int32) else ((if (μ 54 0 ((a1).toNatClampNeg)) = a2 then ((if (μ 57 0 ((a1).toNatClampNeg)) ≤ (μ 36 0 3) then 0 else ((if (μ 56 0 ((a1).toNatClampNeg)) = a2 then 0 else 1) : Int32)) : Int32) else 1) : Int32)) : Int32))]) (st' := []) (s' := μ) rfl (fun c7 => ?_) (fun c7 => ?_)
    · skip
      refine xr_go 1 (pc' := 95) (ls' := [some (.inr (some (36, 0))), some (.inl a1), some (.inl a2), some (.inl ((if (μ 55 0 ((a1).toNatClampNeg)) ≤ (μ 36 0 3) then ((if (μ 57 0 ((a1).toNatClampNeg)) ≤ (μ 36 0 3) then 0 else ((if (μ 56 0 ((a1).toNatClampNeg)) = a2 then 0 else 1) : Int32)) : Int32) else ((if (μ 54 0 ((a1).toNatClampNeg)) = a2 then ((if (μ 57 0 ((a1).toNatClampNeg)) ≤ (μ 36 0 3) then 0 else ((if (μ 56 0 ((a1).toNatClampNeg)) = a2 then 0 else 1) : Int32)) : Int32) else 1) : Int32)) : Int32))]) (st' := [.inl 0]) (s' := μ) rfl ?_
      have ehj7 : ((if (μ 36 0 3) < (μ 58 0 ((a1).toNatClampNeg)) then 0 else ((if ((if (μ 55 0 ((a1).toNatClampNeg)) ≤ (μ 36 0 3) then ((if (μ 57 0 ((a1).toNatClampNeg)) ≤ (μ 36 0 3) then 0 else ((if (μ 56 0 ((a1).toNatClampNeg)) = a2 then 0 else 1) : Int32)) : Int32) else ((if (μ 54 0 ((a1).toNatClampNeg)) = a2 then ((if (μ 57 0 ((a1).toNatClampNeg)) ≤ (μ 36 0 3) then 0 else ((if (μ 56 0 ((a1).toNatClampNeg)) = a2 then 0 else 1) : Int32)) : Int32) else 1) : Int32)) : Int32) = 0 then ((if (μ 39 0 ((a1).toNatClampNeg)) = 0 then 1 else ((if (μ 39 0 ((a1).toNatClampNeg)) = (a2 + 1) then 1 else 0) : Int32)) : Int32) else 0) : Int32)) : Int32) = 0 := by first | rfl | simp only [if_pos c7]
      rw [ehj7] at hj7
      exact hj7
    · skip
      suffices hj8 : xr_t (tm_I L xs) (d + 0) 144 95 [some (.inr (some (36, 0))), some (.inl a1), some (.inl a2), some (.inl ((if (μ 55 0 ((a1).toNatClampNeg)) ≤ (μ 36 0 3) then ((if (μ 57 0 ((a1).toNatClampNeg)) ≤ (μ 36 0 3) then 0 else ((if (μ 56 0 ((a1).toNatClampNeg)) = a2 then 0 else 1) : Int32)) : Int32) else ((if (μ 54 0 ((a1).toNatClampNeg)) = a2 then ((if (μ 57 0 ((a1).toNatClampNeg)) ≤ (μ 36 0 3) then 0 else ((if (μ 56 0 ((a1).toNatClampNeg)) = a2 then 0 else 1) : Int32)) : Int32) else 1) : Int32)) : Int32))] [.inl ((if ((if (μ 55 0 ((a1).toNatClampNeg)) ≤ (μ 36 0 3) then ((if (μ 57 0 ((a1).toNatClampNeg)) ≤ (μ 36 0 3) then 0 else ((if (μ 56 0 ((a1).toNatClampNeg)) = a2 then 0 else 1) : Int32)) : Int32) else ((if (μ 54 0 ((a1).toNatClampNeg)) = a2 then ((if (μ 57 0 ((a1).toNatClampNeg)) ≤ (μ 36 0 3) then 0 else ((if (μ 56 0 ((a1).toNatClampNeg)) = a2 then 0 else 1) : Int32)) : Int32) else 1) : Int32)) : Int32) = 0 then ((if (μ 39 0 ((a1).toNatClampNeg)) = 0 then 1 else ((if (μ 39 0 ((a1).toNatClampNeg)) = (a2 + 1) then 1 else 0) : Int32)) : Int32) else 0) : Int32)] μ Q by
        refine xr_br 2 (c := ((if (μ 55 0 ((a1).toNatClampNeg)) ≤ (μ 36 0 3) then ((if (μ 57 0 ((a1).toNatClampNeg)) ≤ (μ 36 0 3) then 0 else ((if (μ 56 0 ((a1).toNatClampNeg)) = a2 then 0 else 1) : Int32)) : Int32) else ((if (μ 54 0 ((a1).toNatClampNeg)) = a2 then ((if (μ 57 0 ((a1).toNatClampNeg)) ≤ (μ 36 0 3) then 0 else ((if (μ 56 0 ((a1).toNatClampNeg)) = a2 then 0 else 1) : Int32)) : Int32) else 1) : Int32)) : Int32) = 0) inferInstance (a := 69) (b := 94) (ls' := [some (.inr (some (36, 0))), some (.inl a1), some (.inl a2), some (.inl ((if (μ 55 0 ((a1).toNatClampNeg)) ≤ (μ 36 0 3) then ((if (μ 57 0 ((a1).toNatClampNeg)) ≤ (μ 36 0 3) then 0 else ((if (μ 56 0 ((a1).toNatClampNeg)) = a2 then 0 else 1) : Int32)) : Int32) else ((if (μ 54 0 ((a1).toNatClampNeg)) = a2 then ((if (μ 57 0 ((a1).toNatClampNeg)) ≤ (μ 36 0 3) then 0 else ((if (μ 56 0 ((a1).toNatClampNeg)) = a2 then 0 else 1) : Int32)) : Int32) else 1) : Int32)) : Int32))]) (st' := []) (s' := μ) rfl (fun c8 => ?_) (fun c8 => ?_)
        · skip
          refine xr_go 3 (pc' := 74) (ls' := [some (.inr (some (36, 0))), some (.inl a1), some (.inl a2), some (.inl ((if (μ 55 0 ((a1).toNatClampNeg)) ≤ (μ 36 0 3) then ((if (μ 57 0 ((a1).toNatClampNeg)) ≤ (μ 36 0 3) then 0 else ((if (μ 56 0 ((a1).toNatClampNeg)) = a2 then 0 else 1) : Int32)) : Int32) else ((if (μ 54 0 ((a1).toNatClampNeg)) = a2 then ((if (μ 57 0 ((a1).toNatClampNeg)) ≤ (μ 36 0 3) then 0 else ((if (μ 56 0 ((a1).toNatClampNeg)) = a2 then 0 else 1) : Int32)) : Int32) else 1) : Int32)) : Int32))]) (st' := [.inl a1, .inr (some (39, 0))]) (s' := μ) rfl ?_
          refine xr_ial (n := 30) rfl rfl (hi) ?_
          suffices hj9 : xr_t (tm_I L xs) (d + 0) 144 95 [some (.inr (some (36, 0))), some (.inl a1), some (.inl a2), some (.inl ((if (μ 55 0 ((a1).toNatClampNeg)) ≤ (μ 36 0 3) then ((if (μ 57 0 ((a1).toNatClampNeg)) ≤ (μ 36 0 3) then 0 else ((if (μ 56 0 ((a1).toNatClampNeg)) = a2 then 0 else 1) : Int32)) : Int32) else ((if (μ 54 0 ((a1).toNatClampNeg)) = a2 then ((if (μ 57 0 ((a1).toNatClampNeg)) ≤ (μ 36 0 3) then 0 else ((if (μ 56 0 ((a1).toNatClampNeg)) = a2 then 0 else 1) : Int32)) : Int32) else 1) : Int32)) : Int32))] [.inl ((if (μ 39 0 ((a1).toNatClampNeg)) = 0 then 1 else ((if (μ 39 0 ((a1).toNatClampNeg)) = (a2 + 1) then 1 else 0) : Int32)) : Int32)] μ Q by
            refine xr_br 1 (c := (μ 39 0 ((a1).toNatClampNeg)) = 0) inferInstance (a := 90) (b := 78) (ls' := [some (.inr (some (36, 0))), some (.inl a1), some (.inl a2), some (.inl ((if (μ 55 0 ((a1).toNatClampNeg)) ≤ (μ 36 0 3) then ((if (μ 57 0 ((a1).toNatClampNeg)) ≤ (μ 36 0 3) then 0 else ((if (μ 56 0 ((a1).toNatClampNeg)) = a2 then 0 else 1) : Int32)) : Int32) else ((if (μ 54 0 ((a1).toNatClampNeg)) = a2 then ((if (μ 57 0 ((a1).toNatClampNeg)) ≤ (μ 36 0 3) then 0 else ((if (μ 56 0 ((a1).toNatClampNeg)) = a2 then 0 else 1) : Int32)) : Int32) else 1) : Int32)) : Int32))]) (st' := []) (s' := μ) rfl (fun c9 => ?_) (fun c9 => ?_)
            · skip
              refine xr_go 2 (pc' := 95) (ls' := [some (.inr (some (36, 0))), some (.inl a1), some (.inl a2), some (.inl ((if (μ 55 0 ((a1).toNatClampNeg)) ≤ (μ 36 0 3) then ((if (μ 57 0 ((a1).toNatClampNeg)) ≤ (μ 36 0 3) then 0 else ((if (μ 56 0 ((a1).toNatClampNeg)) = a2 then 0 else 1) : Int32)) : Int32) else ((if (μ 54 0 ((a1).toNatClampNeg)) = a2 then ((if (μ 57 0 ((a1).toNatClampNeg)) ≤ (μ 36 0 3) then 0 else ((if (μ 56 0 ((a1).toNatClampNeg)) = a2 then 0 else 1) : Int32)) : Int32) else 1) : Int32)) : Int32))]) (st' := [.inl 1]) (s' := μ) rfl ?_
              have ehj9 : ((if (μ 39 0 ((a1).toNatClampNeg)) = 0 then 1 else ((if (μ 39 0 ((a1).toNatClampNeg)) = (a2 + 1) then 1 else 0) : Int32)) : Int32) = 1 := by first | rfl | simp only [if_pos c9]
              rw [ehj9] at hj9
              exact hj9
            · skip
              refine xr_go 3 (pc' := 83) (ls' := [some (.inr (some (36, 0))), some (.inl a1), some (.inl a2), some (.inl ((if (μ 55 0 ((a1).toNatClampNeg)) ≤ (μ 36 0 3) then ((if (μ 57 0 ((a1).toNatClampNeg)) ≤ (μ 36 0 3) then 0 else ((if (μ 56 0 ((a1).toNatClampNeg)) = a2 then 0 else 1) : Int32)) : Int32) else ((if (μ 54 0 ((a1).toNatClampNeg)) = a2 then ((if (μ 57 0 ((a1).toNatClampNeg)) ≤ (μ 36 0 3) then 0 else ((if (μ 56 0 ((a1).toNatClampNeg)) = a2 then 0 else 1) : Int32)) : Int32) else 1) : Int32)) : Int32))]) (st' := [.inl a1, .inr (some (39, 0))]) (s' := μ) rfl ?_
              refine xr_ial (n := 30) rfl rfl (hi) ?_
              suffices hj10 : xr_t (tm_I L xs) (d + 0) 144 95 [some (.inr (some (36, 0))), some (.inl a1), some (.inl a2), some (.inl ((if (μ 55 0 ((a1).toNatClampNeg)) ≤ (μ 36 0 3) then ((if (μ 57 0 ((a1).toNatClampNeg)) ≤ (μ 36 0 3) then 0 else ((if (μ 56 0 ((a1).toNatClampNeg)) = a2 then 0 else 1) : Int32)) : Int32) else ((if (μ 54 0 ((a1).toNatClampNeg)) = a2 then ((if (μ 57 0 ((a1).toNatClampNeg)) ≤ (μ 36 0 3) then 0 else ((if (μ 56 0 ((a1).toNatClampNeg)) = a2 then 0 else 1) : Int32)) : Int32) else 1) : Int32)) : Int32))] [.inl ((if (μ 39 0 ((a1).toNatClampNeg)) = (a2 + 1) then 1 else 0) : Int32)] μ Q by
                refine xr_br 4 (c := (μ 39 0 ((a1).toNatClampNeg)) = (a2 + 1)) inferInstance (a := 90) (b := 94) (ls' := [some (.inr (some (36, 0))), some (.inl a1), some (.inl a2), some (.inl ((if (μ 55 0 ((a1).toNatClampNeg)) ≤ (μ 36 0 3) then ((if (μ 57 0 ((a1).toNatClampNeg)) ≤ (μ 36 0 3) then 0 else ((if (μ 56 0 ((a1).toNatClampNeg)) = a2 then 0 else 1) : Int32)) : Int32) else ((if (μ 54 0 ((a1).toNatClampNeg)) = a2 then ((if (μ 57 0 ((a1).toNatClampNeg)) ≤ (μ 36 0 3) then 0 else ((if (μ 56 0 ((a1).toNatClampNeg)) = a2 then 0 else 1) : Int32)) : Int32) else 1) : Int32)) : Int32))]) (st' := []) (s' := μ) rfl (fun c10 => ?_) (fun c10 => ?_)
                · skip
                  refine xr_go 2 (pc' := 95) (ls' := [some (.inr (some (36, 0))), some (.inl a1), some (.inl a2), some (.inl ((if (μ 55 0 ((a1).toNatClampNeg)) ≤ (μ 36 0 3) then ((if (μ 57 0 ((a1).toNatClampNeg)) ≤ (μ 36 0 3) then 0 else ((if (μ 56 0 ((a1).toNatClampNeg)) = a2 then 0 else 1) : Int32)) : Int32) else ((if (μ 54 0 ((a1).toNatClampNeg)) = a2 then ((if (μ 57 0 ((a1).toNatClampNeg)) ≤ (μ 36 0 3) then 0 else ((if (μ 56 0 ((a1).toNatClampNeg)) = a2 then 0 else 1) : Int32)) : Int32) else 1) : Int32)) : Int32))]) (st' := [.inl 1]) (s' := μ) rfl ?_
                  have ehj10 : ((if (μ 39 0 ((a1).toNatClampNeg)) = (a2 + 1) then 1 else 0) : Int32) = 1 := by first | rfl | simp only [if_pos c10]
                  rw [ehj10] at hj10
                  exact hj10
                · skip
                  refine xr_go 1 (pc' := 95) (ls' := [some (.inr (some (36, 0))), some (.inl a1), some (.inl a2), some (.inl ((if (μ 55 0 ((a1).toNatClampNeg)) ≤ (μ 36 0 3) then ((if (μ 57 0 ((a1).toNatClampNeg)) ≤ (μ 36 0 3) then 0 else ((if (μ 56 0 ((a1).toNatClampNeg)) = a2 then 0 else 1) : Int32)) : Int32) else ((if (μ 54 0 ((a1).toNatClampNeg)) = a2 then ((if (μ 57 0 ((a1).toNatClampNeg)) ≤ (μ 36 0 3) then 0 else ((if (μ 56 0 ((a1).toNatClampNeg)) = a2 then 0 else 1) : Int32)) : Int32) else 1) : Int32)) : Int32))]) (st' := [.inl 0]) (s' := μ) rfl ?_
                  have ehj10 : ((if (μ 39 0 ((a1).toNatClampNeg)) = (a2 + 1) then 1 else 0) : Int32) = 0 := by first | rfl | simp only [if_neg c10]
                  rw [ehj10] at hj10
                  exact hj10
              have ehj9 : ((if (μ 39 0 ((a1).toNatClampNeg)) = 0 then 1 else ((if (μ 39 0 ((a1).toNatClampNeg)) = (a2 + 1) then 1 else 0) : Int32)) : Int32) = ((if (μ 39 0 ((a1).toNatClampNeg)) = (a2 + 1) then 1 else 0) : Int32) := by first | rfl | simp only [if_neg c9]
              rw [ehj9] at hj9
              exact hj9
          have ehj8 : ((if ((if (μ 55 0 ((a1).toNatClampNeg)) ≤ (μ 36 0 3) then ((if (μ 57 0 ((a1).toNatClampNeg)) ≤ (μ 36 0 3) then 0 else ((if (μ 56 0 ((a1).toNatClampNeg)) = a2 then 0 else 1) : Int32)) : Int32) else ((if (μ 54 0 ((a1).toNatClampNeg)) = a2 then ((if (μ 57 0 ((a1).toNatClampNeg)) ≤ (μ 36 0 3) then 0 else ((if (μ 56 0 ((a1).toNatClampNeg)) = a2 then 0 else 1) : Int32)) : Int32) else 1) : Int32)) : Int32) = 0 then ((if (μ 39 0 ((a1).toNatClampNeg)) = 0 then 1 else ((if (μ 39 0 ((a1).toNatClampNeg)) = (a2 + 1) then 1 else 0) : Int32)) : Int32) else 0) : Int32) = ((if (μ 39 0 ((a1).toNatClampNeg)) = 0 then 1 else ((if (μ 39 0 ((a1).toNatClampNeg)) = (a2 + 1) then 1 else 0) : Int32)) : Int32) := by first | rfl | simp only [if_pos c8]
          rw [ehj8] at hj8
          exact hj8
        · skip
          refine xr_go 1 (pc' := 95) (ls' := [some (.inr (some (36, 0))), some (.inl a1), some (.inl a2), some (.inl ((if (μ 55 0 ((a1).toNatClampNeg)) ≤ (μ 36 0 3) then ((if (μ 57 0 ((a1).toNatClampNeg)) ≤ (μ 36 0 3) then 0 else ((if (μ 56 0 ((a1).toNatClampNeg)) = a2 then 0 else 1) : Int32)) : Int32) else ((if (μ 54 0 ((a1).toNatClampNeg)) = a2 then ((if (μ 57 0 ((a1).toNatClampNeg)) ≤ (μ 36 0 3) then 0 else ((if (μ 56 0 ((a1).toNatClampNeg)) = a2 then 0 else 1) : Int32)) : Int32) else 1) : Int32)) : Int32))]) (st' := [.inl 0]) (s' := μ) rfl ?_
          have ehj8 : ((if ((if (μ 55 0 ((a1).toNatClampNeg)) ≤ (μ 36 0 3) then ((if (μ 57 0 ((a1).toNatClampNeg)) ≤ (μ 36 0 3) then 0 else ((if (μ 56 0 ((a1).toNatClampNeg)) = a2 then 0 else 1) : Int32)) : Int32) else ((if (μ 54 0 ((a1).toNatClampNeg)) = a2 then ((if (μ 57 0 ((a1).toNatClampNeg)) ≤ (μ 36 0 3) then 0 else ((if (μ 56 0 ((a1).toNatClampNeg)) = a2 then 0 else 1) : Int32)) : Int32) else 1) : Int32)) : Int32) = 0 then ((if (μ 39 0 ((a1).toNatClampNeg)) = 0 then 1 else ((if (μ 39 0 ((a1).toNatClampNeg)) = (a2 + 1) then 1 else 0) : Int32)) : Int32) else 0) : Int32) = 0 := by first | rfl | simp only [if_neg c8]
          rw [ehj8] at hj8
          exact hj8
      have ehj7 : ((if (μ 36 0 3) < (μ 58 0 ((a1).toNatClampNeg)) then 0 else ((if ((if (μ 55 0 ((a1).toNatClampNeg)) ≤ (μ 36 0 3) then ((if (μ 57 0 ((a1).toNatClampNeg)) ≤ (μ 36 0 3) then 0 else ((if (μ 56 0 ((a1).toNatClampNeg)) = a2 then 0 else 1) : Int32)) : Int32) else ((if (μ 54 0 ((a1).toNatClampNeg)) = a2 then ((if (μ 57 0 ((a1).toNatClampNeg)) ≤ (μ 36 0 3) then 0 else ((if (μ 56 0 ((a1).toNatClampNeg)) = a2 then 0 else 1) : Int32)) : Int32) else 1) : Int32)) : Int32) = 0 then ((if (μ 39 0 ((a1).toNatClampNeg)) = 0 then 1 else ((if (μ 39 0 ((a1).toNatClampNeg)) = (a2 + 1) then 1 else 0) : Int32)) : Int32) else 0) : Int32)) : Int32) = ((if ((if (μ 55 0 ((a1).toNatClampNeg)) ≤ (μ 36 0 3) then ((if (μ 57 0 ((a1).toNatClampNeg)) ≤ (μ 36 0 3) then 0 else ((if (μ 56 0 ((a1).toNatClampNeg)) = a2 then 0 else 1) : Int32)) : Int32) else ((if (μ 54 0 ((a1).toNatClampNeg)) = a2 then ((if (μ 57 0 ((a1).toNatClampNeg)) ≤ (μ 36 0 3) then 0 else ((if (μ 56 0 ((a1).toNatClampNeg)) = a2 then 0 else 1) : Int32)) : Int32) else 1) : Int32)) : Int32) = 0 then ((if (μ 39 0 ((a1).toNatClampNeg)) = 0 then 1 else ((if (μ 39 0 ((a1).toNatClampNeg)) = (a2 + 1) then 1 else 0) : Int32)) : Int32) else 0) : Int32) := by first | rfl | simp only [if_neg c7]
      rw [ehj7] at hj7
      exact hj7
  exact xr_zr rfl (fun _ => (by (repeat' split) <;> first | exact Or.inl rfl | exact Or.inr rfl)) h
-- BootNetModel.choice(I)I
def cv_145_80 (a1 : Int32) : Nat → Int32 → Int32 → tm_M → Int32
  | 0, _, _, _ => 0
  | n + 1, l2, l3, μ => (if (10 : Int32) ≤ l3 then 0 else (if ((μ 37 0 ((l2).toNatClampNeg)) ≤ 0) ∨ ((l3 < (μ 37 0 ((l2).toNatClampNeg))) ∨ (((μ 38 0 ((l2).toNatClampNeg)) < l3) ∨ ((cv_144 ((10 * l2) + l3) a1 μ) = 0))) then (cv_145_80 a1 n l2 (l3 + 1) μ) else ((10 * l2) + l3)))
def ci_145_80 (a1 : Int32) : Nat → Int32 → Int32 → tm_M → Prop
  | 0, _, _, _ => False
  | n + 1, l2, l3, μ => ((¬ ((10 : Int32) ≤ l3)) → tm_ix l2 3 = true) ∧ ((¬ ((10 : Int32) ≤ l3)) → (¬ ((μ 37 0 ((l2).toNatClampNeg)) ≤ 0)) → (¬ (l3 < (μ 37 0 ((l2).toNatClampNeg)))) → (¬ ((μ 38 0 ((l2).toNatClampNeg)) < l3)) → ci_144 ((10 * l2) + l3) a1 μ) ∧ ((¬ ((10 : Int32) ≤ l3)) → (((μ 37 0 ((l2).toNatClampNeg)) ≤ 0) ∨ ((l3 < (μ 37 0 ((l2).toNatClampNeg))) ∨ (((μ 38 0 ((l2).toNatClampNeg)) < l3) ∨ ((cv_144 ((10 * l2) + l3) a1 μ) = 0)))) → ci_145_80 a1 n l2 (l3 + 1) μ)
set_option maxHeartbeats 4000000 in
set_option maxRecDepth 10000 in
theorem tl_145_80 {a1 : Int32} : ∀ (n : Nat) (l2 : Int32) (l3 : Int32) (μ : tm_M), ci_145_80 a1 n l2 l3 μ → Q (some (.inl (cv_145_80 a1 n l2 l3 μ))) μ → xr_t (tm_I L xs) (d + 1) 145 80 [some (.inr (some (36, 0))), some (.inl a1), some (.inl l2), some (.inl l3)] [] μ Q := by
  intro n
  induction n with
  | zero => intro l2 l3 μ hi; exact hi.elim
  | succ n ih =>
    intro l2 l3 μ hi h
    unfold ci_145_80 at hi
    simp only [cv_145_80] at h
    refine xr_br 3 (c := (10 : Int32) ≤ l3) inferInstance (a := 142) (b := 86) (ls' := [some (.inr (some (36, 0))), some (.inl a1), some (.inl l2), some (.inl l3)]) (st' := []) (s' := μ) rfl (fun c1 => ?_) (fun c1 => ?_)
    · skip
      refine xr_go 1 (pc' := 143) (ls' := [some (.inr (some (36, 0))), some (.inl a1), some (.inl l2), some (.inl l3)]) (st' := [.inl 0]) (s' := μ) rfl ?_
      try simp only [if_pos c1] at h
      exact xr_rt (v := some (.inl 0)) rfl h
    · skip
      refine xr_go 3 (pc' := 91) (ls' := [some (.inr (some (36, 0))), some (.inl a1), some (.inl l2), some (.inl l3)]) (st' := [.inl l2, .inr (some (37, 0))]) (s' := μ) rfl ?_
      refine xr_ial (n := 3) rfl rfl (hi.1 c1) ?_
      suffices hE2 : ((((μ 37 0 ((l2).toNatClampNeg)) ≤ 0) ∨ ((l3 < (μ 37 0 ((l2).toNatClampNeg))) ∨ (((μ 38 0 ((l2).toNatClampNeg)) < l3) ∨ ((cv_144 ((10 * l2) + l3) a1 μ) = 0)))) → xr_t (tm_I L xs) (d + 1) 145 136 [some (.inr (some (36, 0))), some (.inl a1), some (.inl l2), some (.inl l3)] [] μ Q) ∧ (¬ (((μ 37 0 ((l2).toNatClampNeg)) ≤ 0) ∨ ((l3 < (μ 37 0 ((l2).toNatClampNeg))) ∨ (((μ 38 0 ((l2).toNatClampNeg)) < l3) ∨ ((cv_144 ((10 * l2) + l3) a1 μ) = 0)))) → xr_t (tm_I L xs) (d + 1) 145 129 [some (.inr (some (36, 0))), some (.inl a1), some (.inl l2), some (.inl l3)] [] μ Q) by
        refine xr_br 1 (c := (μ 37 0 ((l2).toNatClampNeg)) ≤ 0) inferInstance (a := 136) (b := 95) (ls' := [some (.inr (some (36, 0))), some (.inl a1), some (.inl l2), some (.inl l3)]) (st' := []) (s' := μ) rfl (fun c2 => ?_) (fun c2 => ?_)
        · skip
          exact hE2.1 (Or.inl c2)
        · skip
          refine xr_go 4 (pc' := 101) (ls' := [some (.inr (some (36, 0))), some (.inl a1), some (.inl l2), some (.inl l3)]) (st' := [.inl l2, .inr (some (37, 0)), .inl l3]) (s' := μ) rfl ?_
          refine xr_ial (n := 3) rfl rfl (hi.1 c1) ?_
          refine xr_br 1 (c := l3 < (μ 37 0 ((l2).toNatClampNeg))) inferInstance (a := 136) (b := 105) (ls' := [some (.inr (some (36, 0))), some (.inl a1), some (.inl l2), some (.inl l3)]) (st' := []) (s' := μ) rfl (fun c3 => ?_) (fun c3 => ?_)
          · skip
            exact hE2.1 (Or.inr (Or.inl c3))
          · skip
            refine xr_go 4 (pc' := 111) (ls' := [some (.inr (some (36, 0))), some (.inl a1), some (.inl l2), some (.inl l3)]) (st' := [.inl l2, .inr (some (38, 0)), .inl l3]) (s' := μ) rfl ?_
            refine xr_ial (n := 3) rfl rfl (hi.1 c1) ?_
            refine xr_br 1 (c := (μ 38 0 ((l2).toNatClampNeg)) < l3) inferInstance (a := 136) (b := 115) (ls' := [some (.inr (some (36, 0))), some (.inl a1), some (.inl l2), some (.inl l3)]) (st' := []) (s' := μ) rfl (fun c4 => ?_) (fun c4 => ?_)
            · skip
              exact hE2.1 (Or.inr (Or.inr (Or.inl c4)))
            · skip
              refine xr_go 7 (pc' := 123) (ls' := [some (.inr (some (36, 0))), some (.inl a1), some (.inl l2), some (.inl l3)]) (st' := [.inl a1, .inl ((10 * l2) + l3), .inr (some (36, 0))]) (s' := μ) rfl ?_
              refine xr_cl (y' := 144) (as := [.inr (some (36, 0)), .inl ((10 * l2) + l3), .inl a1]) (r := []) rfl rfl ?_
              refine tf_144 (d := d + 0) (μ := μ) (a1 := ((10 * l2) + l3)) (a2 := a1) (hi.2.1 c1 c2 c3 c4) ?_
              show xr_t (tm_I L xs) (d + 1) 145 126 [some (.inr (some (36, 0))), some (.inl a1), some (.inl l2), some (.inl l3)] [.inl (cv_144 ((10 * l2) + l3) a1 μ)] μ Q
              refine xr_br 1 (c := (cv_144 ((10 * l2) + l3) a1 μ) = 0) inferInstance (a := 136) (b := 129) (ls' := [some (.inr (some (36, 0))), some (.inl a1), some (.inl l2), some (.inl l3)]) (st' := []) (s' := μ) rfl (fun c5 => ?_) (fun c5 => ?_)
              · skip
                exact hE2.1 (Or.inr (Or.inr (Or.inr c5)))
              · skip
                exact hE2.2 (fun z => z.elim c2 (fun z => z.elim c3 (fun z => z.elim c4 c5)))
      refine ⟨fun c6 => ?_, fun c6 => ?_⟩
      · skip
        refine xr_go 2 (pc' := 80) (ls' := [some (.inr (some (36, 0))), some (.inl a1), some (.inl l2), some (.inl (l3 + 1))]) (st' := []) (s' := μ) rfl ?_
        try simp only [if_neg c1, if_pos c6] at h
        exact ih l2 (l3 + 1) μ (hi.2.2 c1 c6) h
      · skip
        refine xr_go 5 (pc' := 135) (ls' := [some (.inr (some (36, 0))), some (.inl a1), some (.inl l2), some (.inl l3)]) (st' := [.inl ((10 * l2) + l3)]) (s' := μ) rfl ?_
        try simp only [if_neg c1, if_neg c6] at h
        exact xr_rt (v := some (.inl ((10 * l2) + l3))) rfl h
def cv_145_36 (a1 : Int32) : Nat → Int32 → tm_M → Int32
  | 0, _, _ => 0
  | n + 1, l2, μ => (if (30 : Int32) ≤ l2 then (cv_145_80 a1 64 (μ 67 0 ((a1).toNatClampNeg)) 1 μ) else (if (¬ ((μ 39 0 ((l2).toNatClampNeg)) = (a1 + 1))) ∨ ((cv_144 l2 a1 μ) = 0) then (cv_145_36 a1 n (l2 + 1) μ) else l2))
def ci_145_36 (a1 : Int32) : Nat → Int32 → tm_M → Prop
  | 0, _, _ => False
  | n + 1, l2, μ => (((30 : Int32) ≤ l2) → tm_ix a1 6 = true) ∧ (((30 : Int32) ≤ l2) → ci_145_80 a1 64 (μ 67 0 ((a1).toNatClampNeg)) 1 μ) ∧ ((¬ ((30 : Int32) ≤ l2)) → tm_ix l2 30 = true) ∧ ((¬ ((30 : Int32) ≤ l2)) → ((μ 39 0 ((l2).toNatClampNeg)) = (a1 + 1)) → ci_144 l2 a1 μ) ∧ ((¬ ((30 : Int32) ≤ l2)) → ((¬ ((μ 39 0 ((l2).toNatClampNeg)) = (a1 + 1))) ∨ ((cv_144 l2 a1 μ) = 0)) → ci_145_36 a1 n (l2 + 1) μ)
set_option maxHeartbeats 4000000 in
set_option maxRecDepth 10000 in
theorem tl_145_36 {a1 : Int32} : ∀ (n : Nat) (l2 : Int32) (μ : tm_M), ci_145_36 a1 n l2 μ → Q (some (.inl (cv_145_36 a1 n l2 μ))) μ → xr_t (tm_I L xs) (d + 1) 145 36 [some (.inr (some (36, 0))), some (.inl a1), some (.inl l2), none] [] μ Q := by
  intro n
  induction n with
  | zero => intro l2 μ hi; exact hi.elim
  | succ n ih =>
    intro l2 μ hi h
    unfold ci_145_36 at hi
    simp only [cv_145_36] at h
    refine xr_br 3 (c := (30 : Int32) ≤ l2) inferInstance (a := 71) (b := 42) (ls' := [some (.inr (some (36, 0))), some (.inl a1), some (.inl l2), none]) (st' := []) (s' := μ) rfl (fun c1 => ?_) (fun c1 => ?_)
    · skip
      refine xr_go 3 (pc' := 76) (ls' := [some (.inr (some (36, 0))), some (.inl a1), some (.inl l2), none]) (st' := [.inl a1, .inr (some (67, 0))]) (s' := μ) rfl ?_
      refine xr_ial (n := 6) rfl rfl (hi.1 c1) ?_
      refine xr_go 3 (pc' := 80) (ls' := [some (.inr (some (36, 0))), some (.inl a1), some (.inl (μ 67 0 ((a1).toNatClampNeg))), some (.inl 1)]) (st' := []) (s' := μ) rfl ?_
      try simp only [if_pos c1] at h
      exact tl_145_80 64 (μ 67 0 ((a1).toNatClampNeg)) 1 μ (hi.2.1 c1) h
    · skip
      refine xr_go 3 (pc' := 47) (ls' := [some (.inr (some (36, 0))), some (.inl a1), some (.inl l2), none]) (st' := [.inl l2, .inr (some (39, 0))]) (s' := μ) rfl ?_
      refine xr_ial (n := 30) rfl rfl (hi.2.2.1 c1) ?_
      suffices hE2 : (((¬ ((μ 39 0 ((l2).toNatClampNeg)) = (a1 + 1))) ∨ ((cv_144 l2 a1 μ) = 0)) → xr_t (tm_I L xs) (d + 1) 145 65 [some (.inr (some (36, 0))), some (.inl a1), some (.inl l2), none] [] μ Q) ∧ (¬ ((¬ ((μ 39 0 ((l2).toNatClampNeg)) = (a1 + 1))) ∨ ((cv_144 l2 a1 μ) = 0)) → xr_t (tm_I L xs) (d + 1) 145 63 [some (.inr (some (36, 0))), some (.inl a1), some (.inl l2), none] [] μ Q) by
        refine xr_br 4 (c := (μ 39 0 ((l2).toNatClampNeg)) = (a1 + 1)) inferInstance (a := 54) (b := 65) (ls' := [some (.inr (some (36, 0))), some (.inl a1), some (.inl l2), none]) (st' := []) (s' := μ) rfl (fun c2 => ?_) (fun c2 => ?_)
        · skip
          refine xr_go 3 (pc' := 57) (ls' := [some (.inr (some (36, 0))), some (.inl a1), some (.inl l2), none]) (st' := [.inl a1, .inl l2, .inr (some (36, 0))]) (s' := μ) rfl ?_
          refine xr_cl (y' := 144) (as := [.inr (some (36, 0)), .inl l2, .inl a1]) (r := []) rfl rfl ?_
          refine tf_144 (d := d + 0) (μ := μ) (a1 := l2) (a2 := a1) (hi.2.2.2.1 c1 c2) ?_
          show xr_t (tm_I L xs) (d + 1) 145 60 [some (.inr (some (36, 0))), some (.inl a1), some (.inl l2), none] [.inl (cv_144 l2 a1 μ)] μ Q
          refine xr_br 1 (c := (cv_144 l2 a1 μ) = 0) inferInstance (a := 65) (b := 63) (ls' := [some (.inr (some (36, 0))), some (.inl a1), some (.inl l2), none]) (st' := []) (s' := μ) rfl (fun c3 => ?_) (fun c3 => ?_)
          · skip
            exact hE2.1 (Or.inr c3)
          · skip
            exact hE2.2 (fun z => z.elim (fun w => w c2) c3)
        · skip
          exact hE2.1 (Or.inl c2)
      refine ⟨fun c4 => ?_, fun c4 => ?_⟩
      · skip
        refine xr_go 2 (pc' := 36) (ls' := [some (.inr (some (36, 0))), some (.inl a1), some (.inl (l2 + 1)), none]) (st' := []) (s' := μ) rfl ?_
        try simp only [if_neg c1, if_pos c4] at h
        exact ih (l2 + 1) μ (hi.2.2.2.2 c1 c4) h
      · skip
        refine xr_go 1 (pc' := 64) (ls' := [some (.inr (some (36, 0))), some (.inl a1), some (.inl l2), none]) (st' := [.inl l2]) (s' := μ) rfl ?_
        try simp only [if_neg c1, if_neg c4] at h
        exact xr_rt (v := some (.inl l2)) rfl h
def cv_145_2 (a1 : Int32) : Nat → Int32 → tm_M → Int32
  | 0, _, _ => 0
  | n + 1, l2, μ => (if (30 : Int32) ≤ l2 then (cv_145_36 a1 64 1 μ) else (if ((cv_142 l2 a1 μ) = 0) ∨ ((cv_144 l2 a1 μ) = 0) then (cv_145_2 a1 n (l2 + 1) μ) else l2))
def ci_145_2 (a1 : Int32) : Nat → Int32 → tm_M → Prop
  | 0, _, _ => False
  | n + 1, l2, μ => (((30 : Int32) ≤ l2) → ci_145_36 a1 64 1 μ) ∧ ((¬ ((30 : Int32) ≤ l2)) → ci_142 l2 a1 μ) ∧ ((¬ ((30 : Int32) ≤ l2)) → (¬ ((cv_142 l2 a1 μ) = 0)) → ci_144 l2 a1 μ) ∧ ((¬ ((30 : Int32) ≤ l2)) → (((cv_142 l2 a1 μ) = 0) ∨ ((cv_144 l2 a1 μ) = 0)) → ci_145_2 a1 n (l2 + 1) μ)
set_option maxHeartbeats 4000000 in
set_option maxRecDepth 10000 in
theorem tl_145_2 {a1 : Int32} : ∀ (n : Nat) (l2 : Int32) (μ : tm_M), ci_145_2 a1 n l2 μ → Q (some (.inl (cv_145_2 a1 n l2 μ))) μ → xr_t (tm_I L xs) (d + 1) 145 2 [some (.inr (some (36, 0))), some (.inl a1), some (.inl l2), none] [] μ Q := by
  intro n
  induction n with
  | zero => intro l2 μ hi; exact hi.elim
  | succ n ih =>
    intro l2 μ hi h
    unfold ci_145_2 at hi
    simp only [cv_145_2] at h
    refine xr_br 3 (c := (30 : Int32) ≤ l2) inferInstance (a := 34) (b := 8) (ls' := [some (.inr (some (36, 0))), some (.inl a1), some (.inl l2), none]) (st' := []) (s' := μ) rfl (fun c1 => ?_) (fun c1 => ?_)
    · skip
      refine xr_go 2 (pc' := 36) (ls' := [some (.inr (some (36, 0))), some (.inl a1), some (.inl 1), none]) (st' := []) (s' := μ) rfl ?_
      try simp only [if_pos c1] at h
      exact tl_145_36 64 1 μ (hi.1 c1) h
    · skip
      refine xr_go 3 (pc' := 11) (ls' := [some (.inr (some (36, 0))), some (.inl a1), some (.inl l2), none]) (st' := [.inl a1, .inl l2, .inr (some (36, 0))]) (s' := μ) rfl ?_
      refine xr_cl (y' := 142) (as := [.inr (some (36, 0)), .inl l2, .inl a1]) (r := []) rfl rfl ?_
      refine tf_142 (d := d + 0) (μ := μ) (a1 := l2) (a2 := a1) (hi.2.1 c1) ?_
      show xr_t (tm_I L xs) (d + 1) 145 14 [some (.inr (some (36, 0))), some (.inl a1), some (.inl l2), none] [.inl (cv_142 l2 a1 μ)] μ Q
      have z1 : (cv_142 l2 a1 μ) = 0 ∨ (cv_142 l2 a1 μ) = 1 := cz_142
      generalize gv1 : (cv_142 l2 a1 μ) = v1 at h hi z1 ⊢
      suffices hE2 : (((v1 = 0) ∨ ((cv_144 l2 a1 μ) = 0)) → xr_t (tm_I L xs) (d + 1) 145 28 [some (.inr (some (36, 0))), some (.inl a1), some (.inl l2), none] [] μ Q) ∧ (¬ ((v1 = 0) ∨ ((cv_144 l2 a1 μ) = 0)) → xr_t (tm_I L xs) (d + 1) 145 26 [some (.inr (some (36, 0))), some (.inl a1), some (.inl l2), none] [] μ Q) by
        refine xr_br 1 (c := v1 = 0) inferInstance (a := 28) (b := 17) (ls' := [some (.inr (some (36, 0))), some (.inl a1), some (.inl l2), none]) (st' := []) (s' := μ) rfl (fun c2 => ?_) (fun c2 => ?_)
        · skip
          exact hE2.1 (Or.inl c2)
        · skip
          refine xr_go 3 (pc' := 20) (ls' := [some (.inr (some (36, 0))), some (.inl a1), some (.inl l2), none]) (st' := [.inl a1, .inl l2, .inr (some (36, 0))]) (s' := μ) rfl ?_
          refine xr_cl (y' := 144) (as := [.inr (some (36, 0)), .inl l2, .inl a1]) (r := []) rfl rfl ?_
          refine tf_144 (d := d + 0) (μ := μ) (a1 := l2) (a2 := a1) (hi.2.2.1 c1 c2) ?_
          show xr_t (tm_I L xs) (d + 1) 145 23 [some (.inr (some (36, 0))), some (.inl a1), some (.inl l2), none] [.inl (cv_144 l2 a1 μ)] μ Q
          refine xr_br 1 (c := (cv_144 l2 a1 μ) = 0) inferInstance (a := 28) (b := 26) (ls' := [some (.inr (some (36, 0))), some (.inl a1), some (.inl l2), none]) (st' := []) (s' := μ) rfl (fun c3 => ?_) (fun c3 => ?_)
          · skip
            exact hE2.1 (Or.inr c3)
          · skip
            exact hE2.2 (fun z => z.elim c2 c3)
      refine ⟨fun c4 => ?_, fun c4 => ?_⟩
      · skip
        refine xr_go 2 (pc' := 2) (ls' := [some (.inr (some (36, 0))), some (.inl a1), some (.inl (l2 + 1)), none]) (st' := []) (s' := μ) rfl ?_
        try simp only [if_neg c1, if_pos c4] at h
        exact ih (l2 + 1) μ (hi.2.2.2 c1 c4) h
      · skip
        refine xr_go 1 (pc' := 27) (ls' := [some (.inr (some (36, 0))), some (.inl a1), some (.inl l2), none]) (st' := [.inl l2]) (s' := μ) rfl ?_
        try simp only [if_neg c1, if_neg c4] at h
        exact xr_rt (v := some (.inl l2)) rfl h
def cv_145 (a1 : Int32) (μ : tm_M) : Int32 := (cv_145_2 a1 64 1 μ)
def ci_145 (a1 : Int32) (μ : tm_M) : Prop := (ci_145_2 a1 64 1 μ)
set_option maxHeartbeats 4000000 in
set_option maxRecDepth 10000 in
theorem tf_145 {a1 : Int32} (hi : ci_145 a1 μ) (h : Q (some (.inl (cv_145 a1 μ))) μ) : xm_MW (tm_I L xs) (d + 2) 145 [.inr (some (36, 0)), .inl a1] μ Q := by
  refine xr_in2 [some (.inr (some (36, 0))), some (.inl a1), none, none] rfl rfl ?_
  unfold cv_145 at h
  unfold ci_145 at hi
  refine xr_go 2 (pc' := 2) (ls' := [some (.inr (some (36, 0))), some (.inl a1), some (.inl 1), none]) (st' := []) (s' := μ) rfl ?_
  exact tl_145_2 64 1 μ (hi) h
-- BootNetModel.offer(II)V
def cs_147_14 (a1 : Int32) (a2 : Int32) : Nat → Int32 → Int32 → tm_M → tm_M
  | 0, _, _, μ => μ
  | n + 1, l3, l4, μ => (if (30 : Int32) ≤ l4 then (cs_135 1 a1 a2 l3 0 (tm_wr (tm_wr μ 56 0 ((l3).toNatClampNeg) a1) 57 0 ((l3).toNatClampNeg) ((μ 36 0 3) + 6))) else (cs_147_14 a1 a2 n l3 (l4 + 1) (tm_wr μ 57 0 ((l4).toNatClampNeg) ((if (μ 56 0 ((l4).toNatClampNeg)) = a1 then 0 else (μ 57 0 ((l4).toNatClampNeg))) : Int32))))
def ci_147_14 (a1 : Int32) (a2 : Int32) : Nat → Int32 → Int32 → tm_M → Prop
  | 0, _, _, _ => False
  | n + 1, l3, l4, μ => (((30 : Int32) ≤ l4) → tm_ix l3 30 = true) ∧ (((30 : Int32) ≤ l4) → ci_135 1 a1 a2 l3 0 (tm_wr (tm_wr μ 56 0 ((l3).toNatClampNeg) a1) 57 0 ((l3).toNatClampNeg) ((μ 36 0 3) + 6))) ∧ ((¬ ((30 : Int32) ≤ l4)) → tm_ix l4 30 = true) ∧ ((¬ ((30 : Int32) ≤ l4)) → ci_147_14 a1 a2 n l3 (l4 + 1) (tm_wr μ 57 0 ((l4).toNatClampNeg) ((if (μ 56 0 ((l4).toNatClampNeg)) = a1 then 0 else (μ 57 0 ((l4).toNatClampNeg))) : Int32)))
set_option maxHeartbeats 4000000 in
set_option maxRecDepth 10000 in
theorem tl_147_14 {a1 : Int32} {a2 : Int32} : ∀ (n : Nat) (l3 : Int32) (l4 : Int32) (μ : tm_M), ci_147_14 a1 a2 n l3 l4 μ → Q none (cs_147_14 a1 a2 n l3 l4 μ) → xr_t (tm_I L xs) (d + 2) 147 14 [some (.inr (some (36, 0))), some (.inl a1), some (.inl a2), some (.inl l3), some (.inl l4)] [] μ Q := by
  intro n
  induction n with
  | zero => intro l3 l4 μ hi; exact hi.elim
  | succ n ih =>
    intro l3 l4 μ hi h
    unfold ci_147_14 at hi
    simp only [cs_147_14] at h
    refine xr_br 3 (c := (30 : Int32) ≤ l4) inferInstance (a := 56) (b := 21) (ls' := [some (.inr (some (36, 0))), some (.inl a1), some (.inl a2), some (.inl l3), some (.inl l4)]) (st' := []) (s' := μ) rfl (fun c1 => ?_) (fun c1 => ?_)
    · skip
      refine xr_go 4 (pc' := 62) (ls' := [some (.inr (some (36, 0))), some (.inl a1), some (.inl a2), some (.inl l3), some (.inl l4)]) (st' := [.inl a1, .inl l3, .inr (some (56, 0))]) (s' := μ) rfl ?_
      refine xr_ias (n := 30) rfl rfl (hi.1 c1) ?_
      refine xr_go 7 (pc' := 75) (ls' := [some (.inr (some (36, 0))), some (.inl a1), some (.inl a2), some (.inl l3), some (.inl l4)]) (st' := [.inl ((μ 36 0 3) + 6), .inl l3, .inr (some (57, 0))]) (s' := (tm_wr μ 56 0 ((l3).toNatClampNeg) a1)) rfl ?_
      refine xr_ias (n := 30) rfl rfl (hi.1 c1) ?_
      refine xr_go 6 (pc' := 82) (ls' := [some (.inr (some (36, 0))), some (.inl a1), some (.inl a2), some (.inl l3), some (.inl l4)]) (st' := [.inl 0, .inl l3, .inl a2, .inl a1, .inl 1, .inr (some (36, 0))]) (s' := (tm_wr (tm_wr μ 56 0 ((l3).toNatClampNeg) a1) 57 0 ((l3).toNatClampNeg) ((μ 36 0 3) + 6))) rfl ?_
      refine xr_cl (y' := 135) (as := [.inr (some (36, 0)), .inl 1, .inl a1, .inl a2, .inl l3, .inl 0]) (r := []) rfl rfl ?_
      refine tf_135 (d := d + 0) (μ := (tm_wr (tm_wr μ 56 0 ((l3).toNatClampNeg) a1) 57 0 ((l3).toNatClampNeg) ((μ 36 0 3) + 6))) (a1 := 1) (a2 := a1) (a3 := a2) (a4 := l3) (a5 := 0) (hi.2.1 c1) ?_
      show xr_t (tm_I L xs) (d + 2) 147 85 [some (.inr (some (36, 0))), some (.inl a1), some (.inl a2), some (.inl l3), some (.inl l4)] [] (cs_135 1 a1 a2 l3 0 (tm_wr (tm_wr μ 56 0 ((l3).toNatClampNeg) a1) 57 0 ((l3).toNatClampNeg) ((μ 36 0 3) + 6))) Q
      generalize gμ1 : (cs_135 1 a1 a2 l3 0 (tm_wr (tm_wr μ 56 0 ((l3).toNatClampNeg) a1) 57 0 ((l3).toNatClampNeg) ((μ 36 0 3) + 6))) = μ1 at h hi ⊢
      try simp only [if_pos c1] at h
      exact xr_rt (v := none) rfl h
    · skip
      refine xr_go 6 (pc' := 33) (ls' := [some (.inr (some (36, 0))), some (.inl a1), some (.inl a2), some (.inl l3), some (.inl l4)]) (st' := [.inl l4, .inr (some (56, 0)), .inl l4, .inr (some (57, 0))]) (s' := μ) rfl ?_
      refine xr_ial (n := 30) rfl rfl (hi.2.2.1 c1) ?_
      suffices hj2 : xr_t (tm_I L xs) (d + 2) 147 49 [some (.inr (some (36, 0))), some (.inl a1), some (.inl a2), some (.inl l3), some (.inl l4)] [.inl ((if (μ 56 0 ((l4).toNatClampNeg)) = a1 then 0 else (μ 57 0 ((l4).toNatClampNeg))) : Int32), .inl l4, .inr (some (57, 0))] μ Q by
        refine xr_br 2 (c := (μ 56 0 ((l4).toNatClampNeg)) = a1) inferInstance (a := 38) (b := 42) (ls' := [some (.inr (some (36, 0))), some (.inl a1), some (.inl a2), some (.inl l3), some (.inl l4)]) (st' := [.inl l4, .inr (some (57, 0))]) (s' := μ) rfl (fun c2 => ?_) (fun c2 => ?_)
        · skip
          refine xr_go 2 (pc' := 49) (ls' := [some (.inr (some (36, 0))), some (.inl a1), some (.inl a2), some (.inl l3), some (.inl l4)]) (st' := [.inl 0, .inl l4, .inr (some (57, 0))]) (s' := μ) rfl ?_
          have ehj2 : ((if (μ 56 0 ((l4).toNatClampNeg)) = a1 then 0 else (μ 57 0 ((l4).toNatClampNeg))) : Int32) = 0 := by first | rfl | simp only [if_pos c2]
          rw [ehj2] at hj2
          exact hj2
        · skip
          refine xr_go 3 (pc' := 48) (ls' := [some (.inr (some (36, 0))), some (.inl a1), some (.inl a2), some (.inl l3), some (.inl l4)]) (st' := [.inl l4, .inr (some (57, 0)), .inl l4, .inr (some (57, 0))]) (s' := μ) rfl ?_
          refine xr_ial (n := 30) rfl rfl (hi.2.2.1 c1) ?_
          have ehj2 : ((if (μ 56 0 ((l4).toNatClampNeg)) = a1 then 0 else (μ 57 0 ((l4).toNatClampNeg))) : Int32) = (μ 57 0 ((l4).toNatClampNeg)) := by first | rfl | simp only [if_neg c2]
          rw [ehj2] at hj2
          exact hj2
      refine xr_ias (n := 30) rfl rfl (hi.2.2.1 c1) ?_
      refine xr_go 2 (pc' := 14) (ls' := [some (.inr (some (36, 0))), some (.inl a1), some (.inl a2), some (.inl l3), some (.inl (l4 + 1))]) (st' := []) (s' := (tm_wr μ 57 0 ((l4).toNatClampNeg) ((if (μ 56 0 ((l4).toNatClampNeg)) = a1 then 0 else (μ 57 0 ((l4).toNatClampNeg))) : Int32))) rfl ?_
      try simp only [if_neg c1] at h
      exact ih l3 (l4 + 1) (tm_wr μ 57 0 ((l4).toNatClampNeg) ((if (μ 56 0 ((l4).toNatClampNeg)) = a1 then 0 else (μ 57 0 ((l4).toNatClampNeg))) : Int32)) (hi.2.2.2 c1) h
def cs_147 (a1 : Int32) (a2 : Int32) (μ : tm_M) : tm_M := (if (cv_145 a1 μ) = 0 then μ else (cs_147_14 a1 a2 64 (cv_145 a1 μ) 0 μ))
def ci_147 (a1 : Int32) (a2 : Int32) (μ : tm_M) : Prop := (ci_145 a1 μ) ∧ ((¬ ((cv_145 a1 μ) = 0)) → ci_147_14 a1 a2 64 (cv_145 a1 μ) 0 μ)
set_option maxHeartbeats 4000000 in
set_option maxRecDepth 10000 in
theorem tf_147 {a1 : Int32} {a2 : Int32} (hi : ci_147 a1 a2 μ) (h : Q none (cs_147 a1 a2 μ)) : xm_MW (tm_I L xs) (d + 3) 147 [.inr (some (36, 0)), .inl a1, .inl a2] μ Q := by
  refine xr_in2 [some (.inr (some (36, 0))), some (.inl a1), some (.inl a2), none, none] rfl rfl ?_
  unfold cs_147 at h
  unfold ci_147 at hi
  refine xr_go 2 (pc' := 2) (ls' := [some (.inr (some (36, 0))), some (.inl a1), some (.inl a2), none, none]) (st' := [.inl a1, .inr (some (36, 0))]) (s' := μ) rfl ?_
  refine xr_cl (y' := 145) (as := [.inr (some (36, 0)), .inl a1]) (r := []) rfl rfl ?_
  refine tf_145 (d := d + 0) (μ := μ) (a1 := a1) (hi.1) ?_
  show xr_t (tm_I L xs) (d + 2) 147 5 [some (.inr (some (36, 0))), some (.inl a1), some (.inl a2), none, none] [.inl (cv_145 a1 μ)] μ Q
  generalize gv1 : (cv_145 a1 μ) = v1 at h hi ⊢
  refine xr_br 3 (c := v1 = 0) inferInstance (a := 10) (b := 11) (ls' := [some (.inr (some (36, 0))), some (.inl a1), some (.inl a2), some (.inl v1), none]) (st' := []) (s' := μ) rfl (fun c1 => ?_) (fun c1 => ?_)
  · skip
    try simp only [if_pos c1] at h
    exact xr_rt (v := none) rfl h
  · skip
    refine xr_go 2 (pc' := 14) (ls' := [some (.inr (some (36, 0))), some (.inl a1), some (.inl a2), some (.inl v1), some (.inl 0)]) (st' := []) (s' := μ) rfl ?_
    try simp only [if_neg c1] at h
    exact tl_147_14 64 v1 0 μ (hi.2 c1) h
-- BootNetModel.offered(II)Z
def cv_143 (a1 : Int32) (a2 : Int32) (μ : tm_M) : Int32 := ((if (μ 57 0 ((a1).toNatClampNeg)) ≤ (μ 36 0 3) then 0 else ((if (μ 56 0 ((a1).toNatClampNeg)) = a2 then 1 else 0) : Int32)) : Int32)
def ci_143 (a1 : Int32) (a2 : Int32) (μ : tm_M) : Prop := (tm_ix a1 30 = true)
theorem cz_143 {a1 : Int32} {a2 : Int32} {μ : tm_M} : cv_143 a1 a2 μ = 0 ∨ cv_143 a1 a2 μ = 1 := by
  unfold cv_143
  (repeat' split) <;> first | exact Or.inl rfl | exact Or.inr rfl
set_option maxHeartbeats 4000000 in
set_option maxRecDepth 10000 in
theorem tf_143 {a1 : Int32} {a2 : Int32} (hi : ci_143 a1 a2 μ) (h : Q (some (.inl (cv_143 a1 a2 μ))) μ) : xm_MW (tm_I L xs) (d + 1) 143 [.inr (some (36, 0)), .inl a1, .inl a2] μ Q := by
  refine xr_in2 [some (.inr (some (36, 0))), some (.inl a1), some (.inl a2)] rfl rfl ?_
  unfold cv_143 at h
  unfold ci_143 at hi
  refine xr_go 3 (pc' := 5) (ls' := [some (.inr (some (36, 0))), some (.inl a1), some (.inl a2)]) (st' := [.inl a1, .inr (some (57, 0))]) (s' := μ) rfl ?_
  refine xr_ial (n := 30) rfl rfl (hi) ?_
  suffices hj1 : xr_t (tm_I L xs) (d + 0) 143 28 [some (.inr (some (36, 0))), some (.inl a1), some (.inl a2)] [.inl ((if (μ 57 0 ((a1).toNatClampNeg)) ≤ (μ 36 0 3) then 0 else ((if (μ 56 0 ((a1).toNatClampNeg)) = a2 then 1 else 0) : Int32)) : Int32)] μ Q by
    refine xr_br 3 (c := (μ 57 0 ((a1).toNatClampNeg)) ≤ (μ 36 0 3)) inferInstance (a := 27) (b := 13) (ls' := [some (.inr (some (36, 0))), some (.inl a1), some (.inl a2)]) (st' := []) (s' := μ) rfl (fun c1 => ?_) (fun c1 => ?_)
    · skip
      refine xr_go 1 (pc' := 28) (ls' := [some (.inr (some (36, 0))), some (.inl a1), some (.inl a2)]) (st' := [.inl 0]) (s' := μ) rfl ?_
      have ehj1 : ((if (μ 57 0 ((a1).toNatClampNeg)) ≤ (μ 36 0 3) then 0 else ((if (μ 56 0 ((a1).toNatClampNeg)) = a2 then 1 else 0) : Int32)) : Int32) = 0 := by first | rfl | simp only [if_pos c1]
      rw [ehj1] at hj1
      exact hj1
    · skip
      refine xr_go 3 (pc' := 18) (ls' := [some (.inr (some (36, 0))), some (.inl a1), some (.inl a2)]) (st' := [.inl a1, .inr (some (56, 0))]) (s' := μ) rfl ?_
      refine xr_ial (n := 30) rfl rfl (hi) ?_
      suffices hj2 : xr_t (tm_I L xs) (d + 0) 143 28 [some (.inr (some (36, 0))), some (.inl a1), some (.inl a2)] [.inl ((if (μ 56 0 ((a1).toNatClampNeg)) = a2 then 1 else 0) : Int32)] μ Q by
        refine xr_br 2 (c := (μ 56 0 ((a1).toNatClampNeg)) = a2) inferInstance (a := 23) (b := 27) (ls' := [some (.inr (some (36, 0))), some (.inl a1), some (.inl a2)]) (st' := []) (s' := μ) rfl (fun c2 => ?_) (fun c2 => ?_)
        · skip
          refine xr_go 2 (pc' := 28) (ls' := [some (.inr (some (36, 0))), some (.inl a1), some (.inl a2)]) (st' := [.inl 1]) (s' := μ) rfl ?_
          have ehj2 : ((if (μ 56 0 ((a1).toNatClampNeg)) = a2 then 1 else 0) : Int32) = 1 := by first | rfl | simp only [if_pos c2]
          rw [ehj2] at hj2
          exact hj2
        · skip
          refine xr_go 1 (pc' := 28) (ls' := [some (.inr (some (36, 0))), some (.inl a1), some (.inl a2)]) (st' := [.inl 0]) (s' := μ) rfl ?_
          have ehj2 : ((if (μ 56 0 ((a1).toNatClampNeg)) = a2 then 1 else 0) : Int32) = 0 := by first | rfl | simp only [if_neg c2]
          rw [ehj2] at hj2
          exact hj2
      have ehj1 : ((if (μ 57 0 ((a1).toNatClampNeg)) ≤ (μ 36 0 3) then 0 else ((if (μ 56 0 ((a1).toNatClampNeg)) = a2 then 1 else 0) : Int32)) : Int32) = ((if (μ 56 0 ((a1).toNatClampNeg)) = a2 then 1 else 0) : Int32) := by first | rfl | simp only [if_neg c1]
      rw [ehj1] at hj1
      exact hj1
  exact xr_zr rfl (fun _ => (by (repeat' split) <;> first | exact Or.inl rfl | exact Or.inr rfl)) h
-- BootNetModel.latest(I)Z
def cv_149_4 (a1 : Int32) : Nat → Int32 → tm_M → Int32
  | 0, _, _ => 0
  | n + 1, l2, μ => (if (μ 36 0 29) ≤ l2 then 1 else (if (μ 59 0 ((l2).toNatClampNeg)) = (μ 59 0 ((a1).toNatClampNeg)) then 0 else (cv_149_4 a1 n (l2 + 1) μ)))
def ci_149_4 (a1 : Int32) : Nat → Int32 → tm_M → Prop
  | 0, _, _ => False
  | n + 1, l2, μ => ((¬ ((μ 36 0 29) ≤ l2)) → tm_ix l2 16 = true) ∧ ((¬ ((μ 36 0 29) ≤ l2)) → tm_ix a1 16 = true) ∧ ((¬ ((μ 36 0 29) ≤ l2)) → (¬ ((μ 59 0 ((l2).toNatClampNeg)) = (μ 59 0 ((a1).toNatClampNeg)))) → ci_149_4 a1 n (l2 + 1) μ)
set_option maxHeartbeats 4000000 in
set_option maxRecDepth 10000 in
theorem tl_149_4 {a1 : Int32} : ∀ (n : Nat) (l2 : Int32) (μ : tm_M), ci_149_4 a1 n l2 μ → Q (some (.inl (cv_149_4 a1 n l2 μ))) μ → xr_t (tm_I L xs) (d + 0) 149 4 [some (.inr (some (36, 0))), some (.inl a1), some (.inl l2)] [] μ Q := by
  intro n
  induction n with
  | zero => intro l2 μ hi; exact hi.elim
  | succ n ih =>
    intro l2 μ hi h
    unfold ci_149_4 at hi
    simp only [cv_149_4] at h
    refine xr_br 4 (c := (μ 36 0 29) ≤ l2) inferInstance (a := 35) (b := 12) (ls' := [some (.inr (some (36, 0))), some (.inl a1), some (.inl l2)]) (st' := []) (s' := μ) rfl (fun c1 => ?_) (fun c1 => ?_)
    · skip
      refine xr_go 1 (pc' := 36) (ls' := [some (.inr (some (36, 0))), some (.inl a1), some (.inl l2)]) (st' := [.inl 1]) (s' := μ) rfl ?_
      try simp only [if_pos c1] at h
      exact xr_rt (v := some (.inl 1)) rfl h
    · skip
      refine xr_go 3 (pc' := 17) (ls' := [some (.inr (some (36, 0))), some (.inl a1), some (.inl l2)]) (st' := [.inl l2, .inr (some (59, 0))]) (s' := μ) rfl ?_
      refine xr_ial (n := 16) rfl rfl (hi.1 c1) ?_
      refine xr_go 3 (pc' := 23) (ls' := [some (.inr (some (36, 0))), some (.inl a1), some (.inl l2)]) (st' := [.inl a1, .inr (some (59, 0)), .inl (μ 59 0 ((l2).toNatClampNeg))]) (s' := μ) rfl ?_
      refine xr_ial (n := 16) rfl rfl (hi.2.1 c1) ?_
      refine xr_br 1 (c := (μ 59 0 ((l2).toNatClampNeg)) = (μ 59 0 ((a1).toNatClampNeg))) inferInstance (a := 27) (b := 29) (ls' := [some (.inr (some (36, 0))), some (.inl a1), some (.inl l2)]) (st' := []) (s' := μ) rfl (fun c2 => ?_) (fun c2 => ?_)
      · skip
        refine xr_go 1 (pc' := 28) (ls' := [some (.inr (some (36, 0))), some (.inl a1), some (.inl l2)]) (st' := [.inl 0]) (s' := μ) rfl ?_
        try simp only [if_neg c1, if_pos c2] at h
        exact xr_rt (v := some (.inl 0)) rfl h
      · skip
        refine xr_go 2 (pc' := 4) (ls' := [some (.inr (some (36, 0))), some (.inl a1), some (.inl (l2 + 1))]) (st' := []) (s' := μ) rfl ?_
        try simp only [if_neg c1, if_neg c2] at h
        exact ih (l2 + 1) μ (hi.2.2 c1 c2) h
def cv_149 (a1 : Int32) (μ : tm_M) : Int32 := (cv_149_4 a1 64 (a1 + 1) μ)
def ci_149 (a1 : Int32) (μ : tm_M) : Prop := (ci_149_4 a1 64 (a1 + 1) μ)
set_option maxHeartbeats 4000000 in
set_option maxRecDepth 10000 in
theorem tf_149 {a1 : Int32} (hi : ci_149 a1 μ) (h : Q (some (.inl (cv_149 a1 μ))) μ) : xm_MW (tm_I L xs) (d + 1) 149 [.inr (some (36, 0)), .inl a1] μ Q := by
  refine xr_in2 [some (.inr (some (36, 0))), some (.inl a1), none] rfl rfl ?_
  unfold cv_149 at h
  unfold ci_149 at hi
  refine xr_go 4 (pc' := 4) (ls' := [some (.inr (some (36, 0))), some (.inl a1), some (.inl (a1 + 1))]) (st' := []) (s' := μ) rfl ?_
  exact tl_149_4 64 (a1 + 1) μ (hi) h
-- BootNetModel.drop()V
def cs_150_4  : Nat → Int32 → Int32 → tm_M → tm_M
  | 0, _, _, μ => μ
  | n + 1, l1, l2, μ => (if (μ 36 0 29) ≤ l2 then (tm_wr μ 36 0 29 l1) else (if ((if (cv_149 l2 μ) = 0 then 0 else ((if (μ 61 0 ((l2).toNatClampNeg)) ≤ (μ 36 0 3) then 0 else 1) : Int32)) : Int32) = 0 then (cs_150_4 n l1 (l2 + 1) μ) else (cs_150_4 n (l1 + 1) (l2 + 1) (tm_wr (tm_wr (tm_wr μ 59 0 ((l1).toNatClampNeg) (μ 59 0 ((l2).toNatClampNeg))) 60 0 ((l1).toNatClampNeg) (μ 60 0 ((l2).toNatClampNeg))) 61 0 ((l1).toNatClampNeg) (μ 61 0 ((l2).toNatClampNeg))))))
def ci_150_4  : Nat → Int32 → Int32 → tm_M → Prop
  | 0, _, _, _ => False
  | n + 1, l1, l2, μ => ((¬ ((μ 36 0 29) ≤ l2)) → ci_149 l2 μ) ∧ ((¬ ((μ 36 0 29) ≤ l2)) → (¬ ((cv_149 l2 μ) = 0)) → tm_ix l2 16 = true) ∧ ((¬ ((μ 36 0 29) ≤ l2)) → (((if (cv_149 l2 μ) = 0 then 0 else ((if (μ 61 0 ((l2).toNatClampNeg)) ≤ (μ 36 0 3) then 0 else 1) : Int32)) : Int32) = 0) → ci_150_4 n l1 (l2 + 1) μ) ∧ ((¬ ((μ 36 0 29) ≤ l2)) → (¬ (((if (cv_149 l2 μ) = 0 then 0 else ((if (μ 61 0 ((l2).toNatClampNeg)) ≤ (μ 36 0 3) then 0 else 1) : Int32)) : Int32) = 0)) → tm_ix l2 16 = true) ∧ ((¬ ((μ 36 0 29) ≤ l2)) → (¬ (((if (cv_149 l2 μ) = 0 then 0 else ((if (μ 61 0 ((l2).toNatClampNeg)) ≤ (μ 36 0 3) then 0 else 1) : Int32)) : Int32) = 0)) → tm_ix l1 16 = true) ∧ ((¬ ((μ 36 0 29) ≤ l2)) → (¬ (((if (cv_149 l2 μ) = 0 then 0 else ((if (μ 61 0 ((l2).toNatClampNeg)) ≤ (μ 36 0 3) then 0 else 1) : Int32)) : Int32) = 0)) → ci_150_4 n (l1 + 1) (l2 + 1) (tm_wr (tm_wr (tm_wr μ 59 0 ((l1).toNatClampNeg) (μ 59 0 ((l2).toNatClampNeg))) 60 0 ((l1).toNatClampNeg) (μ 60 0 ((l2).toNatClampNeg))) 61 0 ((l1).toNatClampNeg) (μ 61 0 ((l2).toNatClampNeg))))
set_option maxHeartbeats 4000000 in
set_option maxRecDepth 10000 in
theorem tl_150_4  : ∀ (n : Nat) (l1 : Int32) (l2 : Int32) (o3 : Option (xm_V tm_R)) (μ : tm_M), ci_150_4 n l1 l2 μ → Q none (cs_150_4 n l1 l2 μ) → xr_t (tm_I L xs) (d + 1) 150 4 [some (.inr (some (36, 0))), some (.inl l1), some (.inl l2), o3] [] μ Q := by
  intro n
  induction n with
  | zero => intro l1 l2 o3 μ hi; exact hi.elim
  | succ n ih =>
    intro l1 l2 o3 μ hi h
    unfold ci_150_4 at hi
    simp only [cs_150_4] at h
    refine xr_br 4 (c := (μ 36 0 29) ≤ l2) inferInstance (a := 88) (b := 12) (ls' := [some (.inr (some (36, 0))), some (.inl l1), some (.inl l2), o3]) (st' := []) (s' := μ) rfl (fun c1 => ?_) (fun c1 => ?_)
    · skip
      refine xr_go 3 (pc' := 93) (ls' := [some (.inr (some (36, 0))), some (.inl l1), some (.inl l2), o3]) (st' := []) (s' := (tm_wr μ 36 0 29 l1)) rfl ?_
      try simp only [if_pos c1] at h
      exact xr_rt (v := none) rfl h
    · skip
      refine xr_go 2 (pc' := 14) (ls' := [some (.inr (some (36, 0))), some (.inl l1), some (.inl l2), o3]) (st' := [.inl l2, .inr (some (36, 0))]) (s' := μ) rfl ?_
      refine xr_cl (y' := 149) (as := [.inr (some (36, 0)), .inl l2]) (r := []) rfl rfl ?_
      refine tf_149 (d := d + 0) (μ := μ) (a1 := l2) (hi.1 c1) ?_
      show xr_t (tm_I L xs) (d + 1) 150 17 [some (.inr (some (36, 0))), some (.inl l1), some (.inl l2), o3] [.inl (cv_149 l2 μ)] μ Q
      generalize gv1 : (cv_149 l2 μ) = v1 at h hi ⊢
      suffices hj2 : xr_t (tm_I L xs) (d + 1) 150 38 [some (.inr (some (36, 0))), some (.inl l1), some (.inl l2), o3] [.inl ((if v1 = 0 then 0 else ((if (μ 61 0 ((l2).toNatClampNeg)) ≤ (μ 36 0 3) then 0 else 1) : Int32)) : Int32)] μ Q by
        refine xr_br 1 (c := v1 = 0) inferInstance (a := 37) (b := 20) (ls' := [some (.inr (some (36, 0))), some (.inl l1), some (.inl l2), o3]) (st' := []) (s' := μ) rfl (fun c2 => ?_) (fun c2 => ?_)
        · skip
          refine xr_go 1 (pc' := 38) (ls' := [some (.inr (some (36, 0))), some (.inl l1), some (.inl l2), o3]) (st' := [.inl 0]) (s' := μ) rfl ?_
          have ehj2 : ((if v1 = 0 then 0 else ((if (μ 61 0 ((l2).toNatClampNeg)) ≤ (μ 36 0 3) then 0 else 1) : Int32)) : Int32) = 0 := by first | rfl | simp only [if_pos c2]
          rw [ehj2] at hj2
          exact hj2
        · skip
          refine xr_go 3 (pc' := 25) (ls' := [some (.inr (some (36, 0))), some (.inl l1), some (.inl l2), o3]) (st' := [.inl l2, .inr (some (61, 0))]) (s' := μ) rfl ?_
          refine xr_ial (n := 16) rfl rfl (hi.2.1 c1 c2) ?_
          suffices hj3 : xr_t (tm_I L xs) (d + 1) 150 38 [some (.inr (some (36, 0))), some (.inl l1), some (.inl l2), o3] [.inl ((if (μ 61 0 ((l2).toNatClampNeg)) ≤ (μ 36 0 3) then 0 else 1) : Int32)] μ Q by
            refine xr_br 3 (c := (μ 61 0 ((l2).toNatClampNeg)) ≤ (μ 36 0 3)) inferInstance (a := 37) (b := 33) (ls' := [some (.inr (some (36, 0))), some (.inl l1), some (.inl l2), o3]) (st' := []) (s' := μ) rfl (fun c3 => ?_) (fun c3 => ?_)
            · skip
              refine xr_go 1 (pc' := 38) (ls' := [some (.inr (some (36, 0))), some (.inl l1), some (.inl l2), o3]) (st' := [.inl 0]) (s' := μ) rfl ?_
              have ehj3 : ((if (μ 61 0 ((l2).toNatClampNeg)) ≤ (μ 36 0 3) then 0 else 1) : Int32) = 0 := by first | rfl | simp only [if_pos c3]
              rw [ehj3] at hj3
              exact hj3
            · skip
              refine xr_go 2 (pc' := 38) (ls' := [some (.inr (some (36, 0))), some (.inl l1), some (.inl l2), o3]) (st' := [.inl 1]) (s' := μ) rfl ?_
              have ehj3 : ((if (μ 61 0 ((l2).toNatClampNeg)) ≤ (μ 36 0 3) then 0 else 1) : Int32) = 1 := by first | rfl | simp only [if_neg c3]
              rw [ehj3] at hj3
              exact hj3
          have ehj2 : ((if v1 = 0 then 0 else ((if (μ 61 0 ((l2).toNatClampNeg)) ≤ (μ 36 0 3) then 0 else 1) : Int32)) : Int32) = ((if (μ 61 0 ((l2).toNatClampNeg)) ≤ (μ 36 0 3) then 0 else 1) : Int32) := by first | rfl | simp only [if_neg c2]
          rw [ehj2] at hj2
          exact hj2
      refine xr_br 3 (c := ((if v1 = 0 then 0 else ((if (μ 61 0 ((l2).toNatClampNeg)) ≤ (μ 36 0 3) then 0 else 1) : Int32)) : Int32) = 0) inferInstance (a := 82) (b := 43) (ls' := [some (.inr (some (36, 0))), some (.inl l1), some (.inl l2), some (.inl ((if v1 = 0 then 0 else ((if (μ 61 0 ((l2).toNatClampNeg)) ≤ (μ 36 0 3) then 0 else 1) : Int32)) : Int32))]) (st' := []) (s' := μ) rfl (fun c4 => ?_) (fun c4 => ?_)
      · skip
        refine xr_go 2 (pc' := 4) (ls' := [some (.inr (some (36, 0))), some (.inl l1), some (.inl (l2 + 1)), some (.inl ((if v1 = 0 then 0 else ((if (μ 61 0 ((l2).toNatClampNeg)) ≤ (μ 36 0 3) then 0 else 1) : Int32)) : Int32))]) (st' := []) (s' := μ) rfl ?_
        try simp only [if_neg c1, if_pos c4] at h
        exact ih l1 (l2 + 1) (some (.inl ((if v1 = 0 then 0 else ((if (μ 61 0 ((l2).toNatClampNeg)) ≤ (μ 36 0 3) then 0 else 1) : Int32)) : Int32))) μ (hi.2.2.1 c1 c4) h
      · skip
        refine xr_go 6 (pc' := 53) (ls' := [some (.inr (some (36, 0))), some (.inl l1), some (.inl l2), some (.inl ((if v1 = 0 then 0 else ((if (μ 61 0 ((l2).toNatClampNeg)) ≤ (μ 36 0 3) then 0 else 1) : Int32)) : Int32))]) (st' := [.inl l2, .inr (some (59, 0)), .inl l1, .inr (some (59, 0))]) (s' := μ) rfl ?_
        refine xr_ial (n := 16) rfl rfl (hi.2.2.2.1 c1 c4) ?_
        refine xr_ias (n := 16) rfl rfl (hi.2.2.2.2.1 c1 c4) ?_
        refine xr_go 6 (pc' := 65) (ls' := [some (.inr (some (36, 0))), some (.inl l1), some (.inl l2), some (.inl ((if v1 = 0 then 0 else ((if (μ 61 0 ((l2).toNatClampNeg)) ≤ (μ 36 0 3) then 0 else 1) : Int32)) : Int32))]) (st' := [.inl l2, .inr (some (60, 0)), .inl l1, .inr (some (60, 0))]) (s' := (tm_wr μ 59 0 ((l1).toNatClampNeg) (μ 59 0 ((l2).toNatClampNeg)))) rfl ?_
        refine xr_ial (n := 16) rfl rfl (hi.2.2.2.1 c1 c4) ?_
        refine xr_ias (n := 16) rfl rfl (hi.2.2.2.2.1 c1 c4) ?_
        refine xr_go 6 (pc' := 77) (ls' := [some (.inr (some (36, 0))), some (.inl l1), some (.inl l2), some (.inl ((if v1 = 0 then 0 else ((if (μ 61 0 ((l2).toNatClampNeg)) ≤ (μ 36 0 3) then 0 else 1) : Int32)) : Int32))]) (st' := [.inl l2, .inr (some (61, 0)), .inl l1, .inr (some (61, 0))]) (s' := (tm_wr (tm_wr μ 59 0 ((l1).toNatClampNeg) (μ 59 0 ((l2).toNatClampNeg))) 60 0 ((l1).toNatClampNeg) (μ 60 0 ((l2).toNatClampNeg)))) rfl ?_
        refine xr_ial (n := 16) rfl rfl (hi.2.2.2.1 c1 c4) ?_
        refine xr_ias (n := 16) rfl rfl (hi.2.2.2.2.1 c1 c4) ?_
        refine xr_go 3 (pc' := 4) (ls' := [some (.inr (some (36, 0))), some (.inl (l1 + 1)), some (.inl (l2 + 1)), some (.inl ((if v1 = 0 then 0 else ((if (μ 61 0 ((l2).toNatClampNeg)) ≤ (μ 36 0 3) then 0 else 1) : Int32)) : Int32))]) (st' := []) (s' := (tm_wr (tm_wr (tm_wr μ 59 0 ((l1).toNatClampNeg) (μ 59 0 ((l2).toNatClampNeg))) 60 0 ((l1).toNatClampNeg) (μ 60 0 ((l2).toNatClampNeg))) 61 0 ((l1).toNatClampNeg) (μ 61 0 ((l2).toNatClampNeg)))) rfl ?_
        try simp only [if_neg c1, if_neg c4] at h
        exact ih (l1 + 1) (l2 + 1) (some (.inl ((if v1 = 0 then 0 else ((if (μ 61 0 ((l2).toNatClampNeg)) ≤ (μ 36 0 3) then 0 else 1) : Int32)) : Int32))) (tm_wr (tm_wr (tm_wr μ 59 0 ((l1).toNatClampNeg) (μ 59 0 ((l2).toNatClampNeg))) 60 0 ((l1).toNatClampNeg) (μ 60 0 ((l2).toNatClampNeg))) 61 0 ((l1).toNatClampNeg) (μ 61 0 ((l2).toNatClampNeg))) (hi.2.2.2.2.2 c1 c4) h
def cs_150  (μ : tm_M) : tm_M := (cs_150_4 64 0 0 μ)
def ci_150  (μ : tm_M) : Prop := (ci_150_4 64 0 0 μ)
set_option maxHeartbeats 4000000 in
set_option maxRecDepth 10000 in
theorem tf_150  (hi : ci_150 μ) (h : Q none (cs_150 μ)) : xm_MW (tm_I L xs) (d + 2) 150 [.inr (some (36, 0))] μ Q := by
  refine xr_in2 [some (.inr (some (36, 0))), none, none, none] rfl rfl ?_
  unfold cs_150 at h
  unfold ci_150 at hi
  refine xr_go 4 (pc' := 4) (ls' := [some (.inr (some (36, 0))), some (.inl 0), some (.inl 0), none]) (st' := []) (s' := μ) rfl ?_
  exact tl_150_4 64 0 0 none μ (hi) h
-- BootNetModel.recorded(III)Z
def cv_151 (a1 : Int32) (a2 : Int32) (a3 : Int32) (μ : tm_M) : Int32 := (if (μ 36 0 29) = 16 then (if ((cs_150 μ) 36 0 29) = 16 then 0 else 1) else 1)
def cs_151 (a1 : Int32) (a2 : Int32) (a3 : Int32) (μ : tm_M) : tm_M := (if (μ 36 0 29) = 16 then (if ((cs_150 μ) 36 0 29) = 16 then (cs_150 μ) else (tm_wr (tm_wr (tm_wr (tm_wr (tm_wr (tm_wr (cs_150 μ) 59 0 ((((cs_150 μ) 36 0 29) : Int32).toNatClampNeg) a1) 60 0 ((((cs_150 μ) 36 0 29) : Int32).toNatClampNeg) a2) 61 0 ((((cs_150 μ) 36 0 29) : Int32).toNatClampNeg) a3) 36 0 29 (((cs_150 μ) 36 0 29) + 1)) 54 0 ((a1).toNatClampNeg) a2) 55 0 ((a1).toNatClampNeg) a3)) else (tm_wr (tm_wr (tm_wr (tm_wr (tm_wr (tm_wr μ 59 0 (((μ 36 0 29) : Int32).toNatClampNeg) a1) 60 0 (((μ 36 0 29) : Int32).toNatClampNeg) a2) 61 0 (((μ 36 0 29) : Int32).toNatClampNeg) a3) 36 0 29 ((μ 36 0 29) + 1)) 54 0 ((a1).toNatClampNeg) a2) 55 0 ((a1).toNatClampNeg) a3))
def ci_151 (a1 : Int32) (a2 : Int32) (a3 : Int32) (μ : tm_M) : Prop := (((μ 36 0 29) = 16) → ci_150  μ) ∧ (((μ 36 0 29) = 16) → (¬ (((cs_150 μ) 36 0 29) = 16)) → tm_ix ((cs_150 μ) 36 0 29) 16 = true) ∧ (((μ 36 0 29) = 16) → (¬ (((cs_150 μ) 36 0 29) = 16)) → tm_ix a1 30 = true) ∧ ((¬ ((μ 36 0 29) = 16)) → tm_ix (μ 36 0 29) 16 = true) ∧ ((¬ ((μ 36 0 29) = 16)) → tm_ix a1 30 = true)
theorem cz_151 {a1 : Int32} {a2 : Int32} {a3 : Int32} {μ : tm_M} : cv_151 a1 a2 a3 μ = 0 ∨ cv_151 a1 a2 a3 μ = 1 := by
  unfold cv_151
  (repeat' split) <;> first | exact Or.inl rfl | exact Or.inr rfl
set_option maxHeartbeats 4000000 in
set_option maxRecDepth 10000 in
theorem tf_151 {a1 : Int32} {a2 : Int32} {a3 : Int32} (hi : ci_151 a1 a2 a3 μ) (h : Q (some (.inl (cv_151 a1 a2 a3 μ))) (cs_151 a1 a2 a3 μ)) : xm_MW (tm_I L xs) (d + 3) 151 [.inr (some (36, 0)), .inl a1, .inl a2, .inl a3] μ Q := by
  refine xr_in2 [some (.inr (some (36, 0))), some (.inl a1), some (.inl a2), some (.inl a3)] rfl rfl ?_
  unfold cv_151 cs_151 at h
  unfold ci_151 at hi
  refine xr_br 4 (c := (μ 36 0 29) = 16) inferInstance (a := 9) (b := 13) (ls' := [some (.inr (some (36, 0))), some (.inl a1), some (.inl a2), some (.inl a3)]) (st' := []) (s' := μ) rfl (fun c1 => ?_) (fun c1 => ?_)
  · skip
    refine xr_go 1 (pc' := 10) (ls' := [some (.inr (some (36, 0))), some (.inl a1), some (.inl a2), some (.inl a3)]) (st' := [.inr (some (36, 0))]) (s' := μ) rfl ?_
    refine xr_cl (y' := 150) (as := [.inr (some (36, 0))]) (r := []) rfl rfl ?_
    refine tf_150 (d := d + 0) (μ := μ)  (hi.1 c1) ?_
    show xr_t (tm_I L xs) (d + 2) 151 13 [some (.inr (some (36, 0))), some (.inl a1), some (.inl a2), some (.inl a3)] [] (cs_150 μ) Q
    generalize gμ2 : (cs_150 μ) = μ2 at h hi ⊢
    refine xr_br 4 (c := (μ2 36 0 29) = 16) inferInstance (a := 22) (b := 24) (ls' := [some (.inr (some (36, 0))), some (.inl a1), some (.inl a2), some (.inl a3)]) (st' := []) (s' := μ2) rfl (fun c2 => ?_) (fun c2 => ?_)
    · skip
      refine xr_go 1 (pc' := 23) (ls' := [some (.inr (some (36, 0))), some (.inl a1), some (.inl a2), some (.inl a3)]) (st' := [.inl 0]) (s' := μ2) rfl ?_
      try simp only [if_pos c1, if_pos c2] at h
      exact xr_rt (v := some (.inl 0)) rfl h
    · skip
      refine xr_go 5 (pc' := 33) (ls' := [some (.inr (some (36, 0))), some (.inl a1), some (.inl a2), some (.inl a3)]) (st' := [.inl a1, .inl (μ2 36 0 29), .inr (some (59, 0))]) (s' := μ2) rfl ?_
      refine xr_ias (n := 16) rfl rfl (hi.2.1 c1 c2) ?_
      refine xr_go 5 (pc' := 43) (ls' := [some (.inr (some (36, 0))), some (.inl a1), some (.inl a2), some (.inl a3)]) (st' := [.inl a2, .inl (μ2 36 0 29), .inr (some (60, 0))]) (s' := (tm_wr μ2 59 0 (((μ2 36 0 29) : Int32).toNatClampNeg) a1)) rfl ?_
      refine xr_ias (n := 16) rfl rfl (hi.2.1 c1 c2) ?_
      refine xr_go 5 (pc' := 53) (ls' := [some (.inr (some (36, 0))), some (.inl a1), some (.inl a2), some (.inl a3)]) (st' := [.inl a3, .inl (μ2 36 0 29), .inr (some (61, 0))]) (s' := (tm_wr (tm_wr μ2 59 0 (((μ2 36 0 29) : Int32).toNatClampNeg) a1) 60 0 (((μ2 36 0 29) : Int32).toNatClampNeg) a2)) rfl ?_
      refine xr_ias (n := 16) rfl rfl (hi.2.1 c1 c2) ?_
      refine xr_go 10 (pc' := 70) (ls' := [some (.inr (some (36, 0))), some (.inl a1), some (.inl a2), some (.inl a3)]) (st' := [.inl a2, .inl a1, .inr (some (54, 0))]) (s' := (tm_wr (tm_wr (tm_wr (tm_wr μ2 59 0 (((μ2 36 0 29) : Int32).toNatClampNeg) a1) 60 0 (((μ2 36 0 29) : Int32).toNatClampNeg) a2) 61 0 (((μ2 36 0 29) : Int32).toNatClampNeg) a3) 36 0 29 ((μ2 36 0 29) + 1))) rfl ?_
      refine xr_ias (n := 30) rfl rfl (hi.2.2.1 c1 c2) ?_
      refine xr_go 4 (pc' := 77) (ls' := [some (.inr (some (36, 0))), some (.inl a1), some (.inl a2), some (.inl a3)]) (st' := [.inl a3, .inl a1, .inr (some (55, 0))]) (s' := (tm_wr (tm_wr (tm_wr (tm_wr (tm_wr μ2 59 0 (((μ2 36 0 29) : Int32).toNatClampNeg) a1) 60 0 (((μ2 36 0 29) : Int32).toNatClampNeg) a2) 61 0 (((μ2 36 0 29) : Int32).toNatClampNeg) a3) 36 0 29 ((μ2 36 0 29) + 1)) 54 0 ((a1).toNatClampNeg) a2)) rfl ?_
      refine xr_ias (n := 30) rfl rfl (hi.2.2.1 c1 c2) ?_
      refine xr_go 1 (pc' := 79) (ls' := [some (.inr (some (36, 0))), some (.inl a1), some (.inl a2), some (.inl a3)]) (st' := [.inl 1]) (s' := (tm_wr (tm_wr (tm_wr (tm_wr (tm_wr (tm_wr μ2 59 0 (((μ2 36 0 29) : Int32).toNatClampNeg) a1) 60 0 (((μ2 36 0 29) : Int32).toNatClampNeg) a2) 61 0 (((μ2 36 0 29) : Int32).toNatClampNeg) a3) 36 0 29 ((μ2 36 0 29) + 1)) 54 0 ((a1).toNatClampNeg) a2) 55 0 ((a1).toNatClampNeg) a3)) rfl ?_
      try simp only [if_pos c1, if_neg c2] at h
      exact xr_rt (v := some (.inl 1)) rfl h
  · skip
    refine xr_br 4 (c := (μ 36 0 29) = 16) inferInstance (a := 22) (b := 24) (ls' := [some (.inr (some (36, 0))), some (.inl a1), some (.inl a2), some (.inl a3)]) (st' := []) (s' := μ) rfl (fun cx => ?_) (fun cx => ?_)
    · exact absurd cx c1
    refine xr_go 5 (pc' := 33) (ls' := [some (.inr (some (36, 0))), some (.inl a1), some (.inl a2), some (.inl a3)]) (st' := [.inl a1, .inl (μ 36 0 29), .inr (some (59, 0))]) (s' := μ) rfl ?_
    refine xr_ias (n := 16) rfl rfl (hi.2.2.2.1 c1) ?_
    refine xr_go 5 (pc' := 43) (ls' := [some (.inr (some (36, 0))), some (.inl a1), some (.inl a2), some (.inl a3)]) (st' := [.inl a2, .inl (μ 36 0 29), .inr (some (60, 0))]) (s' := (tm_wr μ 59 0 (((μ 36 0 29) : Int32).toNatClampNeg) a1)) rfl ?_
    refine xr_ias (n := 16) rfl rfl (hi.2.2.2.1 c1) ?_
    refine xr_go 5 (pc' := 53) (ls' := [some (.inr (some (36, 0))), some (.inl a1), some (.inl a2), some (.inl a3)]) (st' := [.inl a3, .inl (μ 36 0 29), .inr (some (61, 0))]) (s' := (tm_wr (tm_wr μ 59 0 (((μ 36 0 29) : Int32).toNatClampNeg) a1) 60 0 (((μ 36 0 29) : Int32).toNatClampNeg) a2)) rfl ?_
    refine xr_ias (n := 16) rfl rfl (hi.2.2.2.1 c1) ?_
    refine xr_go 10 (pc' := 70) (ls' := [some (.inr (some (36, 0))), some (.inl a1), some (.inl a2), some (.inl a3)]) (st' := [.inl a2, .inl a1, .inr (some (54, 0))]) (s' := (tm_wr (tm_wr (tm_wr (tm_wr μ 59 0 (((μ 36 0 29) : Int32).toNatClampNeg) a1) 60 0 (((μ 36 0 29) : Int32).toNatClampNeg) a2) 61 0 (((μ 36 0 29) : Int32).toNatClampNeg) a3) 36 0 29 ((μ 36 0 29) + 1))) rfl ?_
    refine xr_ias (n := 30) rfl rfl (hi.2.2.2.2 c1) ?_
    refine xr_go 4 (pc' := 77) (ls' := [some (.inr (some (36, 0))), some (.inl a1), some (.inl a2), some (.inl a3)]) (st' := [.inl a3, .inl a1, .inr (some (55, 0))]) (s' := (tm_wr (tm_wr (tm_wr (tm_wr (tm_wr μ 59 0 (((μ 36 0 29) : Int32).toNatClampNeg) a1) 60 0 (((μ 36 0 29) : Int32).toNatClampNeg) a2) 61 0 (((μ 36 0 29) : Int32).toNatClampNeg) a3) 36 0 29 ((μ 36 0 29) + 1)) 54 0 ((a1).toNatClampNeg) a2)) rfl ?_
    refine xr_ias (n := 30) rfl rfl (hi.2.2.2.2 c1) ?_
    refine xr_go 1 (pc' := 79) (ls' := [some (.inr (some (36, 0))), some (.inl a1), some (.inl a2), some (.inl a3)]) (st' := [.inl 1]) (s' := (tm_wr (tm_wr (tm_wr (tm_wr (tm_wr (tm_wr μ 59 0 (((μ 36 0 29) : Int32).toNatClampNeg) a1) 60 0 (((μ 36 0 29) : Int32).toNatClampNeg) a2) 61 0 (((μ 36 0 29) : Int32).toNatClampNeg) a3) 36 0 29 ((μ 36 0 29) + 1)) 54 0 ((a1).toNatClampNeg) a2) 55 0 ((a1).toNatClampNeg) a3)) rfl ?_
    try simp only [if_neg c1] at h
    exact xr_rt (v := some (.inl 1)) rfl h
-- BootNetModel.grant(III)V
def cs_148 (a1 : Int32) (a2 : Int32) (a3 : Int32) (μ : tm_M) : tm_M := (if ((if (μ 36 0 3) < (μ 58 0 ((a3).toNatClampNeg)) then 0 else ((if (cv_142 a3 a1 μ) = 0 then ((if (cv_143 a3 a1 μ) = 0 then 0 else 1) : Int32) else 1) : Int32)) : Int32) = 0 then (cs_135 4 a1 a2 a3 0 μ) else (if (cv_151 a3 a1 ((μ 36 0 3) + (μ 36 0 0)) μ) = 0 then (cs_135 4 a1 a2 a3 0 (cs_151 a3 a1 ((μ 36 0 3) + (μ 36 0 0)) μ)) else (cs_135 3 a1 a2 a3 0 (tm_wr (cs_151 a3 a1 ((μ 36 0 3) + (μ 36 0 0)) μ) 57 0 ((a3).toNatClampNeg) ((if ((cs_151 a3 a1 ((μ 36 0 3) + (μ 36 0 0)) μ) 56 0 ((a3).toNatClampNeg)) = a1 then 0 else ((cs_151 a3 a1 ((μ 36 0 3) + (μ 36 0 0)) μ) 57 0 ((a3).toNatClampNeg))) : Int32)))))
def ci_148 (a1 : Int32) (a2 : Int32) (a3 : Int32) (μ : tm_M) : Prop := (tm_ix a3 30 = true) ∧ ((¬ ((μ 36 0 3) < (μ 58 0 ((a3).toNatClampNeg)))) → ci_142 a3 a1 μ) ∧ ((¬ ((μ 36 0 3) < (μ 58 0 ((a3).toNatClampNeg)))) → ((cv_142 a3 a1 μ) = 0) → ci_143 a3 a1 μ) ∧ ((((if (μ 36 0 3) < (μ 58 0 ((a3).toNatClampNeg)) then 0 else ((if (cv_142 a3 a1 μ) = 0 then ((if (cv_143 a3 a1 μ) = 0 then 0 else 1) : Int32) else 1) : Int32)) : Int32) = 0) → ci_135 4 a1 a2 a3 0 μ) ∧ ((¬ (((if (μ 36 0 3) < (μ 58 0 ((a3).toNatClampNeg)) then 0 else ((if (cv_142 a3 a1 μ) = 0 then ((if (cv_143 a3 a1 μ) = 0 then 0 else 1) : Int32) else 1) : Int32)) : Int32) = 0)) → ci_151 a3 a1 ((μ 36 0 3) + (μ 36 0 0)) μ) ∧ ((¬ (((if (μ 36 0 3) < (μ 58 0 ((a3).toNatClampNeg)) then 0 else ((if (cv_142 a3 a1 μ) = 0 then ((if (cv_143 a3 a1 μ) = 0 then 0 else 1) : Int32) else 1) : Int32)) : Int32) = 0)) → ((cv_151 a3 a1 ((μ 36 0 3) + (μ 36 0 0)) μ) = 0) → ci_135 4 a1 a2 a3 0 (cs_151 a3 a1 ((μ 36 0 3) + (μ 36 0 0)) μ)) ∧ ((¬ (((if (μ 36 0 3) < (μ 58 0 ((a3).toNatClampNeg)) then 0 else ((if (cv_142 a3 a1 μ) = 0 then ((if (cv_143 a3 a1 μ) = 0 then 0 else 1) : Int32) else 1) : Int32)) : Int32) = 0)) → (¬ ((cv_151 a3 a1 ((μ 36 0 3) + (μ 36 0 0)) μ) = 0)) → ci_135 3 a1 a2 a3 0 (tm_wr (cs_151 a3 a1 ((μ 36 0 3) + (μ 36 0 0)) μ) 57 0 ((a3).toNatClampNeg) ((if ((cs_151 a3 a1 ((μ 36 0 3) + (μ 36 0 0)) μ) 56 0 ((a3).toNatClampNeg)) = a1 then 0 else ((cs_151 a3 a1 ((μ 36 0 3) + (μ 36 0 0)) μ) 57 0 ((a3).toNatClampNeg))) : Int32)))
set_option maxHeartbeats 4000000 in
set_option maxRecDepth 10000 in
theorem tf_148 {a1 : Int32} {a2 : Int32} {a3 : Int32} (hi : ci_148 a1 a2 a3 μ) (h : Q none (cs_148 a1 a2 a3 μ)) : xm_MW (tm_I L xs) (d + 4) 148 [.inr (some (36, 0)), .inl a1, .inl a2, .inl a3] μ Q := by
  refine xr_in2 [some (.inr (some (36, 0))), some (.inl a1), some (.inl a2), some (.inl a3), none] rfl rfl ?_
  unfold cs_148 at h
  unfold ci_148 at hi
  refine xr_go 3 (pc' := 5) (ls' := [some (.inr (some (36, 0))), some (.inl a1), some (.inl a2), some (.inl a3), none]) (st' := [.inl a3, .inr (some (58, 0))]) (s' := μ) rfl ?_
  refine xr_ial (n := 30) rfl rfl (hi.1) ?_
  suffices hj1 : xr_t (tm_I L xs) (d + 3) 148 36 [some (.inr (some (36, 0))), some (.inl a1), some (.inl a2), some (.inl a3), none] [.inl ((if (μ 36 0 3) < (μ 58 0 ((a3).toNatClampNeg)) then 0 else ((if (cv_142 a3 a1 μ) = 0 then ((if (cv_143 a3 a1 μ) = 0 then 0 else 1) : Int32) else 1) : Int32)) : Int32)] μ Q by
    refine xr_br 3 (c := (μ 36 0 3) < (μ 58 0 ((a3).toNatClampNeg))) inferInstance (a := 35) (b := 13) (ls' := [some (.inr (some (36, 0))), some (.inl a1), some (.inl a2), some (.inl a3), none]) (st' := []) (s' := μ) rfl (fun c1 => ?_) (fun c1 => ?_)
    · skip
      refine xr_go 1 (pc' := 36) (ls' := [some (.inr (some (36, 0))), some (.inl a1), some (.inl a2), some (.inl a3), none]) (st' := [.inl 0]) (s' := μ) rfl ?_
      have ehj1 : ((if (μ 36 0 3) < (μ 58 0 ((a3).toNatClampNeg)) then 0 else ((if (cv_142 a3 a1 μ) = 0 then ((if (cv_143 a3 a1 μ) = 0 then 0 else 1) : Int32) else 1) : Int32)) : Int32) = 0 := by first | rfl | simp only [if_pos c1]
      rw [ehj1] at hj1
      exact hj1
    · skip
      refine xr_go 3 (pc' := 16) (ls' := [some (.inr (some (36, 0))), some (.inl a1), some (.inl a2), some (.inl a3), none]) (st' := [.inl a1, .inl a3, .inr (some (36, 0))]) (s' := μ) rfl ?_
      refine xr_cl (y' := 142) (as := [.inr (some (36, 0)), .inl a3, .inl a1]) (r := []) rfl rfl ?_
      refine tf_142 (d := d + 2) (μ := μ) (a1 := a3) (a2 := a1) (hi.2.1 c1) ?_
      show xr_t (tm_I L xs) (d + 3) 148 19 [some (.inr (some (36, 0))), some (.inl a1), some (.inl a2), some (.inl a3), none] [.inl (cv_142 a3 a1 μ)] μ Q
      suffices hj2 : xr_t (tm_I L xs) (d + 3) 148 36 [some (.inr (some (36, 0))), some (.inl a1), some (.inl a2), some (.inl a3), none] [.inl ((if (cv_142 a3 a1 μ) = 0 then ((if (cv_143 a3 a1 μ) = 0 then 0 else 1) : Int32) else 1) : Int32)] μ Q by
        refine xr_br 1 (c := (cv_142 a3 a1 μ) = 0) inferInstance (a := 22) (b := 31) (ls' := [some (.inr (some (36, 0))), some (.inl a1), some (.inl a2), some (.inl a3), none]) (st' := []) (s' := μ) rfl (fun c2 => ?_) (fun c2 => ?_)
        · skip
          refine xr_go 3 (pc' := 25) (ls' := [some (.inr (some (36, 0))), some (.inl a1), some (.inl a2), some (.inl a3), none]) (st' := [.inl a1, .inl a3, .inr (some (36, 0))]) (s' := μ) rfl ?_
          refine xr_cl (y' := 143) (as := [.inr (some (36, 0)), .inl a3, .inl a1]) (r := []) rfl rfl ?_
          refine tf_143 (d := d + 2) (μ := μ) (a1 := a3) (a2 := a1) (hi.2.2.1 c1 c2) ?_
          show xr_t (tm_I L xs) (d + 3) 148 28 [some (.inr (some (36, 0))), some (.inl a1), some (.inl a2), some (.inl a3), none] [.inl (cv_143 a3 a1 μ)] μ Q
          suffices hj3 : xr_t (tm_I L xs) (d + 3) 148 36 [some (.inr (some (36, 0))), some (.inl a1), some (.inl a2), some (.inl a3), none] [.inl ((if (cv_143 a3 a1 μ) = 0 then 0 else 1) : Int32)] μ Q by
            refine xr_br 1 (c := (cv_143 a3 a1 μ) = 0) inferInstance (a := 35) (b := 31) (ls' := [some (.inr (some (36, 0))), some (.inl a1), some (.inl a2), some (.inl a3), none]) (st' := []) (s' := μ) rfl (fun c3 => ?_) (fun c3 => ?_)
            · skip
              refine xr_go 1 (pc' := 36) (ls' := [some (.inr (some (36, 0))), some (.inl a1), some (.inl a2), some (.inl a3), none]) (st' := [.inl 0]) (s' := μ) rfl ?_
              have ehj3 : ((if (cv_143 a3 a1 μ) = 0 then 0 else 1) : Int32) = 0 := by first | rfl | simp only [if_pos c3]
              rw [ehj3] at hj3
              exact hj3
            · skip
              refine xr_go 2 (pc' := 36) (ls' := [some (.inr (some (36, 0))), some (.inl a1), some (.inl a2), some (.inl a3), none]) (st' := [.inl 1]) (s' := μ) rfl ?_
              have ehj3 : ((if (cv_143 a3 a1 μ) = 0 then 0 else 1) : Int32) = 1 := by first | rfl | simp only [if_neg c3]
              rw [ehj3] at hj3
              exact hj3
          have ehj2 : ((if (cv_142 a3 a1 μ) = 0 then ((if (cv_143 a3 a1 μ) = 0 then 0 else 1) : Int32) else 1) : Int32) = ((if (cv_143 a3 a1 μ) = 0 then 0 else 1) : Int32) := by first | rfl | simp only [if_pos c2]
          rw [ehj2] at hj2
          exact hj2
        · skip
          refine xr_go 2 (pc' := 36) (ls' := [some (.inr (some (36, 0))), some (.inl a1), some (.inl a2), some (.inl a3), none]) (st' := [.inl 1]) (s' := μ) rfl ?_
          have ehj2 : ((if (cv_142 a3 a1 μ) = 0 then ((if (cv_143 a3 a1 μ) = 0 then 0 else 1) : Int32) else 1) : Int32) = 1 := by first | rfl | simp only [if_neg c2]
          rw [ehj2] at hj2
          exact hj2
      have ehj1 : ((if (μ 36 0 3) < (μ 58 0 ((a3).toNatClampNeg)) then 0 else ((if (cv_142 a3 a1 μ) = 0 then ((if (cv_143 a3 a1 μ) = 0 then 0 else 1) : Int32) else 1) : Int32)) : Int32) = ((if (cv_142 a3 a1 μ) = 0 then ((if (cv_143 a3 a1 μ) = 0 then 0 else 1) : Int32) else 1) : Int32) := by first | rfl | simp only [if_neg c1]
      rw [ehj1] at hj1
      exact hj1
  refine xr_br 3 (c := ((if (μ 36 0 3) < (μ 58 0 ((a3).toNatClampNeg)) then 0 else ((if (cv_142 a3 a1 μ) = 0 then ((if (cv_143 a3 a1 μ) = 0 then 0 else 1) : Int32) else 1) : Int32)) : Int32) = 0) inferInstance (a := 99) (b := 43) (ls' := [some (.inr (some (36, 0))), some (.inl a1), some (.inl a2), some (.inl a3), some (.inl ((if (μ 36 0 3) < (μ 58 0 ((a3).toNatClampNeg)) then 0 else ((if (cv_142 a3 a1 μ) = 0 then ((if (cv_143 a3 a1 μ) = 0 then 0 else 1) : Int32) else 1) : Int32)) : Int32))]) (st' := []) (s' := μ) rfl (fun c4 => ?_) (fun c4 => ?_)
  · skip
    refine xr_go 6 (pc' := 105) (ls' := [some (.inr (some (36, 0))), some (.inl a1), some (.inl a2), some (.inl a3), some (.inl ((if (μ 36 0 3) < (μ 58 0 ((a3).toNatClampNeg)) then 0 else ((if (cv_142 a3 a1 μ) = 0 then ((if (cv_143 a3 a1 μ) = 0 then 0 else 1) : Int32) else 1) : Int32)) : Int32))]) (st' := [.inl 0, .inl a3, .inl a2, .inl a1, .inl 4, .inr (some (36, 0))]) (s' := μ) rfl ?_
    refine xr_cl (y' := 135) (as := [.inr (some (36, 0)), .inl 4, .inl a1, .inl a2, .inl a3, .inl 0]) (r := []) rfl rfl ?_
    refine tf_135 (d := d + 1) (μ := μ) (a1 := 4) (a2 := a1) (a3 := a2) (a4 := a3) (a5 := 0) (hi.2.2.2.1 c4) ?_
    show xr_t (tm_I L xs) (d + 3) 148 108 [some (.inr (some (36, 0))), some (.inl a1), some (.inl a2), some (.inl a3), some (.inl ((if (μ 36 0 3) < (μ 58 0 ((a3).toNatClampNeg)) then 0 else ((if (cv_142 a3 a1 μ) = 0 then ((if (cv_143 a3 a1 μ) = 0 then 0 else 1) : Int32) else 1) : Int32)) : Int32))] [] (cs_135 4 a1 a2 a3 0 μ) Q
    generalize gμ2 : (cs_135 4 a1 a2 a3 0 μ) = μ2 at h hi ⊢
    try simp only [if_pos c4] at h
    exact xr_rt (v := none) rfl h
  · skip
    refine xr_go 8 (pc' := 55) (ls' := [some (.inr (some (36, 0))), some (.inl a1), some (.inl a2), some (.inl a3), some (.inl ((if (μ 36 0 3) < (μ 58 0 ((a3).toNatClampNeg)) then 0 else ((if (cv_142 a3 a1 μ) = 0 then ((if (cv_143 a3 a1 μ) = 0 then 0 else 1) : Int32) else 1) : Int32)) : Int32))]) (st' := [.inl ((μ 36 0 3) + (μ 36 0 0)), .inl a1, .inl a3, .inr (some (36, 0))]) (s' := μ) rfl ?_
    refine xr_cl (y' := 151) (as := [.inr (some (36, 0)), .inl a3, .inl a1, .inl ((μ 36 0 3) + (μ 36 0 0))]) (r := []) rfl rfl ?_
    refine tf_151 (d := d + 0) (μ := μ) (a1 := a3) (a2 := a1) (a3 := ((μ 36 0 3) + (μ 36 0 0))) (hi.2.2.2.2.1 c4) ?_
    show xr_t (tm_I L xs) (d + 3) 148 58 [some (.inr (some (36, 0))), some (.inl a1), some (.inl a2), some (.inl a3), some (.inl ((if (μ 36 0 3) < (μ 58 0 ((a3).toNatClampNeg)) then 0 else ((if (cv_142 a3 a1 μ) = 0 then ((if (cv_143 a3 a1 μ) = 0 then 0 else 1) : Int32) else 1) : Int32)) : Int32))] [.inl (cv_151 a3 a1 ((μ 36 0 3) + (μ 36 0 0)) μ)] (cs_151 a3 a1 ((μ 36 0 3) + (μ 36 0 0)) μ) Q
    have z3 : (cv_151 a3 a1 ((μ 36 0 3) + (μ 36 0 0)) μ) = 0 ∨ (cv_151 a3 a1 ((μ 36 0 3) + (μ 36 0 0)) μ) = 1 := cz_151
    generalize gv3 : (cv_151 a3 a1 ((μ 36 0 3) + (μ 36 0 0)) μ) = v3 at h hi z3 ⊢
    generalize gμ4 : (cs_151 a3 a1 ((μ 36 0 3) + (μ 36 0 0)) μ) = μ4 at h hi ⊢
    refine xr_br 1 (c := v3 = 0) inferInstance (a := 99) (b := 61) (ls' := [some (.inr (some (36, 0))), some (.inl a1), some (.inl a2), some (.inl a3), some (.inl ((if (μ 36 0 3) < (μ 58 0 ((a3).toNatClampNeg)) then 0 else ((if (cv_142 a3 a1 μ) = 0 then ((if (cv_143 a3 a1 μ) = 0 then 0 else 1) : Int32) else 1) : Int32)) : Int32))]) (st' := []) (s' := μ4) rfl (fun c5 => ?_) (fun c5 => ?_)
    · skip
      refine xr_go 6 (pc' := 105) (ls' := [some (.inr (some (36, 0))), some (.inl a1), some (.inl a2), some (.inl a3), some (.inl ((if (μ 36 0 3) < (μ 58 0 ((a3).toNatClampNeg)) then 0 else ((if (cv_142 a3 a1 μ) = 0 then ((if (cv_143 a3 a1 μ) = 0 then 0 else 1) : Int32) else 1) : Int32)) : Int32))]) (st' := [.inl 0, .inl a3, .inl a2, .inl a1, .inl 4, .inr (some (36, 0))]) (s' := μ4) rfl ?_
      refine xr_cl (y' := 135) (as := [.inr (some (36, 0)), .inl 4, .inl a1, .inl a2, .inl a3, .inl 0]) (r := []) rfl rfl ?_
      refine tf_135 (d := d + 1) (μ := μ4) (a1 := 4) (a2 := a1) (a3 := a2) (a4 := a3) (a5 := 0) (hi.2.2.2.2.2.1 c4 c5) ?_
      show xr_t (tm_I L xs) (d + 3) 148 108 [some (.inr (some (36, 0))), some (.inl a1), some (.inl a2), some (.inl a3), some (.inl ((if (μ 36 0 3) < (μ 58 0 ((a3).toNatClampNeg)) then 0 else ((if (cv_142 a3 a1 μ) = 0 then ((if (cv_143 a3 a1 μ) = 0 then 0 else 1) : Int32) else 1) : Int32)) : Int32))] [] (cs_135 4 a1 a2 a3 0 μ4) Q
      generalize gμ6 : (cs_135 4 a1 a2 a3 0 μ4) = μ6 at h hi ⊢
      try simp only [if_neg c4, if_pos c5] at h
      exact xr_rt (v := none) rfl h
    · skip
      refine xr_go 6 (pc' := 71) (ls' := [some (.inr (some (36, 0))), some (.inl a1), some (.inl a2), some (.inl a3), some (.inl ((if (μ 36 0 3) < (μ 58 0 ((a3).toNatClampNeg)) then 0 else ((if (cv_142 a3 a1 μ) = 0 then ((if (cv_143 a3 a1 μ) = 0 then 0 else 1) : Int32) else 1) : Int32)) : Int32))]) (st' := [.inl a3, .inr (some (56, 0)), .inl a3, .inr (some (57, 0))]) (s' := μ4) rfl ?_
      refine xr_ial (n := 30) rfl rfl (hi.1) ?_
      suffices hj6 : xr_t (tm_I L xs) (d + 3) 148 86 [some (.inr (some (36, 0))), some (.inl a1), some (.inl a2), some (.inl a3), some (.inl ((if (μ 36 0 3) < (μ 58 0 ((a3).toNatClampNeg)) then 0 else ((if (cv_142 a3 a1 μ) = 0 then ((if (cv_143 a3 a1 μ) = 0 then 0 else 1) : Int32) else 1) : Int32)) : Int32))] [.inl ((if (μ4 56 0 ((a3).toNatClampNeg)) = a1 then 0 else (μ4 57 0 ((a3).toNatClampNeg))) : Int32), .inl a3, .inr (some (57, 0))] μ4 Q by
        refine xr_br 2 (c := (μ4 56 0 ((a3).toNatClampNeg)) = a1) inferInstance (a := 76) (b := 80) (ls' := [some (.inr (some (36, 0))), some (.inl a1), some (.inl a2), some (.inl a3), some (.inl ((if (μ 36 0 3) < (μ 58 0 ((a3).toNatClampNeg)) then 0 else ((if (cv_142 a3 a1 μ) = 0 then ((if (cv_143 a3 a1 μ) = 0 then 0 else 1) : Int32) else 1) : Int32)) : Int32))]) (st' := [.inl a3, .inr (some (57, 0))]) (s' := μ4) rfl (fun c6 => ?_) (fun c6 => ?_)
        · skip
          refine xr_go 2 (pc' := 86) (ls' := [some (.inr (some (36, 0))), some (.inl a1), some (.inl a2), some (.inl a3), some (.inl ((if (μ 36 0 3) < (μ 58 0 ((a3).toNatClampNeg)) then 0 else ((if (cv_142 a3 a1 μ) = 0 then ((if (cv_143 a3 a1 μ) = 0 then 0 else 1) : Int32) else 1) : Int32)) : Int32))]) (st' := [.inl 0, .inl a3, .inr (some (57, 0))]) (s' := μ4) rfl ?_
          have ehj6 : ((if (μ4 56 0 ((a3).toNatClampNeg)) = a1 then 0 else (μ4 57 0 ((a3).toNatClampNeg))) : Int32) = 0 := by first | rfl | simp only [if_pos c6]
          rw [ehj6] at hj6
          exact hj6
        · skip
          refine xr_go 3 (pc' := 85) (ls' := [some (.inr (some (36, 0))), some (.inl a1), some (.inl a2), some (.inl a3), some (.inl ((if (μ 36 0 3) < (μ 58 0 ((a3).toNatClampNeg)) then 0 else ((if (cv_142 a3 a1 μ) = 0 then ((if (cv_143 a3 a1 μ) = 0 then 0 else 1) : Int32) else 1) : Int32)) : Int32))]) (st' := [.inl a3, .inr (some (57, 0)), .inl a3, .inr (some (57, 0))]) (s' := μ4) rfl ?_
          refine xr_ial (n := 30) rfl rfl (hi.1) ?_
          have ehj6 : ((if (μ4 56 0 ((a3).toNatClampNeg)) = a1 then 0 else (μ4 57 0 ((a3).toNatClampNeg))) : Int32) = (μ4 57 0 ((a3).toNatClampNeg)) := by first | rfl | simp only [if_neg c6]
          rw [ehj6] at hj6
          exact hj6
      refine xr_ias (n := 30) rfl rfl (hi.1) ?_
      refine xr_go 6 (pc' := 93) (ls' := [some (.inr (some (36, 0))), some (.inl a1), some (.inl a2), some (.inl a3), some (.inl ((if (μ 36 0 3) < (μ 58 0 ((a3).toNatClampNeg)) then 0 else ((if (cv_142 a3 a1 μ) = 0 then ((if (cv_143 a3 a1 μ) = 0 then 0 else 1) : Int32) else 1) : Int32)) : Int32))]) (st' := [.inl 0, .inl a3, .inl a2, .inl a1, .inl 3, .inr (some (36, 0))]) (s' := (tm_wr μ4 57 0 ((a3).toNatClampNeg) ((if (μ4 56 0 ((a3).toNatClampNeg)) = a1 then 0 else (μ4 57 0 ((a3).toNatClampNeg))) : Int32))) rfl ?_
      refine xr_cl (y' := 135) (as := [.inr (some (36, 0)), .inl 3, .inl a1, .inl a2, .inl a3, .inl 0]) (r := []) rfl rfl ?_
      refine tf_135 (d := d + 1) (μ := (tm_wr μ4 57 0 ((a3).toNatClampNeg) ((if (μ4 56 0 ((a3).toNatClampNeg)) = a1 then 0 else (μ4 57 0 ((a3).toNatClampNeg))) : Int32))) (a1 := 3) (a2 := a1) (a3 := a2) (a4 := a3) (a5 := 0) (hi.2.2.2.2.2.2 c4 c5) ?_
      show xr_t (tm_I L xs) (d + 3) 148 96 [some (.inr (some (36, 0))), some (.inl a1), some (.inl a2), some (.inl a3), some (.inl ((if (μ 36 0 3) < (μ 58 0 ((a3).toNatClampNeg)) then 0 else ((if (cv_142 a3 a1 μ) = 0 then ((if (cv_143 a3 a1 μ) = 0 then 0 else 1) : Int32) else 1) : Int32)) : Int32))] [] (cs_135 3 a1 a2 a3 0 (tm_wr μ4 57 0 ((a3).toNatClampNeg) ((if (μ4 56 0 ((a3).toNatClampNeg)) = a1 then 0 else (μ4 57 0 ((a3).toNatClampNeg))) : Int32))) Q
      generalize gμ7 : (cs_135 3 a1 a2 a3 0 (tm_wr μ4 57 0 ((a3).toNatClampNeg) ((if (μ4 56 0 ((a3).toNatClampNeg)) = a1 then 0 else (μ4 57 0 ((a3).toNatClampNeg))) : Int32))) = μ7 at h hi ⊢
      refine xr_go 1 (pc' := 108) (ls' := [some (.inr (some (36, 0))), some (.inl a1), some (.inl a2), some (.inl a3), some (.inl ((if (μ 36 0 3) < (μ 58 0 ((a3).toNatClampNeg)) then 0 else ((if (cv_142 a3 a1 μ) = 0 then ((if (cv_143 a3 a1 μ) = 0 then 0 else 1) : Int32) else 1) : Int32)) : Int32))]) (st' := []) (s' := μ7) rfl ?_
      try simp only [if_neg c4, if_neg c5] at h
      exact xr_rt (v := none) rfl h
-- BootNetModel.again(I)V
def cs_152_96 (a1 : Int32) : Nat → Int32 → Int32 → Int32 → Int32 → Int32 → tm_M → tm_M
  | 0, _, _, _, _, _, μ => μ
  | n + 1, l2, l3, l4, l5, l6, μ => (if (l4 ≤ l6) ∨ (l5 = 0) then (if l5 = 0 then (tm_wr (tm_wr (tm_wr μ 64 0 ((a1).toNatClampNeg) l4) 65 0 ((a1).toNatClampNeg) ((μ 65 0 ((a1).toNatClampNeg)) + 1)) 66 0 ((a1).toNatClampNeg) ((μ 36 0 3) + 3)) else (tm_wr (tm_wr (tm_wr (tm_wr μ 46 0 ((((μ 36 0 9) - 1) : Int32).toNatClampNeg) l4) 64 0 ((a1).toNatClampNeg) l4) 65 0 ((a1).toNatClampNeg) ((μ 65 0 ((a1).toNatClampNeg)) + 1)) 66 0 ((a1).toNatClampNeg) ((μ 36 0 3) + 3))) else (cs_152_96 a1 n l2 l3 l4 l5 (l6 + 1) (tm_wr μ 48 0 ((((12 * ((μ 36 0 9) - 1)) + l6) : Int32).toNatClampNeg) (μ 50 0 (((((40 * l2) + l3) + l6) : Int32).toNatClampNeg)))))
def ci_152_96 (a1 : Int32) : Nat → Int32 → Int32 → Int32 → Int32 → Int32 → tm_M → Prop
  | 0, _, _, _, _, _, _ => False
  | n + 1, l2, l3, l4, l5, l6, μ => (((l4 ≤ l6) ∨ (l5 = 0)) → (l5 = 0) → tm_ix a1 6 = true) ∧ (((l4 ≤ l6) ∨ (l5 = 0)) → (¬ (l5 = 0)) → tm_ix ((μ 36 0 9) - 1) 32 = true) ∧ (((l4 ≤ l6) ∨ (l5 = 0)) → (¬ (l5 = 0)) → tm_ix a1 6 = true) ∧ ((¬ ((l4 ≤ l6) ∨ (l5 = 0))) → tm_ix (((40 * l2) + l3) + l6) 160 = true) ∧ ((¬ ((l4 ≤ l6) ∨ (l5 = 0))) → tm_ix ((12 * ((μ 36 0 9) - 1)) + l6) 384 = true) ∧ ((¬ ((l4 ≤ l6) ∨ (l5 = 0))) → ci_152_96 a1 n l2 l3 l4 l5 (l6 + 1) (tm_wr μ 48 0 ((((12 * ((μ 36 0 9) - 1)) + l6) : Int32).toNatClampNeg) (μ 50 0 (((((40 * l2) + l3) + l6) : Int32).toNatClampNeg))))
set_option maxHeartbeats 4000000 in
set_option maxRecDepth 10000 in
theorem tl_152_96 {a1 : Int32} : ∀ (n : Nat) (l2 : Int32) (l3 : Int32) (l4 : Int32) (l5 : Int32) (l6 : Int32) (μ : tm_M), ci_152_96 a1 n l2 l3 l4 l5 l6 μ → Q none (cs_152_96 a1 n l2 l3 l4 l5 l6 μ) → xr_t (tm_I L xs) (d + 2) 152 96 [some (.inr (some (36, 0))), some (.inl a1), some (.inl l2), some (.inl l3), some (.inl l4), some (.inl l5), some (.inl l6)] [] μ Q := by
  intro n
  induction n with
  | zero => intro l2 l3 l4 l5 l6 μ hi; exact hi.elim
  | succ n ih =>
    intro l2 l3 l4 l5 l6 μ hi h
    unfold ci_152_96 at hi
    simp only [cs_152_96] at h
    suffices hE1 : (((l4 ≤ l6) ∨ (l5 = 0)) → xr_t (tm_I L xs) (d + 2) 152 145 [some (.inr (some (36, 0))), some (.inl a1), some (.inl l2), some (.inl l3), some (.inl l4), some (.inl l5), some (.inl l6)] [] μ Q) ∧ (¬ ((l4 ≤ l6) ∨ (l5 = 0)) → xr_t (tm_I L xs) (d + 2) 152 108 [some (.inr (some (36, 0))), some (.inl a1), some (.inl l2), some (.inl l3), some (.inl l4), some (.inl l5), some (.inl l6)] [] μ Q) by
      refine xr_br 3 (c := l4 ≤ l6) inferInstance (a := 145) (b := 103) (ls' := [some (.inr (some (36, 0))), some (.inl a1), some (.inl l2), some (.inl l3), some (.inl l4), some (.inl l5), some (.inl l6)]) (st' := []) (s' := μ) rfl (fun c1 => ?_) (fun c1 => ?_)
      · skip
        exact hE1.1 (Or.inl c1)
      · skip
        refine xr_br 2 (c := l5 = 0) inferInstance (a := 145) (b := 108) (ls' := [some (.inr (some (36, 0))), some (.inl a1), some (.inl l2), some (.inl l3), some (.inl l4), some (.inl l5), some (.inl l6)]) (st' := []) (s' := μ) rfl (fun c2 => ?_) (fun c2 => ?_)
        · skip
          exact hE1.1 (Or.inr c2)
        · skip
          exact hE1.2 (fun z => z.elim c1 c2)
    refine ⟨fun c3 => ?_, fun c3 => ?_⟩
    · skip
      refine xr_br 2 (c := l5 = 0) inferInstance (a := 163) (b := 150) (ls' := [some (.inr (some (36, 0))), some (.inl a1), some (.inl l2), some (.inl l3), some (.inl l4), some (.inl l5), some (.inl l6)]) (st' := []) (s' := μ) rfl (fun c4 => ?_) (fun c4 => ?_)
      · skip
        refine xr_go 4 (pc' := 170) (ls' := [some (.inr (some (36, 0))), some (.inl a1), some (.inl l2), some (.inl l3), some (.inl l4), some (.inl l5), some (.inl l6)]) (st' := [.inl l4, .inl a1, .inr (some (64, 0))]) (s' := μ) rfl ?_
        refine xr_ias (n := 6) rfl rfl (hi.1 c3 c4) ?_
        refine xr_go 4 (pc' := 177) (ls' := [some (.inr (some (36, 0))), some (.inl a1), some (.inl l2), some (.inl l3), some (.inl l4), some (.inl l5), some (.inl l6)]) (st' := [.inl a1, .inr (some (65, 0)), .inl a1, .inr (some (65, 0))]) (s' := (tm_wr μ 64 0 ((a1).toNatClampNeg) l4)) rfl ?_
        refine xr_ial (n := 6) rfl rfl (hi.1 c3 c4) ?_
        refine xr_go 2 (pc' := 180) (ls' := [some (.inr (some (36, 0))), some (.inl a1), some (.inl l2), some (.inl l3), some (.inl l4), some (.inl l5), some (.inl l6)]) (st' := [.inl ((μ 65 0 ((a1).toNatClampNeg)) + 1), .inl a1, .inr (some (65, 0))]) (s' := (tm_wr μ 64 0 ((a1).toNatClampNeg) l4)) rfl ?_
        refine xr_ias (n := 6) rfl rfl (hi.1 c3 c4) ?_
        refine xr_go 7 (pc' := 192) (ls' := [some (.inr (some (36, 0))), some (.inl a1), some (.inl l2), some (.inl l3), some (.inl l4), some (.inl l5), some (.inl l6)]) (st' := [.inl ((μ 36 0 3) + 3), .inl a1, .inr (some (66, 0))]) (s' := (tm_wr (tm_wr μ 64 0 ((a1).toNatClampNeg) l4) 65 0 ((a1).toNatClampNeg) ((μ 65 0 ((a1).toNatClampNeg)) + 1))) rfl ?_
        refine xr_ias (n := 6) rfl rfl (hi.1 c3 c4) ?_
        try simp only [if_pos c3, if_pos c4] at h
        exact xr_rt (v := none) rfl h
      · skip
        refine xr_go 7 (pc' := 162) (ls' := [some (.inr (some (36, 0))), some (.inl a1), some (.inl l2), some (.inl l3), some (.inl l4), some (.inl l5), some (.inl l6)]) (st' := [.inl l4, .inl ((μ 36 0 9) - 1), .inr (some (46, 0))]) (s' := μ) rfl ?_
        refine xr_ias (n := 32) rfl rfl (hi.2.1 c3 c4) ?_
        refine xr_go 4 (pc' := 170) (ls' := [some (.inr (some (36, 0))), some (.inl a1), some (.inl l2), some (.inl l3), some (.inl l4), some (.inl l5), some (.inl l6)]) (st' := [.inl l4, .inl a1, .inr (some (64, 0))]) (s' := (tm_wr μ 46 0 ((((μ 36 0 9) - 1) : Int32).toNatClampNeg) l4)) rfl ?_
        refine xr_ias (n := 6) rfl rfl (hi.2.2.1 c3 c4) ?_
        refine xr_go 4 (pc' := 177) (ls' := [some (.inr (some (36, 0))), some (.inl a1), some (.inl l2), some (.inl l3), some (.inl l4), some (.inl l5), some (.inl l6)]) (st' := [.inl a1, .inr (some (65, 0)), .inl a1, .inr (some (65, 0))]) (s' := (tm_wr (tm_wr μ 46 0 ((((μ 36 0 9) - 1) : Int32).toNatClampNeg) l4) 64 0 ((a1).toNatClampNeg) l4)) rfl ?_
        refine xr_ial (n := 6) rfl rfl (hi.2.2.1 c3 c4) ?_
        refine xr_go 2 (pc' := 180) (ls' := [some (.inr (some (36, 0))), some (.inl a1), some (.inl l2), some (.inl l3), some (.inl l4), some (.inl l5), some (.inl l6)]) (st' := [.inl ((μ 65 0 ((a1).toNatClampNeg)) + 1), .inl a1, .inr (some (65, 0))]) (s' := (tm_wr (tm_wr μ 46 0 ((((μ 36 0 9) - 1) : Int32).toNatClampNeg) l4) 64 0 ((a1).toNatClampNeg) l4)) rfl ?_
        refine xr_ias (n := 6) rfl rfl (hi.2.2.1 c3 c4) ?_
        refine xr_go 7 (pc' := 192) (ls' := [some (.inr (some (36, 0))), some (.inl a1), some (.inl l2), some (.inl l3), some (.inl l4), some (.inl l5), some (.inl l6)]) (st' := [.inl ((μ 36 0 3) + 3), .inl a1, .inr (some (66, 0))]) (s' := (tm_wr (tm_wr (tm_wr μ 46 0 ((((μ 36 0 9) - 1) : Int32).toNatClampNeg) l4) 64 0 ((a1).toNatClampNeg) l4) 65 0 ((a1).toNatClampNeg) ((μ 65 0 ((a1).toNatClampNeg)) + 1))) rfl ?_
        refine xr_ias (n := 6) rfl rfl (hi.2.2.1 c3 c4) ?_
        try simp only [if_pos c3, if_neg c4] at h
        exact xr_rt (v := none) rfl h
    · skip
      refine xr_go 19 (pc' := 137) (ls' := [some (.inr (some (36, 0))), some (.inl a1), some (.inl l2), some (.inl l3), some (.inl l4), some (.inl l5), some (.inl l6)]) (st' := [.inl (((40 * l2) + l3) + l6), .inr (some (50, 0)), .inl ((12 * ((μ 36 0 9) - 1)) + l6), .inr (some (48, 0))]) (s' := μ) rfl ?_
      refine xr_ial (n := 160) rfl rfl (hi.2.2.2.1 c3) ?_
      refine xr_ias (n := 384) rfl rfl (hi.2.2.2.2.1 c3) ?_
      refine xr_go 2 (pc' := 96) (ls' := [some (.inr (some (36, 0))), some (.inl a1), some (.inl l2), some (.inl l3), some (.inl l4), some (.inl l5), some (.inl (l6 + 1))]) (st' := []) (s' := (tm_wr μ 48 0 ((((12 * ((μ 36 0 9) - 1)) + l6) : Int32).toNatClampNeg) (μ 50 0 (((((40 * l2) + l3) + l6) : Int32).toNatClampNeg)))) rfl ?_
      try simp only [if_neg c3] at h
      exact ih l2 l3 l4 l5 (l6 + 1) (tm_wr μ 48 0 ((((12 * ((μ 36 0 9) - 1)) + l6) : Int32).toNatClampNeg) (μ 50 0 (((((40 * l2) + l3) + l6) : Int32).toNatClampNeg))) (hi.2.2.2.2.2 c3) h
def cs_152 (a1 : Int32) (μ : tm_M) : tm_M := (cs_152_96 a1 64 ((μ 62 0 ((a1).toNatClampNeg)) - 1) (((μ 63 0 ((a1).toNatClampNeg)) - 1) * (μ 36 0 2)) ((if (0 : Int32) ≤ ((μ 49 0 ((((μ 62 0 ((a1).toNatClampNeg)) - 1) : Int32).toNatClampNeg)) - (((μ 63 0 ((a1).toNatClampNeg)) - 1) * (μ 36 0 2))) then ((if ((μ 49 0 ((((μ 62 0 ((a1).toNatClampNeg)) - 1) : Int32).toNatClampNeg)) - (((μ 63 0 ((a1).toNatClampNeg)) - 1) * (μ 36 0 2))) ≤ (μ 36 0 2) then ((μ 49 0 ((((μ 62 0 ((a1).toNatClampNeg)) - 1) : Int32).toNatClampNeg)) - (((μ 63 0 ((a1).toNatClampNeg)) - 1) * (μ 36 0 2))) else (μ 36 0 2)) : Int32) else 0) : Int32) ((if (32 : Int32) ≤ (μ 36 0 9) then 0 else 1) : Int32) 0 (cs_135 9 a1 0 ((μ 62 0 ((a1).toNatClampNeg)) - 1) (μ 63 0 ((a1).toNatClampNeg)) μ))
def ci_152 (a1 : Int32) (μ : tm_M) : Prop := (tm_ix a1 6 = true) ∧ (tm_ix ((μ 62 0 ((a1).toNatClampNeg)) - 1) 4 = true) ∧ (ci_135 9 a1 0 ((μ 62 0 ((a1).toNatClampNeg)) - 1) (μ 63 0 ((a1).toNatClampNeg)) μ) ∧ (ci_152_96 a1 64 ((μ 62 0 ((a1).toNatClampNeg)) - 1) (((μ 63 0 ((a1).toNatClampNeg)) - 1) * (μ 36 0 2)) ((if (0 : Int32) ≤ ((μ 49 0 ((((μ 62 0 ((a1).toNatClampNeg)) - 1) : Int32).toNatClampNeg)) - (((μ 63 0 ((a1).toNatClampNeg)) - 1) * (μ 36 0 2))) then ((if ((μ 49 0 ((((μ 62 0 ((a1).toNatClampNeg)) - 1) : Int32).toNatClampNeg)) - (((μ 63 0 ((a1).toNatClampNeg)) - 1) * (μ 36 0 2))) ≤ (μ 36 0 2) then ((μ 49 0 ((((μ 62 0 ((a1).toNatClampNeg)) - 1) : Int32).toNatClampNeg)) - (((μ 63 0 ((a1).toNatClampNeg)) - 1) * (μ 36 0 2))) else (μ 36 0 2)) : Int32) else 0) : Int32) ((if (32 : Int32) ≤ (μ 36 0 9) then 0 else 1) : Int32) 0 (cs_135 9 a1 0 ((μ 62 0 ((a1).toNatClampNeg)) - 1) (μ 63 0 ((a1).toNatClampNeg)) μ))
set_option maxHeartbeats 4000000 in
set_option maxRecDepth 10000 in
theorem tf_152 {a1 : Int32} (hi : ci_152 a1 μ) (h : Q none (cs_152 a1 μ)) : xm_MW (tm_I L xs) (d + 3) 152 [.inr (some (36, 0)), .inl a1] μ Q := by
  refine xr_in2 [some (.inr (some (36, 0))), some (.inl a1), none, none, none, none, none] rfl rfl ?_
  unfold cs_152 at h
  unfold ci_152 at hi
  refine xr_go 3 (pc' := 5) (ls' := [some (.inr (some (36, 0))), some (.inl a1), none, none, none, none, none]) (st' := [.inl a1, .inr (some (62, 0))]) (s' := μ) rfl ?_
  refine xr_ial (n := 6) rfl rfl (hi.1) ?_
  refine xr_go 6 (pc' := 14) (ls' := [some (.inr (some (36, 0))), some (.inl a1), some (.inl ((μ 62 0 ((a1).toNatClampNeg)) - 1)), none, none, none, none]) (st' := [.inl a1, .inr (some (63, 0))]) (s' := μ) rfl ?_
  refine xr_ial (n := 6) rfl rfl (hi.1) ?_
  refine xr_go 9 (pc' := 28) (ls' := [some (.inr (some (36, 0))), some (.inl a1), some (.inl ((μ 62 0 ((a1).toNatClampNeg)) - 1)), some (.inl (((μ 63 0 ((a1).toNatClampNeg)) - 1) * (μ 36 0 2))), none, none, none]) (st' := [.inl ((μ 62 0 ((a1).toNatClampNeg)) - 1), .inr (some (49, 0))]) (s' := μ) rfl ?_
  refine xr_ial (n := 4) rfl rfl (hi.2.1) ?_
  suffices hj1 : xr_t (tm_I L xs) (d + 2) 152 60 [some (.inr (some (36, 0))), some (.inl a1), some (.inl ((μ 62 0 ((a1).toNatClampNeg)) - 1)), some (.inl (((μ 63 0 ((a1).toNatClampNeg)) - 1) * (μ 36 0 2))), some (.inl ((μ 49 0 ((((μ 62 0 ((a1).toNatClampNeg)) - 1) : Int32).toNatClampNeg)) - (((μ 63 0 ((a1).toNatClampNeg)) - 1) * (μ 36 0 2)))), none, none] [.inl ((if (0 : Int32) ≤ ((μ 49 0 ((((μ 62 0 ((a1).toNatClampNeg)) - 1) : Int32).toNatClampNeg)) - (((μ 63 0 ((a1).toNatClampNeg)) - 1) * (μ 36 0 2))) then ((if ((μ 49 0 ((((μ 62 0 ((a1).toNatClampNeg)) - 1) : Int32).toNatClampNeg)) - (((μ 63 0 ((a1).toNatClampNeg)) - 1) * (μ 36 0 2))) ≤ (μ 36 0 2) then ((μ 49 0 ((((μ 62 0 ((a1).toNatClampNeg)) - 1) : Int32).toNatClampNeg)) - (((μ 63 0 ((a1).toNatClampNeg)) - 1) * (μ 36 0 2))) else (μ 36 0 2)) : Int32) else 0) : Int32)] μ Q by
    refine xr_br 5 (c := (0 : Int32) ≤ ((μ 49 0 ((((μ 62 0 ((a1).toNatClampNeg)) - 1) : Int32).toNatClampNeg)) - (((μ 63 0 ((a1).toNatClampNeg)) - 1) * (μ 36 0 2)))) inferInstance (a := 42) (b := 38) (ls' := [some (.inr (some (36, 0))), some (.inl a1), some (.inl ((μ 62 0 ((a1).toNatClampNeg)) - 1)), some (.inl (((μ 63 0 ((a1).toNatClampNeg)) - 1) * (μ 36 0 2))), some (.inl ((μ 49 0 ((((μ 62 0 ((a1).toNatClampNeg)) - 1) : Int32).toNatClampNeg)) - (((μ 63 0 ((a1).toNatClampNeg)) - 1) * (μ 36 0 2)))), none, none]) (st' := []) (s' := μ) rfl (fun c1 => ?_) (fun c1 => ?_)
    · skip
      suffices hj2 : xr_t (tm_I L xs) (d + 2) 152 60 [some (.inr (some (36, 0))), some (.inl a1), some (.inl ((μ 62 0 ((a1).toNatClampNeg)) - 1)), some (.inl (((μ 63 0 ((a1).toNatClampNeg)) - 1) * (μ 36 0 2))), some (.inl ((μ 49 0 ((((μ 62 0 ((a1).toNatClampNeg)) - 1) : Int32).toNatClampNeg)) - (((μ 63 0 ((a1).toNatClampNeg)) - 1) * (μ 36 0 2)))), none, none] [.inl ((if ((μ 49 0 ((((μ 62 0 ((a1).toNatClampNeg)) - 1) : Int32).toNatClampNeg)) - (((μ 63 0 ((a1).toNatClampNeg)) - 1) * (μ 36 0 2))) ≤ (μ 36 0 2) then ((μ 49 0 ((((μ 62 0 ((a1).toNatClampNeg)) - 1) : Int32).toNatClampNeg)) - (((μ 63 0 ((a1).toNatClampNeg)) - 1) * (μ 36 0 2))) else (μ 36 0 2)) : Int32)] μ Q by
        refine xr_br 4 (c := ((μ 49 0 ((((μ 62 0 ((a1).toNatClampNeg)) - 1) : Int32).toNatClampNeg)) - (((μ 63 0 ((a1).toNatClampNeg)) - 1) * (μ 36 0 2))) ≤ (μ 36 0 2)) inferInstance (a := 58) (b := 51) (ls' := [some (.inr (some (36, 0))), some (.inl a1), some (.inl ((μ 62 0 ((a1).toNatClampNeg)) - 1)), some (.inl (((μ 63 0 ((a1).toNatClampNeg)) - 1) * (μ 36 0 2))), some (.inl ((μ 49 0 ((((μ 62 0 ((a1).toNatClampNeg)) - 1) : Int32).toNatClampNeg)) - (((μ 63 0 ((a1).toNatClampNeg)) - 1) * (μ 36 0 2)))), none, none]) (st' := []) (s' := μ) rfl (fun c2 => ?_) (fun c2 => ?_)
        · skip
          refine xr_go 1 (pc' := 60) (ls' := [some (.inr (some (36, 0))), some (.inl a1), some (.inl ((μ 62 0 ((a1).toNatClampNeg)) - 1)), some (.inl (((μ 63 0 ((a1).toNatClampNeg)) - 1) * (μ 36 0 2))), some (.inl ((μ 49 0 ((((μ 62 0 ((a1).toNatClampNeg)) - 1) : Int32).toNatClampNeg)) - (((μ 63 0 ((a1).toNatClampNeg)) - 1) * (μ 36 0 2)))), none, none]) (st' := [.inl ((μ 49 0 ((((μ 62 0 ((a1).toNatClampNeg)) - 1) : Int32).toNatClampNeg)) - (((μ 63 0 ((a1).toNatClampNeg)) - 1) * (μ 36 0 2)))]) (s' := μ) rfl ?_
          have ehj2 : ((if ((μ 49 0 ((((μ 62 0 ((a1).toNatClampNeg)) - 1) : Int32).toNatClampNeg)) - (((μ 63 0 ((a1).toNatClampNeg)) - 1) * (μ 36 0 2))) ≤ (μ 36 0 2) then ((μ 49 0 ((((μ 62 0 ((a1).toNatClampNeg)) - 1) : Int32).toNatClampNeg)) - (((μ 63 0 ((a1).toNatClampNeg)) - 1) * (μ 36 0 2))) else (μ 36 0 2)) : Int32) = ((μ 49 0 ((((μ 62 0 ((a1).toNatClampNeg)) - 1) : Int32).toNatClampNeg)) - (((μ 63 0 ((a1).toNatClampNeg)) - 1) * (μ 36 0 2))) := by first | rfl | simp only [if_pos c2]
          rw [ehj2] at hj2
          exact hj2
        · skip
          refine xr_go 3 (pc' := 60) (ls' := [some (.inr (some (36, 0))), some (.inl a1), some (.inl ((μ 62 0 ((a1).toNatClampNeg)) - 1)), some (.inl (((μ 63 0 ((a1).toNatClampNeg)) - 1) * (μ 36 0 2))), some (.inl ((μ 49 0 ((((μ 62 0 ((a1).toNatClampNeg)) - 1) : Int32).toNatClampNeg)) - (((μ 63 0 ((a1).toNatClampNeg)) - 1) * (μ 36 0 2)))), none, none]) (st' := [.inl (μ 36 0 2)]) (s' := μ) rfl ?_
          have ehj2 : ((if ((μ 49 0 ((((μ 62 0 ((a1).toNatClampNeg)) - 1) : Int32).toNatClampNeg)) - (((μ 63 0 ((a1).toNatClampNeg)) - 1) * (μ 36 0 2))) ≤ (μ 36 0 2) then ((μ 49 0 ((((μ 62 0 ((a1).toNatClampNeg)) - 1) : Int32).toNatClampNeg)) - (((μ 63 0 ((a1).toNatClampNeg)) - 1) * (μ 36 0 2))) else (μ 36 0 2)) : Int32) = (μ 36 0 2) := by first | rfl | simp only [if_neg c2]
          rw [ehj2] at hj2
          exact hj2
      have ehj1 : ((if (0 : Int32) ≤ ((μ 49 0 ((((μ 62 0 ((a1).toNatClampNeg)) - 1) : Int32).toNatClampNeg)) - (((μ 63 0 ((a1).toNatClampNeg)) - 1) * (μ 36 0 2))) then ((if ((μ 49 0 ((((μ 62 0 ((a1).toNatClampNeg)) - 1) : Int32).toNatClampNeg)) - (((μ 63 0 ((a1).toNatClampNeg)) - 1) * (μ 36 0 2))) ≤ (μ 36 0 2) then ((μ 49 0 ((((μ 62 0 ((a1).toNatClampNeg)) - 1) : Int32).toNatClampNeg)) - (((μ 63 0 ((a1).toNatClampNeg)) - 1) * (μ 36 0 2))) else (μ 36 0 2)) : Int32) else 0) : Int32) = ((if ((μ 49 0 ((((μ 62 0 ((a1).toNatClampNeg)) - 1) : Int32).toNatClampNeg)) - (((μ 63 0 ((a1).toNatClampNeg)) - 1) * (μ 36 0 2))) ≤ (μ 36 0 2) then ((μ 49 0 ((((μ 62 0 ((a1).toNatClampNeg)) - 1) : Int32).toNatClampNeg)) - (((μ 63 0 ((a1).toNatClampNeg)) - 1) * (μ 36 0 2))) else (μ 36 0 2)) : Int32) := by first | rfl | simp only [if_pos c1]
      rw [ehj1] at hj1
      exact hj1
    · skip
      refine xr_go 2 (pc' := 60) (ls' := [some (.inr (some (36, 0))), some (.inl a1), some (.inl ((μ 62 0 ((a1).toNatClampNeg)) - 1)), some (.inl (((μ 63 0 ((a1).toNatClampNeg)) - 1) * (μ 36 0 2))), some (.inl ((μ 49 0 ((((μ 62 0 ((a1).toNatClampNeg)) - 1) : Int32).toNatClampNeg)) - (((μ 63 0 ((a1).toNatClampNeg)) - 1) * (μ 36 0 2)))), none, none]) (st' := [.inl 0]) (s' := μ) rfl ?_
      have ehj1 : ((if (0 : Int32) ≤ ((μ 49 0 ((((μ 62 0 ((a1).toNatClampNeg)) - 1) : Int32).toNatClampNeg)) - (((μ 63 0 ((a1).toNatClampNeg)) - 1) * (μ 36 0 2))) then ((if ((μ 49 0 ((((μ 62 0 ((a1).toNatClampNeg)) - 1) : Int32).toNatClampNeg)) - (((μ 63 0 ((a1).toNatClampNeg)) - 1) * (μ 36 0 2))) ≤ (μ 36 0 2) then ((μ 49 0 ((((μ 62 0 ((a1).toNatClampNeg)) - 1) : Int32).toNatClampNeg)) - (((μ 63 0 ((a1).toNatClampNeg)) - 1) * (μ 36 0 2))) else (μ 36 0 2)) : Int32) else 0) : Int32) = 0 := by first | rfl | simp only [if_neg c1]
      rw [ehj1] at hj1
      exact hj1
  suffices hj3 : xr_t (tm_I L xs) (d + 2) 152 76 [some (.inr (some (36, 0))), some (.inl a1), some (.inl ((μ 62 0 ((a1).toNatClampNeg)) - 1)), some (.inl (((μ 63 0 ((a1).toNatClampNeg)) - 1) * (μ 36 0 2))), some (.inl ((if (0 : Int32) ≤ ((μ 49 0 ((((μ 62 0 ((a1).toNatClampNeg)) - 1) : Int32).toNatClampNeg)) - (((μ 63 0 ((a1).toNatClampNeg)) - 1) * (μ 36 0 2))) then ((if ((μ 49 0 ((((μ 62 0 ((a1).toNatClampNeg)) - 1) : Int32).toNatClampNeg)) - (((μ 63 0 ((a1).toNatClampNeg)) - 1) * (μ 36 0 2))) ≤ (μ 36 0 2) then ((μ 49 0 ((((μ 62 0 ((a1).toNatClampNeg)) - 1) : Int32).toNatClampNeg)) - (((μ 63 0 ((a1).toNatClampNeg)) - 1) * (μ 36 0 2))) else (μ 36 0 2)) : Int32) else 0) : Int32)), none, none] [.inl ((if (32 : Int32) ≤ (μ 36 0 9) then 0 else 1) : Int32)] μ Q by
    refine xr_br 5 (c := (32 : Int32) ≤ (μ 36 0 9)) inferInstance (a := 75) (b := 71) (ls' := [some (.inr (some (36, 0))), some (.inl a1), some (.inl ((μ 62 0 ((a1).toNatClampNeg)) - 1)), some (.inl (((μ 63 0 ((a1).toNatClampNeg)) - 1) * (μ 36 0 2))), some (.inl ((if (0 : Int32) ≤ ((μ 49 0 ((((μ 62 0 ((a1).toNatClampNeg)) - 1) : Int32).toNatClampNeg)) - (((μ 63 0 ((a1).toNatClampNeg)) - 1) * (μ 36 0 2))) then ((if ((μ 49 0 ((((μ 62 0 ((a1).toNatClampNeg)) - 1) : Int32).toNatClampNeg)) - (((μ 63 0 ((a1).toNatClampNeg)) - 1) * (μ 36 0 2))) ≤ (μ 36 0 2) then ((μ 49 0 ((((μ 62 0 ((a1).toNatClampNeg)) - 1) : Int32).toNatClampNeg)) - (((μ 63 0 ((a1).toNatClampNeg)) - 1) * (μ 36 0 2))) else (μ 36 0 2)) : Int32) else 0) : Int32)), none, none]) (st' := []) (s' := μ) rfl (fun c3 => ?_) (fun c3 => ?_)
    · skip
      refine xr_go 1 (pc' := 76) (ls' := [some (.inr (some (36, 0))), some (.inl a1), some (.inl ((μ 62 0 ((a1).toNatClampNeg)) - 1)), some (.inl (((μ 63 0 ((a1).toNatClampNeg)) - 1) * (μ 36 0 2))), some (.inl ((if (0 : Int32) ≤ ((μ 49 0 ((((μ 62 0 ((a1).toNatClampNeg)) - 1) : Int32).toNatClampNeg)) - (((μ 63 0 ((a1).toNatClampNeg)) - 1) * (μ 36 0 2))) then ((if ((μ 49 0 ((((μ 62 0 ((a1).toNatClampNeg)) - 1) : Int32).toNatClampNeg)) - (((μ 63 0 ((a1).toNatClampNeg)) - 1) * (μ 36 0 2))) ≤ (μ 36 0 2) then ((μ 49 0 ((((μ 62 0 ((a1).toNatClampNeg)) - 1) : Int32).toNatClampNeg)) - (((μ 63 0 ((a1).toNatClampNeg)) - 1) * (μ 36 0 2))) else (μ 36 0 2)) : Int32) else 0) : Int32)), none, none]) (st' := [.inl 0]) (s' := μ) rfl ?_
      have ehj3 : ((if (32 : Int32) ≤ (μ 36 0 9) then 0 else 1) : Int32) = 0 := by first | rfl | simp only [if_pos c3]
      rw [ehj3] at hj3
      exact hj3
    · skip
      refine xr_go 2 (pc' := 76) (ls' := [some (.inr (some (36, 0))), some (.inl a1), some (.inl ((μ 62 0 ((a1).toNatClampNeg)) - 1)), some (.inl (((μ 63 0 ((a1).toNatClampNeg)) - 1) * (μ 36 0 2))), some (.inl ((if (0 : Int32) ≤ ((μ 49 0 ((((μ 62 0 ((a1).toNatClampNeg)) - 1) : Int32).toNatClampNeg)) - (((μ 63 0 ((a1).toNatClampNeg)) - 1) * (μ 36 0 2))) then ((if ((μ 49 0 ((((μ 62 0 ((a1).toNatClampNeg)) - 1) : Int32).toNatClampNeg)) - (((μ 63 0 ((a1).toNatClampNeg)) - 1) * (μ 36 0 2))) ≤ (μ 36 0 2) then ((μ 49 0 ((((μ 62 0 ((a1).toNatClampNeg)) - 1) : Int32).toNatClampNeg)) - (((μ 63 0 ((a1).toNatClampNeg)) - 1) * (μ 36 0 2))) else (μ 36 0 2)) : Int32) else 0) : Int32)), none, none]) (st' := [.inl 1]) (s' := μ) rfl ?_
      have ehj3 : ((if (32 : Int32) ≤ (μ 36 0 9) then 0 else 1) : Int32) = 1 := by first | rfl | simp only [if_neg c3]
      rw [ehj3] at hj3
      exact hj3
  refine xr_go 9 (pc' := 89) (ls' := [some (.inr (some (36, 0))), some (.inl a1), some (.inl ((μ 62 0 ((a1).toNatClampNeg)) - 1)), some (.inl (((μ 63 0 ((a1).toNatClampNeg)) - 1) * (μ 36 0 2))), some (.inl ((if (0 : Int32) ≤ ((μ 49 0 ((((μ 62 0 ((a1).toNatClampNeg)) - 1) : Int32).toNatClampNeg)) - (((μ 63 0 ((a1).toNatClampNeg)) - 1) * (μ 36 0 2))) then ((if ((μ 49 0 ((((μ 62 0 ((a1).toNatClampNeg)) - 1) : Int32).toNatClampNeg)) - (((μ 63 0 ((a1).toNatClampNeg)) - 1) * (μ 36 0 2))) ≤ (μ 36 0 2) then ((μ 49 0 ((((μ 62 0 ((a1).toNatClampNeg)) - 1) : Int32).toNatClampNeg)) - (((μ 63 0 ((a1).toNatClampNeg)) - 1) * (μ 36 0 2))) else (μ 36 0 2)) : Int32) else 0) : Int32)), some (.inl ((if (32 : Int32) ≤ (μ 36 0 9) then 0 else 1) : Int32)), none]) (st' := [.inl a1, .inr (some (63, 0)), .inl ((μ 62 0 ((a1).toNatClampNeg)) - 1), .inl 0, .inl a1, .inl 9, .inr (some (36, 0))]) (s' := μ) rfl ?_
  refine xr_ial (n := 6) rfl rfl (hi.1) ?_
  refine xr_cl (y' := 135) (as := [.inr (some (36, 0)), .inl 9, .inl a1, .inl 0, .inl ((μ 62 0 ((a1).toNatClampNeg)) - 1), .inl (μ 63 0 ((a1).toNatClampNeg))]) (r := []) rfl rfl ?_
  refine tf_135 (d := d + 0) (μ := μ) (a1 := 9) (a2 := a1) (a3 := 0) (a4 := ((μ 62 0 ((a1).toNatClampNeg)) - 1)) (a5 := (μ 63 0 ((a1).toNatClampNeg))) (hi.2.2.1) ?_
  show xr_t (tm_I L xs) (d + 2) 152 93 [some (.inr (some (36, 0))), some (.inl a1), some (.inl ((μ 62 0 ((a1).toNatClampNeg)) - 1)), some (.inl (((μ 63 0 ((a1).toNatClampNeg)) - 1) * (μ 36 0 2))), some (.inl ((if (0 : Int32) ≤ ((μ 49 0 ((((μ 62 0 ((a1).toNatClampNeg)) - 1) : Int32).toNatClampNeg)) - (((μ 63 0 ((a1).toNatClampNeg)) - 1) * (μ 36 0 2))) then ((if ((μ 49 0 ((((μ 62 0 ((a1).toNatClampNeg)) - 1) : Int32).toNatClampNeg)) - (((μ 63 0 ((a1).toNatClampNeg)) - 1) * (μ 36 0 2))) ≤ (μ 36 0 2) then ((μ 49 0 ((((μ 62 0 ((a1).toNatClampNeg)) - 1) : Int32).toNatClampNeg)) - (((μ 63 0 ((a1).toNatClampNeg)) - 1) * (μ 36 0 2))) else (μ 36 0 2)) : Int32) else 0) : Int32)), some (.inl ((if (32 : Int32) ≤ (μ 36 0 9) then 0 else 1) : Int32)), none] [] (cs_135 9 a1 0 ((μ 62 0 ((a1).toNatClampNeg)) - 1) (μ 63 0 ((a1).toNatClampNeg)) μ) Q
  generalize gμ1 : (cs_135 9 a1 0 ((μ 62 0 ((a1).toNatClampNeg)) - 1) (μ 63 0 ((a1).toNatClampNeg)) μ) = μ1 at h hi ⊢
  refine xr_go 2 (pc' := 96) (ls' := [some (.inr (some (36, 0))), some (.inl a1), some (.inl ((μ 62 0 ((a1).toNatClampNeg)) - 1)), some (.inl (((μ 63 0 ((a1).toNatClampNeg)) - 1) * (μ 36 0 2))), some (.inl ((if (0 : Int32) ≤ ((μ 49 0 ((((μ 62 0 ((a1).toNatClampNeg)) - 1) : Int32).toNatClampNeg)) - (((μ 63 0 ((a1).toNatClampNeg)) - 1) * (μ 36 0 2))) then ((if ((μ 49 0 ((((μ 62 0 ((a1).toNatClampNeg)) - 1) : Int32).toNatClampNeg)) - (((μ 63 0 ((a1).toNatClampNeg)) - 1) * (μ 36 0 2))) ≤ (μ 36 0 2) then ((μ 49 0 ((((μ 62 0 ((a1).toNatClampNeg)) - 1) : Int32).toNatClampNeg)) - (((μ 63 0 ((a1).toNatClampNeg)) - 1) * (μ 36 0 2))) else (μ 36 0 2)) : Int32) else 0) : Int32)), some (.inl ((if (32 : Int32) ≤ (μ 36 0 9) then 0 else 1) : Int32)), some (.inl 0)]) (st' := []) (s' := μ1) rfl ?_
  exact tl_152_96 64 ((μ 62 0 ((a1).toNatClampNeg)) - 1) (((μ 63 0 ((a1).toNatClampNeg)) - 1) * (μ 36 0 2)) ((if (0 : Int32) ≤ ((μ 49 0 ((((μ 62 0 ((a1).toNatClampNeg)) - 1) : Int32).toNatClampNeg)) - (((μ 63 0 ((a1).toNatClampNeg)) - 1) * (μ 36 0 2))) then ((if ((μ 49 0 ((((μ 62 0 ((a1).toNatClampNeg)) - 1) : Int32).toNatClampNeg)) - (((μ 63 0 ((a1).toNatClampNeg)) - 1) * (μ 36 0 2))) ≤ (μ 36 0 2) then ((μ 49 0 ((((μ 62 0 ((a1).toNatClampNeg)) - 1) : Int32).toNatClampNeg)) - (((μ 63 0 ((a1).toNatClampNeg)) - 1) * (μ 36 0 2))) else (μ 36 0 2)) : Int32) else 0) : Int32) ((if (32 : Int32) ≤ (μ 36 0 9) then 0 else 1) : Int32) 0 μ1 (hi.2.2.2) h
-- BootNetModel.serve(IIIII)V
def cs_146 (a1 : Int32) (a2 : Int32) (a3 : Int32) (a4 : Int32) (a5 : Int32) (μ : tm_M) : tm_M := (if a1 = 0 then (cs_147 a2 a3 μ) else (if a1 = 2 then (cs_148 a2 a3 a4 μ) else (if a1 = 5 then (tm_wr μ 58 0 ((a4).toNatClampNeg) ((if (cv_142 a4 a2 μ) = 0 then (μ 58 0 ((a4).toNatClampNeg)) else ((μ 36 0 3) + (μ 36 0 0))) : Int32)) else (if a1 = 8 then (if (μ 49 0 ((a4).toNatClampNeg)) = 0 then (cs_135 11 a2 0 a4 0 μ) else (cs_152 a2 (tm_wr (tm_wr (tm_wr μ 62 0 ((a2).toNatClampNeg) (a4 + 1)) 63 0 ((a2).toNatClampNeg) 1) 65 0 ((a2).toNatClampNeg) 0))) else (if (¬ ((μ 62 0 ((a2).toNatClampNeg)) = (a4 + 1))) ∨ (¬ ((μ 63 0 ((a2).toNatClampNeg)) = a5)) then μ else (if (μ 36 0 2) ≤ (μ 64 0 ((a2).toNatClampNeg)) then (cs_152 a2 (tm_wr (tm_wr μ 63 0 ((a2).toNatClampNeg) ((μ 63 0 ((a2).toNatClampNeg)) + 1)) 65 0 ((a2).toNatClampNeg) 0)) else (tm_wr μ 62 0 ((a2).toNatClampNeg) 0)))))))
def ci_146 (a1 : Int32) (a2 : Int32) (a3 : Int32) (a4 : Int32) (a5 : Int32) (μ : tm_M) : Prop := ((a1 = 0) → ci_147 a2 a3 μ) ∧ ((¬ (a1 = 0)) → (a1 = 2) → ci_148 a2 a3 a4 μ) ∧ ((¬ (a1 = 0)) → (¬ (a1 = 2)) → (a1 = 5) → ci_142 a4 a2 μ) ∧ ((¬ (a1 = 0)) → (¬ (a1 = 2)) → (a1 = 5) → ((cv_142 a4 a2 μ) = 0) → tm_ix a4 30 = true) ∧ ((¬ (a1 = 0)) → (¬ (a1 = 2)) → (a1 = 5) → tm_ix a4 30 = true) ∧ ((¬ (a1 = 0)) → (¬ (a1 = 2)) → (¬ (a1 = 5)) → (a1 = 8) → tm_ix a4 4 = true) ∧ ((¬ (a1 = 0)) → (¬ (a1 = 2)) → (¬ (a1 = 5)) → (a1 = 8) → ((μ 49 0 ((a4).toNatClampNeg)) = 0) → ci_135 11 a2 0 a4 0 μ) ∧ ((¬ (a1 = 0)) → (¬ (a1 = 2)) → (¬ (a1 = 5)) → (a1 = 8) → (¬ ((μ 49 0 ((a4).toNatClampNeg)) = 0)) → tm_ix a2 6 = true) ∧ ((¬ (a1 = 0)) → (¬ (a1 = 2)) → (¬ (a1 = 5)) → (a1 = 8) → (¬ ((μ 49 0 ((a4).toNatClampNeg)) = 0)) → ci_152 a2 (tm_wr (tm_wr (tm_wr μ 62 0 ((a2).toNatClampNeg) (a4 + 1)) 63 0 ((a2).toNatClampNeg) 1) 65 0 ((a2).toNatClampNeg) 0)) ∧ ((¬ (a1 = 0)) → (¬ (a1 = 2)) → (¬ (a1 = 5)) → (¬ (a1 = 8)) → tm_ix a2 6 = true) ∧ ((¬ (a1 = 0)) → (¬ (a1 = 2)) → (¬ (a1 = 5)) → (¬ (a1 = 8)) → (¬ ((¬ ((μ 62 0 ((a2).toNatClampNeg)) = (a4 + 1))) ∨ (¬ ((μ 63 0 ((a2).toNatClampNeg)) = a5)))) → ((μ 36 0 2) ≤ (μ 64 0 ((a2).toNatClampNeg))) → ci_152 a2 (tm_wr (tm_wr μ 63 0 ((a2).toNatClampNeg) ((μ 63 0 ((a2).toNatClampNeg)) + 1)) 65 0 ((a2).toNatClampNeg) 0))
set_option maxHeartbeats 4000000 in
set_option maxRecDepth 10000 in
theorem tf_146 {a1 : Int32} {a2 : Int32} {a3 : Int32} {a4 : Int32} {a5 : Int32} (hi : ci_146 a1 a2 a3 a4 a5 μ) (h : Q none (cs_146 a1 a2 a3 a4 a5 μ)) : xm_MW (tm_I L xs) (d + 5) 146 [.inr (some (36, 0)), .inl a1, .inl a2, .inl a3, .inl a4, .inl a5] μ Q := by
  refine xr_in2 [some (.inr (some (36, 0))), some (.inl a1), some (.inl a2), some (.inl a3), some (.inl a4), some (.inl a5)] rfl rfl ?_
  unfold cs_146 at h
  unfold ci_146 at hi
  refine xr_br 2 (c := a1 = 0) inferInstance (a := 4) (b := 13) (ls' := [some (.inr (some (36, 0))), some (.inl a1), some (.inl a2), some (.inl a3), some (.inl a4), some (.inl a5)]) (st' := []) (s' := μ) rfl (fun c1 => ?_) (fun c1 => ?_)
  · skip
    refine xr_go 3 (pc' := 7) (ls' := [some (.inr (some (36, 0))), some (.inl a1), some (.inl a2), some (.inl a3), some (.inl a4), some (.inl a5)]) (st' := [.inl a3, .inl a2, .inr (some (36, 0))]) (s' := μ) rfl ?_
    refine xr_cl (y' := 147) (as := [.inr (some (36, 0)), .inl a2, .inl a3]) (r := []) rfl rfl ?_
    refine tf_147 (d := d + 1) (μ := μ) (a1 := a2) (a2 := a3) (hi.1 c1) ?_
    show xr_t (tm_I L xs) (d + 4) 146 10 [some (.inr (some (36, 0))), some (.inl a1), some (.inl a2), some (.inl a3), some (.inl a4), some (.inl a5)] [] (cs_147 a2 a3 μ) Q
    generalize gμ2 : (cs_147 a2 a3 μ) = μ2 at h hi ⊢
    refine xr_go 1 (pc' := 204) (ls' := [some (.inr (some (36, 0))), some (.inl a1), some (.inl a2), some (.inl a3), some (.inl a4), some (.inl a5)]) (st' := []) (s' := μ2) rfl ?_
    try simp only [if_pos c1] at h
    exact xr_rt (v := none) rfl h
  · skip
    refine xr_br 3 (c := a1 = 2) inferInstance (a := 18) (b := 29) (ls' := [some (.inr (some (36, 0))), some (.inl a1), some (.inl a2), some (.inl a3), some (.inl a4), some (.inl a5)]) (st' := []) (s' := μ) rfl (fun c2 => ?_) (fun c2 => ?_)
    · skip
      refine xr_go 4 (pc' := 23) (ls' := [some (.inr (some (36, 0))), some (.inl a1), some (.inl a2), some (.inl a3), some (.inl a4), some (.inl a5)]) (st' := [.inl a4, .inl a3, .inl a2, .inr (some (36, 0))]) (s' := μ) rfl ?_
      refine xr_cl (y' := 148) (as := [.inr (some (36, 0)), .inl a2, .inl a3, .inl a4]) (r := []) rfl rfl ?_
      refine tf_148 (d := d + 0) (μ := μ) (a1 := a2) (a2 := a3) (a3 := a4) (hi.2.1 c1 c2) ?_
      show xr_t (tm_I L xs) (d + 4) 146 26 [some (.inr (some (36, 0))), some (.inl a1), some (.inl a2), some (.inl a3), some (.inl a4), some (.inl a5)] [] (cs_148 a2 a3 a4 μ) Q
      generalize gμ4 : (cs_148 a2 a3 a4 μ) = μ4 at h hi ⊢
      refine xr_go 1 (pc' := 204) (ls' := [some (.inr (some (36, 0))), some (.inl a1), some (.inl a2), some (.inl a3), some (.inl a4), some (.inl a5)]) (st' := []) (s' := μ4) rfl ?_
      try simp only [if_neg c1, if_pos c2] at h
      exact xr_rt (v := none) rfl h
    · skip
      refine xr_br 3 (c := a1 = 5) inferInstance (a := 34) (b := 73) (ls' := [some (.inr (some (36, 0))), some (.inl a1), some (.inl a2), some (.inl a3), some (.inl a4), some (.inl a5)]) (st' := []) (s' := μ) rfl (fun c3 => ?_) (fun c3 => ?_)
      · skip
        refine xr_go 6 (pc' := 44) (ls' := [some (.inr (some (36, 0))), some (.inl a1), some (.inl a2), some (.inl a3), some (.inl a4), some (.inl a5)]) (st' := [.inl a2, .inl a4, .inr (some (36, 0)), .inl a4, .inr (some (58, 0))]) (s' := μ) rfl ?_
        refine xr_cl (y' := 142) (as := [.inr (some (36, 0)), .inl a4, .inl a2]) (r := [.inl a4, .inr (some (58, 0))]) rfl rfl ?_
        refine tf_142 (d := d + 3) (μ := μ) (a1 := a4) (a2 := a2) (hi.2.2.1 c1 c2 c3) ?_
        show xr_t (tm_I L xs) (d + 4) 146 47 [some (.inr (some (36, 0))), some (.inl a1), some (.inl a2), some (.inl a3), some (.inl a4), some (.inl a5)] [.inl (cv_142 a4 a2 μ), .inl a4, .inr (some (58, 0))] μ Q
        have z5 : (cv_142 a4 a2 μ) = 0 ∨ (cv_142 a4 a2 μ) = 1 := cz_142
        generalize gv5 : (cv_142 a4 a2 μ) = v5 at h hi z5 ⊢
        suffices hj4 : xr_t (tm_I L xs) (d + 4) 146 69 [some (.inr (some (36, 0))), some (.inl a1), some (.inl a2), some (.inl a3), some (.inl a4), some (.inl a5)] [.inl ((if v5 = 0 then (μ 58 0 ((a4).toNatClampNeg)) else ((μ 36 0 3) + (μ 36 0 0))) : Int32), .inl a4, .inr (some (58, 0))] μ Q by
          refine xr_br 1 (c := v5 = 0) inferInstance (a := 62) (b := 50) (ls' := [some (.inr (some (36, 0))), some (.inl a1), some (.inl a2), some (.inl a3), some (.inl a4), some (.inl a5)]) (st' := [.inl a4, .inr (some (58, 0))]) (s' := μ) rfl (fun c4 => ?_) (fun c4 => ?_)
          · skip
            refine xr_go 3 (pc' := 68) (ls' := [some (.inr (some (36, 0))), some (.inl a1), some (.inl a2), some (.inl a3), some (.inl a4), some (.inl a5)]) (st' := [.inl a4, .inr (some (58, 0)), .inl a4, .inr (some (58, 0))]) (s' := μ) rfl ?_
            refine xr_ial (n := 30) rfl rfl (hi.2.2.2.1 c1 c2 c3 c4) ?_
            have ehj4 : ((if v5 = 0 then (μ 58 0 ((a4).toNatClampNeg)) else ((μ 36 0 3) + (μ 36 0 0))) : Int32) = (μ 58 0 ((a4).toNatClampNeg)) := by first | rfl | simp only [if_pos c4]
            rw [ehj4] at hj4
            exact hj4
          · skip
            refine xr_go 6 (pc' := 69) (ls' := [some (.inr (some (36, 0))), some (.inl a1), some (.inl a2), some (.inl a3), some (.inl a4), some (.inl a5)]) (st' := [.inl ((μ 36 0 3) + (μ 36 0 0)), .inl a4, .inr (some (58, 0))]) (s' := μ) rfl ?_
            have ehj4 : ((if v5 = 0 then (μ 58 0 ((a4).toNatClampNeg)) else ((μ 36 0 3) + (μ 36 0 0))) : Int32) = ((μ 36 0 3) + (μ 36 0 0)) := by first | rfl | simp only [if_neg c4]
            rw [ehj4] at hj4
            exact hj4
        refine xr_ias (n := 30) rfl rfl (hi.2.2.2.2.1 c1 c2 c3) ?_
        refine xr_go 1 (pc' := 204) (ls' := [some (.inr (some (36, 0))), some (.inl a1), some (.inl a2), some (.inl a3), some (.inl a4), some (.inl a5)]) (st' := []) (s' := (tm_wr μ 58 0 ((a4).toNatClampNeg) ((if v5 = 0 then (μ 58 0 ((a4).toNatClampNeg)) else ((μ 36 0 3) + (μ 36 0 0))) : Int32))) rfl ?_
        try simp only [if_neg c1, if_neg c2, if_pos c3] at h
        exact xr_rt (v := none) rfl h
      · skip
        refine xr_br 3 (c := a1 = 8) inferInstance (a := 79) (b := 135) (ls' := [some (.inr (some (36, 0))), some (.inl a1), some (.inl a2), some (.inl a3), some (.inl a4), some (.inl a5)]) (st' := []) (s' := μ) rfl (fun c5 => ?_) (fun c5 => ?_)
        · skip
          refine xr_go 3 (pc' := 85) (ls' := [some (.inr (some (36, 0))), some (.inl a1), some (.inl a2), some (.inl a3), some (.inl a4), some (.inl a5)]) (st' := [.inl a4, .inr (some (49, 0))]) (s' := μ) rfl ?_
          refine xr_ial (n := 4) rfl rfl (hi.2.2.2.2.2.1 c1 c2 c3 c5) ?_
          refine xr_br 1 (c := (μ 49 0 ((a4).toNatClampNeg)) = 0) inferInstance (a := 89) (b := 103) (ls' := [some (.inr (some (36, 0))), some (.inl a1), some (.inl a2), some (.inl a3), some (.inl a4), some (.inl a5)]) (st' := []) (s' := μ) rfl (fun c6 => ?_) (fun c6 => ?_)
          · skip
            refine xr_go 6 (pc' := 97) (ls' := [some (.inr (some (36, 0))), some (.inl a1), some (.inl a2), some (.inl a3), some (.inl a4), some (.inl a5)]) (st' := [.inl 0, .inl a4, .inl 0, .inl a2, .inl 11, .inr (some (36, 0))]) (s' := μ) rfl ?_
            refine xr_cl (y' := 135) (as := [.inr (some (36, 0)), .inl 11, .inl a2, .inl 0, .inl a4, .inl 0]) (r := []) rfl rfl ?_
            refine tf_135 (d := d + 2) (μ := μ) (a1 := 11) (a2 := a2) (a3 := 0) (a4 := a4) (a5 := 0) (hi.2.2.2.2.2.2.1 c1 c2 c3 c5 c6) ?_
            show xr_t (tm_I L xs) (d + 4) 146 100 [some (.inr (some (36, 0))), some (.inl a1), some (.inl a2), some (.inl a3), some (.inl a4), some (.inl a5)] [] (cs_135 11 a2 0 a4 0 μ) Q
            generalize gμ9 : (cs_135 11 a2 0 a4 0 μ) = μ9 at h hi ⊢
            refine xr_go 1 (pc' := 204) (ls' := [some (.inr (some (36, 0))), some (.inl a1), some (.inl a2), some (.inl a3), some (.inl a4), some (.inl a5)]) (st' := []) (s' := μ9) rfl ?_
            try simp only [if_neg c1, if_neg c2, if_neg c3, if_pos c5, if_pos c6] at h
            exact xr_rt (v := none) rfl h
          · skip
            refine xr_go 6 (pc' := 112) (ls' := [some (.inr (some (36, 0))), some (.inl a1), some (.inl a2), some (.inl a3), some (.inl a4), some (.inl a5)]) (st' := [.inl (a4 + 1), .inl a2, .inr (some (62, 0))]) (s' := μ) rfl ?_
            refine xr_ias (n := 6) rfl rfl (hi.2.2.2.2.2.2.2.1 c1 c2 c3 c5 c6) ?_
            refine xr_go 4 (pc' := 119) (ls' := [some (.inr (some (36, 0))), some (.inl a1), some (.inl a2), some (.inl a3), some (.inl a4), some (.inl a5)]) (st' := [.inl 1, .inl a2, .inr (some (63, 0))]) (s' := (tm_wr μ 62 0 ((a2).toNatClampNeg) (a4 + 1))) rfl ?_
            refine xr_ias (n := 6) rfl rfl (hi.2.2.2.2.2.2.2.1 c1 c2 c3 c5 c6) ?_
            refine xr_go 4 (pc' := 126) (ls' := [some (.inr (some (36, 0))), some (.inl a1), some (.inl a2), some (.inl a3), some (.inl a4), some (.inl a5)]) (st' := [.inl 0, .inl a2, .inr (some (65, 0))]) (s' := (tm_wr (tm_wr μ 62 0 ((a2).toNatClampNeg) (a4 + 1)) 63 0 ((a2).toNatClampNeg) 1)) rfl ?_
            refine xr_ias (n := 6) rfl rfl (hi.2.2.2.2.2.2.2.1 c1 c2 c3 c5 c6) ?_
            refine xr_go 2 (pc' := 129) (ls' := [some (.inr (some (36, 0))), some (.inl a1), some (.inl a2), some (.inl a3), some (.inl a4), some (.inl a5)]) (st' := [.inl a2, .inr (some (36, 0))]) (s' := (tm_wr (tm_wr (tm_wr μ 62 0 ((a2).toNatClampNeg) (a4 + 1)) 63 0 ((a2).toNatClampNeg) 1) 65 0 ((a2).toNatClampNeg) 0)) rfl ?_
            refine xr_cl (y' := 152) (as := [.inr (some (36, 0)), .inl a2]) (r := []) rfl rfl ?_
            refine tf_152 (d := d + 1) (μ := (tm_wr (tm_wr (tm_wr μ 62 0 ((a2).toNatClampNeg) (a4 + 1)) 63 0 ((a2).toNatClampNeg) 1) 65 0 ((a2).toNatClampNeg) 0)) (a1 := a2) (hi.2.2.2.2.2.2.2.2.1 c1 c2 c3 c5 c6) ?_
            show xr_t (tm_I L xs) (d + 4) 146 132 [some (.inr (some (36, 0))), some (.inl a1), some (.inl a2), some (.inl a3), some (.inl a4), some (.inl a5)] [] (cs_152 a2 (tm_wr (tm_wr (tm_wr μ 62 0 ((a2).toNatClampNeg) (a4 + 1)) 63 0 ((a2).toNatClampNeg) 1) 65 0 ((a2).toNatClampNeg) 0)) Q
            generalize gμ10 : (cs_152 a2 (tm_wr (tm_wr (tm_wr μ 62 0 ((a2).toNatClampNeg) (a4 + 1)) 63 0 ((a2).toNatClampNeg) 1) 65 0 ((a2).toNatClampNeg) 0)) = μ10 at h hi ⊢
            refine xr_go 1 (pc' := 204) (ls' := [some (.inr (some (36, 0))), some (.inl a1), some (.inl a2), some (.inl a3), some (.inl a4), some (.inl a5)]) (st' := []) (s' := μ10) rfl ?_
            try simp only [if_neg c1, if_neg c2, if_neg c3, if_pos c5, if_neg c6] at h
            exact xr_rt (v := none) rfl h
        · skip
          refine xr_go 3 (pc' := 140) (ls' := [some (.inr (some (36, 0))), some (.inl a1), some (.inl a2), some (.inl a3), some (.inl a4), some (.inl a5)]) (st' := [.inl a2, .inr (some (62, 0))]) (s' := μ) rfl ?_
          refine xr_ial (n := 6) rfl rfl (hi.2.2.2.2.2.2.2.2.2.1 c1 c2 c3 c5) ?_
          suffices hE7 : (((¬ ((μ 62 0 ((a2).toNatClampNeg)) = (a4 + 1))) ∨ (¬ ((μ 63 0 ((a2).toNatClampNeg)) = a5))) → xr_t (tm_I L xs) (d + 4) 146 204 [some (.inr (some (36, 0))), some (.inl a1), some (.inl a2), some (.inl a3), some (.inl a4), some (.inl a5)] [] μ Q) ∧ (¬ ((¬ ((μ 62 0 ((a2).toNatClampNeg)) = (a4 + 1))) ∨ (¬ ((μ 63 0 ((a2).toNatClampNeg)) = a5))) → xr_t (tm_I L xs) (d + 4) 146 159 [some (.inr (some (36, 0))), some (.inl a1), some (.inl a2), some (.inl a3), some (.inl a4), some (.inl a5)] [] μ Q) by
            refine xr_br 4 (c := (μ 62 0 ((a2).toNatClampNeg)) = (a4 + 1)) inferInstance (a := 148) (b := 204) (ls' := [some (.inr (some (36, 0))), some (.inl a1), some (.inl a2), some (.inl a3), some (.inl a4), some (.inl a5)]) (st' := []) (s' := μ) rfl (fun c7 => ?_) (fun c7 => ?_)
            · skip
              refine xr_go 3 (pc' := 153) (ls' := [some (.inr (some (36, 0))), some (.inl a1), some (.inl a2), some (.inl a3), some (.inl a4), some (.inl a5)]) (st' := [.inl a2, .inr (some (63, 0))]) (s' := μ) rfl ?_
              refine xr_ial (n := 6) rfl rfl (hi.2.2.2.2.2.2.2.2.2.1 c1 c2 c3 c5) ?_
              refine xr_br 2 (c := (μ 63 0 ((a2).toNatClampNeg)) = a5) inferInstance (a := 159) (b := 204) (ls' := [some (.inr (some (36, 0))), some (.inl a1), some (.inl a2), some (.inl a3), some (.inl a4), some (.inl a5)]) (st' := []) (s' := μ) rfl (fun c8 => ?_) (fun c8 => ?_)
              · skip
                exact hE7.2 (fun z => z.elim (fun w => w c7) (fun z => z c8))
              · skip
                exact hE7.1 (Or.inr c8)
            · skip
              exact hE7.1 (Or.inl c7)
          refine ⟨fun c9 => ?_, fun c9 => ?_⟩
          · skip
            try simp only [if_neg c1, if_neg c2, if_neg c3, if_neg c5, if_pos c9] at h
            exact xr_rt (v := none) rfl h
          · skip
            refine xr_go 3 (pc' := 164) (ls' := [some (.inr (some (36, 0))), some (.inl a1), some (.inl a2), some (.inl a3), some (.inl a4), some (.inl a5)]) (st' := [.inl a2, .inr (some (64, 0))]) (s' := μ) rfl ?_
            refine xr_ial (n := 6) rfl rfl (hi.2.2.2.2.2.2.2.2.2.1 c1 c2 c3 c5) ?_
            refine xr_br 3 (c := (μ 36 0 2) ≤ (μ 64 0 ((a2).toNatClampNeg))) inferInstance (a := 182) (b := 172) (ls' := [some (.inr (some (36, 0))), some (.inl a1), some (.inl a2), some (.inl a3), some (.inl a4), some (.inl a5)]) (st' := []) (s' := μ) rfl (fun c10 => ?_) (fun c10 => ?_)
            · skip
              refine xr_go 4 (pc' := 188) (ls' := [some (.inr (some (36, 0))), some (.inl a1), some (.inl a2), some (.inl a3), some (.inl a4), some (.inl a5)]) (st' := [.inl a2, .inr (some (63, 0)), .inl a2, .inr (some (63, 0))]) (s' := μ) rfl ?_
              refine xr_ial (n := 6) rfl rfl (hi.2.2.2.2.2.2.2.2.2.1 c1 c2 c3 c5) ?_
              refine xr_go 2 (pc' := 191) (ls' := [some (.inr (some (36, 0))), some (.inl a1), some (.inl a2), some (.inl a3), some (.inl a4), some (.inl a5)]) (st' := [.inl ((μ 63 0 ((a2).toNatClampNeg)) + 1), .inl a2, .inr (some (63, 0))]) (s' := μ) rfl ?_
              refine xr_ias (n := 6) rfl rfl (hi.2.2.2.2.2.2.2.2.2.1 c1 c2 c3 c5) ?_
              refine xr_go 4 (pc' := 198) (ls' := [some (.inr (some (36, 0))), some (.inl a1), some (.inl a2), some (.inl a3), some (.inl a4), some (.inl a5)]) (st' := [.inl 0, .inl a2, .inr (some (65, 0))]) (s' := (tm_wr μ 63 0 ((a2).toNatClampNeg) ((μ 63 0 ((a2).toNatClampNeg)) + 1))) rfl ?_
              refine xr_ias (n := 6) rfl rfl (hi.2.2.2.2.2.2.2.2.2.1 c1 c2 c3 c5) ?_
              refine xr_go 2 (pc' := 201) (ls' := [some (.inr (some (36, 0))), some (.inl a1), some (.inl a2), some (.inl a3), some (.inl a4), some (.inl a5)]) (st' := [.inl a2, .inr (some (36, 0))]) (s' := (tm_wr (tm_wr μ 63 0 ((a2).toNatClampNeg) ((μ 63 0 ((a2).toNatClampNeg)) + 1)) 65 0 ((a2).toNatClampNeg) 0)) rfl ?_
              refine xr_cl (y' := 152) (as := [.inr (some (36, 0)), .inl a2]) (r := []) rfl rfl ?_
              refine tf_152 (d := d + 1) (μ := (tm_wr (tm_wr μ 63 0 ((a2).toNatClampNeg) ((μ 63 0 ((a2).toNatClampNeg)) + 1)) 65 0 ((a2).toNatClampNeg) 0)) (a1 := a2) (hi.2.2.2.2.2.2.2.2.2.2 c1 c2 c3 c5 c9 c10) ?_
              show xr_t (tm_I L xs) (d + 4) 146 204 [some (.inr (some (36, 0))), some (.inl a1), some (.inl a2), some (.inl a3), some (.inl a4), some (.inl a5)] [] (cs_152 a2 (tm_wr (tm_wr μ 63 0 ((a2).toNatClampNeg) ((μ 63 0 ((a2).toNatClampNeg)) + 1)) 65 0 ((a2).toNatClampNeg) 0)) Q
              generalize gμ16 : (cs_152 a2 (tm_wr (tm_wr μ 63 0 ((a2).toNatClampNeg) ((μ 63 0 ((a2).toNatClampNeg)) + 1)) 65 0 ((a2).toNatClampNeg) 0)) = μ16 at h hi ⊢
              try simp only [if_neg c1, if_neg c2, if_neg c3, if_neg c5, if_neg c9, if_pos c10] at h
              exact xr_rt (v := none) rfl h
            · skip
              refine xr_go 4 (pc' := 178) (ls' := [some (.inr (some (36, 0))), some (.inl a1), some (.inl a2), some (.inl a3), some (.inl a4), some (.inl a5)]) (st' := [.inl 0, .inl a2, .inr (some (62, 0))]) (s' := μ) rfl ?_
              refine xr_ias (n := 6) rfl rfl (hi.2.2.2.2.2.2.2.2.2.1 c1 c2 c3 c5) ?_
              refine xr_go 1 (pc' := 204) (ls' := [some (.inr (some (36, 0))), some (.inl a1), some (.inl a2), some (.inl a3), some (.inl a4), some (.inl a5)]) (st' := []) (s' := (tm_wr μ 62 0 ((a2).toNatClampNeg) 0)) rfl ?_
              try simp only [if_neg c1, if_neg c2, if_neg c3, if_neg c5, if_neg c9, if_neg c10] at h
              exact xr_rt (v := none) rfl h
-- BootNetModel.holds(I)Z
def cv_156 (a1 : Int32) (μ : tm_M) : Int32 := ((if (μ 68 0 ((a1).toNatClampNeg)) < 4 then 0 else ((if (6 : Int32) < (μ 68 0 ((a1).toNatClampNeg)) then 0 else 1) : Int32)) : Int32)
def ci_156 (a1 : Int32) (μ : tm_M) : Prop := (tm_ix a1 6 = true)
theorem cz_156 {a1 : Int32} {μ : tm_M} : cv_156 a1 μ = 0 ∨ cv_156 a1 μ = 1 := by
  unfold cv_156
  (repeat' split) <;> first | exact Or.inl rfl | exact Or.inr rfl
set_option maxHeartbeats 4000000 in
set_option maxRecDepth 10000 in
theorem tf_156 {a1 : Int32} (hi : ci_156 a1 μ) (h : Q (some (.inl (cv_156 a1 μ))) μ) : xm_MW (tm_I L xs) (d + 1) 156 [.inr (some (36, 0)), .inl a1] μ Q := by
  refine xr_in2 [some (.inr (some (36, 0))), some (.inl a1)] rfl rfl ?_
  unfold cv_156 at h
  unfold ci_156 at hi
  refine xr_go 3 (pc' := 5) (ls' := [some (.inr (some (36, 0))), some (.inl a1)]) (st' := [.inl a1, .inr (some (68, 0))]) (s' := μ) rfl ?_
  refine xr_ial (n := 6) rfl rfl (hi) ?_
  suffices hj1 : xr_t (tm_I L xs) (d + 0) 156 26 [some (.inr (some (36, 0))), some (.inl a1)] [.inl ((if (μ 68 0 ((a1).toNatClampNeg)) < 4 then 0 else ((if (6 : Int32) < (μ 68 0 ((a1).toNatClampNeg)) then 0 else 1) : Int32)) : Int32)] μ Q by
    refine xr_br 2 (c := (μ 68 0 ((a1).toNatClampNeg)) < 4) inferInstance (a := 25) (b := 10) (ls' := [some (.inr (some (36, 0))), some (.inl a1)]) (st' := []) (s' := μ) rfl (fun c1 => ?_) (fun c1 => ?_)
    · skip
      refine xr_go 1 (pc' := 26) (ls' := [some (.inr (some (36, 0))), some (.inl a1)]) (st' := [.inl 0]) (s' := μ) rfl ?_
      have ehj1 : ((if (μ 68 0 ((a1).toNatClampNeg)) < 4 then 0 else ((if (6 : Int32) < (μ 68 0 ((a1).toNatClampNeg)) then 0 else 1) : Int32)) : Int32) = 0 := by first | rfl | simp only [if_pos c1]
      rw [ehj1] at hj1
      exact hj1
    · skip
      refine xr_go 3 (pc' := 15) (ls' := [some (.inr (some (36, 0))), some (.inl a1)]) (st' := [.inl a1, .inr (some (68, 0))]) (s' := μ) rfl ?_
      refine xr_ial (n := 6) rfl rfl (hi) ?_
      suffices hj2 : xr_t (tm_I L xs) (d + 0) 156 26 [some (.inr (some (36, 0))), some (.inl a1)] [.inl ((if (6 : Int32) < (μ 68 0 ((a1).toNatClampNeg)) then 0 else 1) : Int32)] μ Q by
        refine xr_br 2 (c := (6 : Int32) < (μ 68 0 ((a1).toNatClampNeg))) inferInstance (a := 25) (b := 21) (ls' := [some (.inr (some (36, 0))), some (.inl a1)]) (st' := []) (s' := μ) rfl (fun c2 => ?_) (fun c2 => ?_)
        · skip
          refine xr_go 1 (pc' := 26) (ls' := [some (.inr (some (36, 0))), some (.inl a1)]) (st' := [.inl 0]) (s' := μ) rfl ?_
          have ehj2 : ((if (6 : Int32) < (μ 68 0 ((a1).toNatClampNeg)) then 0 else 1) : Int32) = 0 := by first | rfl | simp only [if_pos c2]
          rw [ehj2] at hj2
          exact hj2
        · skip
          refine xr_go 2 (pc' := 26) (ls' := [some (.inr (some (36, 0))), some (.inl a1)]) (st' := [.inl 1]) (s' := μ) rfl ?_
          have ehj2 : ((if (6 : Int32) < (μ 68 0 ((a1).toNatClampNeg)) then 0 else 1) : Int32) = 1 := by first | rfl | simp only [if_neg c2]
          rw [ehj2] at hj2
          exact hj2
      have ehj1 : ((if (μ 68 0 ((a1).toNatClampNeg)) < 4 then 0 else ((if (6 : Int32) < (μ 68 0 ((a1).toNatClampNeg)) then 0 else 1) : Int32)) : Int32) = ((if (6 : Int32) < (μ 68 0 ((a1).toNatClampNeg)) then 0 else 1) : Int32) := by first | rfl | simp only [if_neg c1]
      rw [ehj1] at hj1
      exact hj1
  exact xr_zr rfl (fun _ => (by (repeat' split) <;> first | exact Or.inl rfl | exact Or.inr rfl)) h
-- BootNetModel.probed(II)V
def cs_163_10 (a1 : Int32) (a2 : Int32) : Nat → Int32 → Int32 → tm_M → tm_M
  | 0, _, _, μ => μ
  | n + 1, l3, l4, μ => (if (μ 36 0 38) ≤ l4 then (if l3 = 0 then μ else (cs_135 7 a1 0 a2 0 μ)) else (cs_163_10 a1 a2 n ((if l3 = 0 then ((if l4 = a1 then 0 else ((if (cv_156 l4 μ) = 0 then 0 else ((if (μ 69 0 ((l4).toNatClampNeg)) = a2 then 1 else 0) : Int32)) : Int32)) : Int32) else 1) : Int32) (l4 + 1) μ))
def ci_163_10 (a1 : Int32) (a2 : Int32) : Nat → Int32 → Int32 → tm_M → Prop
  | 0, _, _, _ => False
  | n + 1, l3, l4, μ => (((μ 36 0 38) ≤ l4) → (¬ (l3 = 0)) → ci_135 7 a1 0 a2 0 μ) ∧ ((¬ ((μ 36 0 38) ≤ l4)) → (l3 = 0) → (¬ (l4 = a1)) → ci_156 l4 μ) ∧ ((¬ ((μ 36 0 38) ≤ l4)) → (l3 = 0) → (¬ (l4 = a1)) → (¬ ((cv_156 l4 μ) = 0)) → tm_ix l4 6 = true) ∧ ((¬ ((μ 36 0 38) ≤ l4)) → ci_163_10 a1 a2 n ((if l3 = 0 then ((if l4 = a1 then 0 else ((if (cv_156 l4 μ) = 0 then 0 else ((if (μ 69 0 ((l4).toNatClampNeg)) = a2 then 1 else 0) : Int32)) : Int32)) : Int32) else 1) : Int32) (l4 + 1) μ)
set_option maxHeartbeats 4000000 in
set_option maxRecDepth 10000 in
theorem tl_163_10 {a1 : Int32} {a2 : Int32} : ∀ (n : Nat) (l3 : Int32) (l4 : Int32) (μ : tm_M), ci_163_10 a1 a2 n l3 l4 μ → Q none (cs_163_10 a1 a2 n l3 l4 μ) → xr_t (tm_I L xs) (d + 2) 163 10 [some (.inr (some (36, 0))), some (.inl a1), some (.inl a2), some (.inl l3), some (.inl l4)] [] μ Q := by
  intro n
  induction n with
  | zero => intro l3 l4 μ hi; exact hi.elim
  | succ n ih =>
    intro l3 l4 μ hi h
    unfold ci_163_10 at hi
    simp only [cs_163_10] at h
    refine xr_br 4 (c := (μ 36 0 38) ≤ l4) inferInstance (a := 61) (b := 19) (ls' := [some (.inr (some (36, 0))), some (.inl a1), some (.inl a2), some (.inl l3), some (.inl l4)]) (st' := []) (s' := μ) rfl (fun c1 => ?_) (fun c1 => ?_)
    · skip
      refine xr_br 2 (c := l3 = 0) inferInstance (a := 75) (b := 65) (ls' := [some (.inr (some (36, 0))), some (.inl a1), some (.inl a2), some (.inl l3), some (.inl l4)]) (st' := []) (s' := μ) rfl (fun c2 => ?_) (fun c2 => ?_)
      · skip
        try simp only [if_pos c1, if_pos c2] at h
        exact xr_rt (v := none) rfl h
      · skip
        refine xr_go 6 (pc' := 72) (ls' := [some (.inr (some (36, 0))), some (.inl a1), some (.inl a2), some (.inl l3), some (.inl l4)]) (st' := [.inl 0, .inl a2, .inl 0, .inl a1, .inl 7, .inr (some (36, 0))]) (s' := μ) rfl ?_
        refine xr_cl (y' := 135) (as := [.inr (some (36, 0)), .inl 7, .inl a1, .inl 0, .inl a2, .inl 0]) (r := []) rfl rfl ?_
        refine tf_135 (d := d + 0) (μ := μ) (a1 := 7) (a2 := a1) (a3 := 0) (a4 := a2) (a5 := 0) (hi.1 c1 c2) ?_
        show xr_t (tm_I L xs) (d + 2) 163 75 [some (.inr (some (36, 0))), some (.inl a1), some (.inl a2), some (.inl l3), some (.inl l4)] [] (cs_135 7 a1 0 a2 0 μ) Q
        generalize gμ1 : (cs_135 7 a1 0 a2 0 μ) = μ1 at h hi ⊢
        try simp only [if_pos c1, if_neg c2] at h
        exact xr_rt (v := none) rfl h
    · skip
      suffices hj3 : xr_t (tm_I L xs) (d + 2) 163 54 [some (.inr (some (36, 0))), some (.inl a1), some (.inl a2), some (.inl l3), some (.inl l4)] [.inl ((if l3 = 0 then ((if l4 = a1 then 0 else ((if (cv_156 l4 μ) = 0 then 0 else ((if (μ 69 0 ((l4).toNatClampNeg)) = a2 then 1 else 0) : Int32)) : Int32)) : Int32) else 1) : Int32)] μ Q by
        refine xr_br 2 (c := l3 = 0) inferInstance (a := 23) (b := 49) (ls' := [some (.inr (some (36, 0))), some (.inl a1), some (.inl a2), some (.inl l3), some (.inl l4)]) (st' := []) (s' := μ) rfl (fun c3 => ?_) (fun c3 => ?_)
        · skip
          suffices hj4 : xr_t (tm_I L xs) (d + 2) 163 54 [some (.inr (some (36, 0))), some (.inl a1), some (.inl a2), some (.inl l3), some (.inl l4)] [.inl ((if l4 = a1 then 0 else ((if (cv_156 l4 μ) = 0 then 0 else ((if (μ 69 0 ((l4).toNatClampNeg)) = a2 then 1 else 0) : Int32)) : Int32)) : Int32)] μ Q by
            refine xr_br 3 (c := l4 = a1) inferInstance (a := 53) (b := 29) (ls' := [some (.inr (some (36, 0))), some (.inl a1), some (.inl a2), some (.inl l3), some (.inl l4)]) (st' := []) (s' := μ) rfl (fun c4 => ?_) (fun c4 => ?_)
            · skip
              refine xr_go 1 (pc' := 54) (ls' := [some (.inr (some (36, 0))), some (.inl a1), some (.inl a2), some (.inl l3), some (.inl l4)]) (st' := [.inl 0]) (s' := μ) rfl ?_
              have ehj4 : ((if l4 = a1 then 0 else ((if (cv_156 l4 μ) = 0 then 0 else ((if (μ 69 0 ((l4).toNatClampNeg)) = a2 then 1 else 0) : Int32)) : Int32)) : Int32) = 0 := by first | rfl | simp only [if_pos c4]
              rw [ehj4] at hj4
              exact hj4
            · skip
              refine xr_go 2 (pc' := 32) (ls' := [some (.inr (some (36, 0))), some (.inl a1), some (.inl a2), some (.inl l3), some (.inl l4)]) (st' := [.inl l4, .inr (some (36, 0))]) (s' := μ) rfl ?_
              refine xr_cl (y' := 156) (as := [.inr (some (36, 0)), .inl l4]) (r := []) rfl rfl ?_
              refine tf_156 (d := d + 1) (μ := μ) (a1 := l4) (hi.2.1 c1 c3 c4) ?_
              show xr_t (tm_I L xs) (d + 2) 163 35 [some (.inr (some (36, 0))), some (.inl a1), some (.inl a2), some (.inl l3), some (.inl l4)] [.inl (cv_156 l4 μ)] μ Q
              suffices hj5 : xr_t (tm_I L xs) (d + 2) 163 54 [some (.inr (some (36, 0))), some (.inl a1), some (.inl a2), some (.inl l3), some (.inl l4)] [.inl ((if (cv_156 l4 μ) = 0 then 0 else ((if (μ 69 0 ((l4).toNatClampNeg)) = a2 then 1 else 0) : Int32)) : Int32)] μ Q by
                refine xr_br 1 (c := (cv_156 l4 μ) = 0) inferInstance (a := 53) (b := 38) (ls' := [some (.inr (some (36, 0))), some (.inl a1), some (.inl a2), some (.inl l3), some (.inl l4)]) (st' := []) (s' := μ) rfl (fun c5 => ?_) (fun c5 => ?_)
                · skip
                  refine xr_go 1 (pc' := 54) (ls' := [some (.inr (some (36, 0))), some (.inl a1), some (.inl a2), some (.inl l3), some (.inl l4)]) (st' := [.inl 0]) (s' := μ) rfl ?_
                  have ehj5 : ((if (cv_156 l4 μ) = 0 then 0 else ((if (μ 69 0 ((l4).toNatClampNeg)) = a2 then 1 else 0) : Int32)) : Int32) = 0 := by first | rfl | simp only [if_pos c5]
                  rw [ehj5] at hj5
                  exact hj5
                · skip
                  refine xr_go 3 (pc' := 44) (ls' := [some (.inr (some (36, 0))), some (.inl a1), some (.inl a2), some (.inl l3), some (.inl l4)]) (st' := [.inl l4, .inr (some (69, 0))]) (s' := μ) rfl ?_
                  refine xr_ial (n := 6) rfl rfl (hi.2.2.1 c1 c3 c4 c5) ?_
                  suffices hj6 : xr_t (tm_I L xs) (d + 2) 163 54 [some (.inr (some (36, 0))), some (.inl a1), some (.inl a2), some (.inl l3), some (.inl l4)] [.inl ((if (μ 69 0 ((l4).toNatClampNeg)) = a2 then 1 else 0) : Int32)] μ Q by
                    refine xr_br 2 (c := (μ 69 0 ((l4).toNatClampNeg)) = a2) inferInstance (a := 49) (b := 53) (ls' := [some (.inr (some (36, 0))), some (.inl a1), some (.inl a2), some (.inl l3), some (.inl l4)]) (st' := []) (s' := μ) rfl (fun c6 => ?_) (fun c6 => ?_)
                    · skip
                      refine xr_go 2 (pc' := 54) (ls' := [some (.inr (some (36, 0))), some (.inl a1), some (.inl a2), some (.inl l3), some (.inl l4)]) (st' := [.inl 1]) (s' := μ) rfl ?_
                      have ehj6 : ((if (μ 69 0 ((l4).toNatClampNeg)) = a2 then 1 else 0) : Int32) = 1 := by first | rfl | simp only [if_pos c6]
                      rw [ehj6] at hj6
                      exact hj6
                    · skip
                      refine xr_go 1 (pc' := 54) (ls' := [some (.inr (some (36, 0))), some (.inl a1), some (.inl a2), some (.inl l3), some (.inl l4)]) (st' := [.inl 0]) (s' := μ) rfl ?_
                      have ehj6 : ((if (μ 69 0 ((l4).toNatClampNeg)) = a2 then 1 else 0) : Int32) = 0 := by first | rfl | simp only [if_neg c6]
                      rw [ehj6] at hj6
                      exact hj6
                  have ehj5 : ((if (cv_156 l4 μ) = 0 then 0 else ((if (μ 69 0 ((l4).toNatClampNeg)) = a2 then 1 else 0) : Int32)) : Int32) = ((if (μ 69 0 ((l4).toNatClampNeg)) = a2 then 1 else 0) : Int32) := by first | rfl | simp only [if_neg c5]
                  rw [ehj5] at hj5
                  exact hj5
              have ehj4 : ((if l4 = a1 then 0 else ((if (cv_156 l4 μ) = 0 then 0 else ((if (μ 69 0 ((l4).toNatClampNeg)) = a2 then 1 else 0) : Int32)) : Int32)) : Int32) = ((if (cv_156 l4 μ) = 0 then 0 else ((if (μ 69 0 ((l4).toNatClampNeg)) = a2 then 1 else 0) : Int32)) : Int32) := by first | rfl | simp only [if_neg c4]
              rw [ehj4] at hj4
              exact hj4
          have ehj3 : ((if l3 = 0 then ((if l4 = a1 then 0 else ((if (cv_156 l4 μ) = 0 then 0 else ((if (μ 69 0 ((l4).toNatClampNeg)) = a2 then 1 else 0) : Int32)) : Int32)) : Int32) else 1) : Int32) = ((if l4 = a1 then 0 else ((if (cv_156 l4 μ) = 0 then 0 else ((if (μ 69 0 ((l4).toNatClampNeg)) = a2 then 1 else 0) : Int32)) : Int32)) : Int32) := by first | rfl | simp only [if_pos c3]
          rw [ehj3] at hj3
          exact hj3
        · skip
          refine xr_go 2 (pc' := 54) (ls' := [some (.inr (some (36, 0))), some (.inl a1), some (.inl a2), some (.inl l3), some (.inl l4)]) (st' := [.inl 1]) (s' := μ) rfl ?_
          have ehj3 : ((if l3 = 0 then ((if l4 = a1 then 0 else ((if (cv_156 l4 μ) = 0 then 0 else ((if (μ 69 0 ((l4).toNatClampNeg)) = a2 then 1 else 0) : Int32)) : Int32)) : Int32) else 1) : Int32) = 1 := by first | rfl | simp only [if_neg c3]
          rw [ehj3] at hj3
          exact hj3
      refine xr_go 3 (pc' := 10) (ls' := [some (.inr (some (36, 0))), some (.inl a1), some (.inl a2), some (.inl ((if l3 = 0 then ((if l4 = a1 then 0 else ((if (cv_156 l4 μ) = 0 then 0 else ((if (μ 69 0 ((l4).toNatClampNeg)) = a2 then 1 else 0) : Int32)) : Int32)) : Int32) else 1) : Int32)), some (.inl (l4 + 1))]) (st' := []) (s' := μ) rfl ?_
      try simp only [if_neg c1] at h
      exact ih ((if l3 = 0 then ((if l4 = a1 then 0 else ((if (cv_156 l4 μ) = 0 then 0 else ((if (μ 69 0 ((l4).toNatClampNeg)) = a2 then 1 else 0) : Int32)) : Int32)) : Int32) else 1) : Int32) (l4 + 1) μ (hi.2.2.2 c1) h
def cs_163 (a1 : Int32) (a2 : Int32) (μ : tm_M) : tm_M := (cs_163_10 a1 a2 64 (μ 40 0 ((a2).toNatClampNeg)) 0 μ)
def ci_163 (a1 : Int32) (a2 : Int32) (μ : tm_M) : Prop := (tm_ix a2 30 = true) ∧ (ci_163_10 a1 a2 64 (μ 40 0 ((a2).toNatClampNeg)) 0 μ)
set_option maxHeartbeats 4000000 in
set_option maxRecDepth 10000 in
theorem tf_163 {a1 : Int32} {a2 : Int32} (hi : ci_163 a1 a2 μ) (h : Q none (cs_163 a1 a2 μ)) : xm_MW (tm_I L xs) (d + 3) 163 [.inr (some (36, 0)), .inl a1, .inl a2] μ Q := by
  refine xr_in2 [some (.inr (some (36, 0))), some (.inl a1), some (.inl a2), none, none] rfl rfl ?_
  unfold cs_163 at h
  unfold ci_163 at hi
  refine xr_go 3 (pc' := 5) (ls' := [some (.inr (some (36, 0))), some (.inl a1), some (.inl a2), none, none]) (st' := [.inl a2, .inr (some (40, 0))]) (s' := μ) rfl ?_
  refine xr_bal (n := 30) rfl rfl (hi.1) ?_
  refine xr_go 3 (pc' := 10) (ls' := [some (.inr (some (36, 0))), some (.inl a1), some (.inl a2), some (.inl (μ 40 0 ((a2).toNatClampNeg))), some (.inl 0)]) (st' := []) (s' := μ) rfl ?_
  exact tl_163_10 64 (μ 40 0 ((a2).toNatClampNeg)) 0 μ (hi.2) h
-- BootNetModel.renumber(I)V
def cs_157 (a1 : Int32) (μ : tm_M) : tm_M := (tm_wr (tm_wr μ 36 0 4 ((μ 36 0 4) + 1)) 70 0 ((a1).toNatClampNeg) ((μ 36 0 4) + 1))
def ci_157 (a1 : Int32) (μ : tm_M) : Prop := (tm_ix a1 6 = true)
set_option maxHeartbeats 4000000 in
set_option maxRecDepth 10000 in
theorem tf_157 {a1 : Int32} (hi : ci_157 a1 μ) (h : Q none (cs_157 a1 μ)) : xm_MW (tm_I L xs) (d + 1) 157 [.inr (some (36, 0)), .inl a1] μ Q := by
  refine xr_in2 [some (.inr (some (36, 0))), some (.inl a1)] rfl rfl ?_
  unfold cs_157 at h
  unfold ci_157 at hi
  refine xr_go 11 (pc' := 19) (ls' := [some (.inr (some (36, 0))), some (.inl a1)]) (st' := [.inl ((μ 36 0 4) + 1), .inl a1, .inr (some (70, 0))]) (s' := (tm_wr μ 36 0 4 ((μ 36 0 4) + 1))) rfl ?_
  refine xr_ias (n := 6) rfl rfl (hi) ?_
  exact xr_rt (v := none) rfl h
end TF
