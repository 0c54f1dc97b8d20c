/-! Methods of the class as functions. Written by prog/gen_tf.py. -/
section TF
variable {L : Nat} {xs : Nat → Int32} {d : Nat} {μ : tm_M} {Q : Option (xm_V tm_R) → tm_M → Prop}
-- BootNet$Wire.repeat(I)Z
def cv_120 (a1 : Int32) (μ : tm_M) : Int32 := (if (μ 2 0 1) < 32 then 1 else 0)
def cs_120 (a1 : Int32) (μ : tm_M) : tm_M := (if (μ 2 0 1) < 32 then (cs_119 (((μ 3 0 ((a1).toNatClampNeg)) : Int32).toNatClampNeg) (μ 4 (((μ 3 0 ((a1).toNatClampNeg)) : Int32).toNatClampNeg) 5) μ) else μ)
def ci_120 (a1 : Int32) (μ : tm_M) : Prop := (((μ 2 0 1) < 32) → tm_ix a1 32 = true) ∧ (((μ 2 0 1) < 32) → ci_119 (((μ 3 0 ((a1).toNatClampNeg)) : Int32).toNatClampNeg) (μ 4 (((μ 3 0 ((a1).toNatClampNeg)) : Int32).toNatClampNeg) 5) μ)
theorem cz_120 {a1 : Int32} {μ : tm_M} : cv_120 a1 μ = 0 ∨ cv_120 a1 μ = 1 := by
  unfold cv_120
  (repeat' split) <;> first | exact Or.inl rfl | exact Or.inr rfl
set_option maxHeartbeats 4000000 in
set_option maxRecDepth 10000 in
theorem tf_120 {a1 : Int32} (hi : ci_120 a1 μ) (h : Q (some (.inl (cv_120 a1 μ))) (cs_120 a1 μ)) : xm_MW (tm_I L xs) (d + 3) 120 [.inr (some (2, 0)), .inl a1] μ Q := by
  refine xr_in2 [some (.inr (some (2, 0))), some (.inl a1)] rfl rfl ?_
  unfold cv_120 cs_120 at h
  unfold ci_120 at hi
  refine xr_br 4 (c := (μ 2 0 1) < 32) inferInstance (a := 11) (b := 9) (ls' := [some (.inr (some (2, 0))), some (.inl a1)]) (st' := []) (s' := μ) rfl (fun c1 => ?_) (fun c1 => ?_)
  · skip
    refine xr_go 4 (pc' := 17) (ls' := [some (.inr (some (2, 0))), some (.inl a1)]) (st' := [.inl a1, .inr (some (3, 0)), .inr (some (2, 0))]) (s' := μ) rfl ?_
    refine xr_aal (n := 32) (w := (4, ((μ 3 0 ((a1).toNatClampNeg)) : Int32).toNatClampNeg)) rfl rfl (hi.1 c1) rfl ?_
    refine xr_go 3 (pc' := 23) (ls' := [some (.inr (some (2, 0))), some (.inl a1)]) (st' := [.inl a1, .inr (some (3, 0)), .inr (some (4, ((μ 3 0 ((a1).toNatClampNeg)) : Int32).toNatClampNeg)), .inr (some (2, 0))]) (s' := μ) rfl ?_
    refine xr_aal (n := 32) (w := (4, ((μ 3 0 ((a1).toNatClampNeg)) : Int32).toNatClampNeg)) rfl rfl (hi.1 c1) rfl ?_
    refine xr_go 1 (pc' := 27) (ls' := [some (.inr (some (2, 0))), some (.inl a1)]) (st' := [.inl (μ 4 (((μ 3 0 ((a1).toNatClampNeg)) : Int32).toNatClampNeg) 5), .inr (some (4, ((μ 3 0 ((a1).toNatClampNeg)) : Int32).toNatClampNeg)), .inr (some (2, 0))]) (s' := μ) rfl ?_
    refine xr_cl (y' := 119) (as := [.inr (some (2, 0)), .inr (some (4, ((μ 3 0 ((a1).toNatClampNeg)) : Int32).toNatClampNeg)), .inl (μ 4 (((μ 3 0 ((a1).toNatClampNeg)) : Int32).toNatClampNeg) 5)]) (r := []) rfl rfl ?_
    refine tf_119 (d := d + 0) (μ := μ) (m1 := (((μ 3 0 ((a1).toNatClampNeg)) : Int32).toNatClampNeg)) (a2 := (μ 4 (((μ 3 0 ((a1).toNatClampNeg)) : Int32).toNatClampNeg) 5)) (hi.2 c1) ?_
    show xr_t (tm_I L xs) (d + 2) 120 30 [some (.inr (some (2, 0))), some (.inl a1)] [] (cs_119 (((μ 3 0 ((a1).toNatClampNeg)) : Int32).toNatClampNeg) (μ 4 (((μ 3 0 ((a1).toNatClampNeg)) : Int32).toNatClampNeg) 5) μ) Q
    generalize gμ1 : (cs_119 (((μ 3 0 ((a1).toNatClampNeg)) : Int32).toNatClampNeg) (μ 4 (((μ 3 0 ((a1).toNatClampNeg)) : Int32).toNatClampNeg) 5) μ) = μ1 at h hi ⊢
    refine xr_go 1 (pc' := 31) (ls' := [some (.inr (some (2, 0))), some (.inl a1)]) (st' := [.inl 1]) (s' := μ1) rfl ?_
    try simp only [if_pos c1] at h
    exact xr_rt (v := some (.inl 1)) rfl h
  · skip
    refine xr_go 1 (pc' := 10) (ls' := [some (.inr (some (2, 0))), some (.inl a1)]) (st' := [.inl 0]) (s' := μ) rfl ?_
    try simp only [if_neg c1] at h
    exact xr_rt (v := some (.inl 0)) rfl h
-- BootNet.alter(IZ)Z
def cv_10 (a1 : Int32) (a2 : Int32) (μ : tm_M) : Int32 := (if (cv_116 a1 μ) = 0 then 0 else (if a2 = 0 then 1 else (cv_120 a1 μ)))
def cs_10 (a1 : Int32) (a2 : Int32) (μ : tm_M) : tm_M := (if (cv_116 a1 μ) = 0 then μ else (if a2 = 0 then (cs_118 a1 μ) else (cs_120 a1 μ)))
def ci_10 (a1 : Int32) (a2 : Int32) (μ : tm_M) : Prop := ((¬ ((cv_116 a1 μ) = 0)) → (a2 = 0) → ci_118 a1 μ) ∧ ((¬ ((cv_116 a1 μ) = 0)) → (¬ (a2 = 0)) → ci_120 a1 μ)
theorem cz_10 {a1 : Int32} {a2 : Int32} {μ : tm_M} : cv_10 a1 a2 μ = 0 ∨ cv_10 a1 a2 μ = 1 := by
  unfold cv_10
  (repeat' split) <;> first | exact Or.inl rfl | exact Or.inr rfl | exact cz_116 | exact cz_120
set_option maxHeartbeats 4000000 in
set_option maxRecDepth 10000 in
theorem tf_10 {a1 : Int32} {a2 : Int32} (hi : ci_10 a1 a2 μ) (h : Q (some (.inl (cv_10 a1 a2 μ))) (cs_10 a1 a2 μ)) : xm_MW (tm_I L xs) (d + 4) 10 [.inr (some (0, 0)), .inl a1, .inl a2] μ Q := by
  refine xr_in2 [some (.inr (some (0, 0))), some (.inl a1), some (.inl a2)] rfl rfl ?_
  unfold cv_10 cs_10 at h
  unfold ci_10 at hi
  refine xr_go 3 (pc' := 5) (ls' := [some (.inr (some (0, 0))), some (.inl a1), some (.inl a2)]) (st' := [.inl a1, .inr (some (2, 0))]) (s' := μ) rfl ?_
  refine xr_cl (y' := 116) (as := [.inr (some (2, 0)), .inl a1]) (r := []) rfl rfl ?_
  refine tf_116 (d := d + 2) (μ := μ) (a1 := a1) ?_
  show xr_t (tm_I L xs) (d + 3) 10 8 [some (.inr (some (0, 0))), some (.inl a1), some (.inl a2)] [.inl (cv_116 a1 μ)] μ Q
  have z1 : (cv_116 a1 μ) = 0 ∨ (cv_116 a1 μ) = 1 := cz_116
  generalize gv1 : (cv_116 a1 μ) = v1 at h hi z1 ⊢
  refine xr_br 1 (c := v1 = 0) inferInstance (a := 11) (b := 13) (ls' := [some (.inr (some (0, 0))), some (.inl a1), some (.inl a2)]) (st' := []) (s' := μ) rfl (fun c1 => ?_) (fun c1 => ?_)
  · skip
    refine xr_go 1 (pc' := 12) (ls' := [some (.inr (some (0, 0))), some (.inl a1), some (.inl a2)]) (st' := [.inl 0]) (s' := μ) rfl ?_
    try simp only [if_pos c1] at h
    exact xr_rt (v := some (.inl 0)) rfl h
  · skip
    refine xr_br 2 (c := a2 = 0) inferInstance (a := 26) (b := 17) (ls' := [some (.inr (some (0, 0))), some (.inl a1), some (.inl a2)]) (st' := []) (s' := μ) rfl (fun c2 => ?_) (fun c2 => ?_)
    · skip
      refine xr_go 3 (pc' := 31) (ls' := [some (.inr (some (0, 0))), some (.inl a1), some (.inl a2)]) (st' := [.inl a1, .inr (some (2, 0))]) (s' := μ) rfl ?_
      refine xr_cl (y' := 118) (as := [.inr (some (2, 0)), .inl a1]) (r := []) rfl rfl ?_
      refine tf_118 (d := d + 2) (μ := μ) (a1 := a1) (hi.1 c1 c2) ?_
      show xr_t (tm_I L xs) (d + 3) 10 34 [some (.inr (some (0, 0))), some (.inl a1), some (.inl a2)] [.inr (some (4, (cv_118 a1 μ)))] (cs_118 a1 μ) Q
      generalize gv2 : (cv_118 a1 μ) = v2 at h hi ⊢
      generalize gμ3 : (cs_118 a1 μ) = μ3 at h hi ⊢
      refine xr_go 2 (pc' := 36) (ls' := [some (.inr (some (0, 0))), some (.inl a1), some (.inl a2)]) (st' := [.inl 1]) (s' := μ3) rfl ?_
      try simp only [if_neg c1, if_pos c2] at h
      exact xr_rt (v := some (.inl 1)) rfl h
    · skip
      refine xr_go 3 (pc' := 22) (ls' := [some (.inr (some (0, 0))), some (.inl a1), some (.inl a2)]) (st' := [.inl a1, .inr (some (2, 0))]) (s' := μ) rfl ?_
      refine xr_cl (y' := 120) (as := [.inr (some (2, 0)), .inl a1]) (r := []) rfl rfl ?_
      refine tf_120 (d := d + 0) (μ := μ) (a1 := a1) (hi.2 c1 c2) ?_
      show xr_t (tm_I L xs) (d + 3) 10 25 [some (.inr (some (0, 0))), some (.inl a1), some (.inl a2)] [.inl (cv_120 a1 μ)] (cs_120 a1 μ) Q
      have z4 : (cv_120 a1 μ) = 0 ∨ (cv_120 a1 μ) = 1 := cz_120
      generalize gv4 : (cv_120 a1 μ) = v4 at h hi z4 ⊢
      generalize gμ5 : (cs_120 a1 μ) = μ5 at h hi ⊢
      try simp only [if_neg c1, if_neg c2] at h
      exact xr_zr rfl (fun _ => z4) h
-- BootNet$Server.repeatDueBlocks()V
def cs_84_2  : Nat → Int32 → tm_M → tm_M
  | 0, _, μ => μ
  | n + 1, l1, μ => (if (μ 6 0 5) ≤ l1 then μ else (if ((μ 21 ((l1).toNatClampNeg) 0) = 0) ∨ ((μ 1 0 3) < (μ 21 ((l1).toNatClampNeg) 4)) then (cs_84_2 n (l1 + 1) μ) else (if (μ 21 ((l1).toNatClampNeg) 3) < (μ 1 0 1) then (cs_84_2 n (l1 + 1) (cs_95 l1 ((l1).toNatClampNeg) (tm_wr μ 21 ((l1).toNatClampNeg) 3 ((μ 21 ((l1).toNatClampNeg) 3) + 1)))) else (cs_84_2 n (l1 + 1) (tm_wr μ 21 ((l1).toNatClampNeg) 0 0)))))
def ci_84_2  : Nat → Int32 → tm_M → Prop
  | 0, _, _ => False
  | n + 1, l1, μ => ((¬ ((μ 6 0 5) ≤ l1)) → tm_ix l1 6 = true) ∧ ((¬ ((μ 6 0 5) ≤ l1)) → (((μ 21 ((l1).toNatClampNeg) 0) = 0) ∨ ((μ 1 0 3) < (μ 21 ((l1).toNatClampNeg) 4))) → ci_84_2 n (l1 + 1) μ) ∧ ((¬ ((μ 6 0 5) ≤ l1)) → (¬ (((μ 21 ((l1).toNatClampNeg) 0) = 0) ∨ ((μ 1 0 3) < (μ 21 ((l1).toNatClampNeg) 4)))) → ((μ 21 ((l1).toNatClampNeg) 3) < (μ 1 0 1)) → ci_95 l1 ((l1).toNatClampNeg) (tm_wr μ 21 ((l1).toNatClampNeg) 3 ((μ 21 ((l1).toNatClampNeg) 3) + 1))) ∧ ((¬ ((μ 6 0 5) ≤ l1)) → (¬ (((μ 21 ((l1).toNatClampNeg) 0) = 0) ∨ ((μ 1 0 3) < (μ 21 ((l1).toNatClampNeg) 4)))) → ((μ 21 ((l1).toNatClampNeg) 3) < (μ 1 0 1)) → ci_84_2 n (l1 + 1) (cs_95 l1 ((l1).toNatClampNeg) (tm_wr μ 21 ((l1).toNatClampNeg) 3 ((μ 21 ((l1).toNatClampNeg) 3) + 1)))) ∧ ((¬ ((μ 6 0 5) ≤ l1)) → (¬ (((μ 21 ((l1).toNatClampNeg) 0) = 0) ∨ ((μ 1 0 3) < (μ 21 ((l1).toNatClampNeg) 4)))) → (¬ ((μ 21 ((l1).toNatClampNeg) 3) < (μ 1 0 1))) → ci_84_2 n (l1 + 1) (tm_wr μ 21 ((l1).toNatClampNeg) 0 0))
set_option maxHeartbeats 4000000 in
set_option maxRecDepth 10000 in
theorem tl_84_2  : ∀ (n : Nat) (l1 : Int32) (o2 : Option (xm_V tm_R)) (μ : tm_M), ci_84_2 n l1 μ → Q none (cs_84_2 n l1 μ) → xr_t (tm_I L xs) (d + 3) 84 2 [some (.inr (some (19, 0))), some (.inl l1), o2] [] μ Q := by
  intro n
  induction n with
  | zero => intro l1 o2 μ hi; exact hi.elim
  | succ n ih =>
    intro l1 o2 μ hi h
    unfold ci_84_2 at hi
    simp only [cs_84_2] at h
    refine xr_br 5 (c := (μ 6 0 5) ≤ l1) inferInstance (a := 85) (b := 13) (ls' := [some (.inr (some (19, 0))), some (.inl l1), o2]) (st' := []) (s' := μ) rfl (fun c1 => ?_) (fun c1 => ?_)
    · skip
      try simp only [if_pos c1] at h
      exact xr_rt (v := none) rfl h
    · skip
      refine xr_go 3 (pc' := 18) (ls' := [some (.inr (some (19, 0))), some (.inl l1), o2]) (st' := [.inl l1, .inr (some (20, 0))]) (s' := μ) rfl ?_
      refine xr_aal (n := 6) (w := (21, (l1).toNatClampNeg)) rfl rfl (hi.1 c1) rfl ?_
      suffices hE2 : ((((μ 21 ((l1).toNatClampNeg) 0) = 0) ∨ ((μ 1 0 3) < (μ 21 ((l1).toNatClampNeg) 4))) → xr_t (tm_I L xs) (d + 3) 84 79 [some (.inr (some (19, 0))), some (.inl l1), some (.inr (some (21, (l1).toNatClampNeg)))] [] μ Q) ∧ (¬ (((μ 21 ((l1).toNatClampNeg) 0) = 0) ∨ ((μ 1 0 3) < (μ 21 ((l1).toNatClampNeg) 4))) → xr_t (tm_I L xs) (d + 3) 84 41 [some (.inr (some (19, 0))), some (.inl l1), some (.inr (some (21, (l1).toNatClampNeg)))] [] μ Q) by
        refine xr_br 4 (c := (μ 21 ((l1).toNatClampNeg) 0) = 0) inferInstance (a := 79) (b := 27) (ls' := [some (.inr (some (19, 0))), some (.inl l1), some (.inr (some (21, (l1).toNatClampNeg)))]) (st' := []) (s' := μ) rfl (fun c2 => ?_) (fun c2 => ?_)
        · skip
          exact hE2.1 (Or.inl c2)
        · skip
          refine xr_br 6 (c := (μ 1 0 3) < (μ 21 ((l1).toNatClampNeg) 4)) inferInstance (a := 79) (b := 41) (ls' := [some (.inr (some (19, 0))), some (.inl l1), some (.inr (some (21, (l1).toNatClampNeg)))]) (st' := []) (s' := μ) rfl (fun c3 => ?_) (fun c3 => ?_)
          · skip
            exact hE2.1 (Or.inr c3)
          · skip
            exact hE2.2 (fun z => z.elim c2 c3)
      refine ⟨fun c4 => ?_, fun c4 => ?_⟩
      · skip
        refine xr_go 2 (pc' := 2) (ls' := [some (.inr (some (19, 0))), some (.inl (l1 + 1)), some (.inr (some (21, (l1).toNatClampNeg)))]) (st' := []) (s' := μ) rfl ?_
        try simp only [if_neg c1, if_pos c4] at h
        exact ih (l1 + 1) (some (.inr (some (21, (l1).toNatClampNeg)))) μ (hi.2.1 c1 c4) h
      · skip
        refine xr_br 6 (c := (μ 21 ((l1).toNatClampNeg) 3) < (μ 1 0 1)) inferInstance (a := 63) (b := 55) (ls' := [some (.inr (some (19, 0))), some (.inl l1), some (.inr (some (21, (l1).toNatClampNeg)))]) (st' := []) (s' := μ) rfl (fun c5 => ?_) (fun c5 => ?_)
        · skip
          refine xr_go 9 (pc' := 76) (ls' := [some (.inr (some (19, 0))), some (.inl l1), some (.inr (some (21, (l1).toNatClampNeg)))]) (st' := [.inr (some (21, (l1).toNatClampNeg)), .inl l1, .inr (some (19, 0))]) (s' := (tm_wr μ 21 ((l1).toNatClampNeg) 3 ((μ 21 ((l1).toNatClampNeg) 3) + 1))) rfl ?_
          refine xr_cl (y' := 95) (as := [.inr (some (19, 0)), .inl l1, .inr (some (21, (l1).toNatClampNeg))]) (r := []) rfl rfl ?_
          refine tf_95 (d := d + 0) (μ := (tm_wr μ 21 ((l1).toNatClampNeg) 3 ((μ 21 ((l1).toNatClampNeg) 3) + 1))) (a1 := l1) (m2 := ((l1).toNatClampNeg)) (hi.2.2.1 c1 c4 c5) ?_
          show xr_t (tm_I L xs) (d + 3) 84 79 [some (.inr (some (19, 0))), some (.inl l1), some (.inr (some (21, (l1).toNatClampNeg)))] [] (cs_95 l1 ((l1).toNatClampNeg) (tm_wr μ 21 ((l1).toNatClampNeg) 3 ((μ 21 ((l1).toNatClampNeg) 3) + 1))) Q
          generalize gμ2 : (cs_95 l1 ((l1).toNatClampNeg) (tm_wr μ 21 ((l1).toNatClampNeg) 3 ((μ 21 ((l1).toNatClampNeg) 3) + 1))) = μ2 at h hi ⊢
          refine xr_go 2 (pc' := 2) (ls' := [some (.inr (some (19, 0))), some (.inl (l1 + 1)), some (.inr (some (21, (l1).toNatClampNeg)))]) (st' := []) (s' := μ2) rfl ?_
          try simp only [if_neg c1, if_neg c4, if_pos c5] at h
          exact ih (l1 + 1) (some (.inr (some (21, (l1).toNatClampNeg)))) μ2 (hi.2.2.2.1 c1 c4 c5) h
        · skip
          refine xr_go 6 (pc' := 2) (ls' := [some (.inr (some (19, 0))), some (.inl (l1 + 1)), some (.inr (some (21, (l1).toNatClampNeg)))]) (st' := []) (s' := (tm_wr μ 21 ((l1).toNatClampNeg) 0 0)) rfl ?_
          try simp only [if_neg c1, if_neg c4, if_neg c5] at h
          exact ih (l1 + 1) (some (.inr (some (21, (l1).toNatClampNeg)))) (tm_wr μ 21 ((l1).toNatClampNeg) 0 0) (hi.2.2.2.2 c1 c4 c5) h
def cs_84  (μ : tm_M) : tm_M := (cs_84_2 64 0 μ)
def ci_84  (μ : tm_M) : Prop := (ci_84_2 64 0 μ)
set_option maxHeartbeats 4000000 in
set_option maxRecDepth 10000 in
theorem tf_84  (hi : ci_84 μ) (h : Q none (cs_84 μ)) : xm_MW (tm_I L xs) (d + 4) 84 [.inr (some (19, 0))] μ Q := by
  refine xr_in2 [some (.inr (some (19, 0))), none, none] rfl rfl ?_
  unfold cs_84 at h
  unfold ci_84 at hi
  refine xr_go 2 (pc' := 2) (ls' := [some (.inr (some (19, 0))), some (.inl 0), none]) (st' := []) (s' := μ) rfl ?_
  exact tl_84_2 64 0 none μ (hi) h
-- BootNet$Loading.tryAgain()V
def cs_66 (i : Nat) (μ : tm_M) : tm_M := (if (μ 34 i 8) < (μ 1 0 1) then (if (μ 34 i 7) = 1 then (cs_71 i (tm_wr (tm_wr μ 34 i 8 ((μ 34 i 8) + 1)) 34 i 9 ((μ 1 0 3) + 3))) else (tm_wr (tm_wr μ 34 i 8 ((μ 34 i 8) + 1)) 34 i 9 ((μ 1 0 3) + 3))) else (tm_wr μ 34 i 11 6))
def ci_66 (i : Nat) (μ : tm_M) : Prop := (((μ 34 i 8) < (μ 1 0 1)) → ((μ 34 i 7) = 1) → ci_71 i (tm_wr (tm_wr μ 34 i 8 ((μ 34 i 8) + 1)) 34 i 9 ((μ 1 0 3) + 3)))
set_option maxHeartbeats 4000000 in
set_option maxRecDepth 10000 in
theorem tf_66 {i : Nat} (hi : ci_66 i μ) (h : Q none (cs_66 i μ)) : xm_MW (tm_I L xs) (d + 3) 66 [.inr (some (34, i))] μ Q := by
  refine xr_in2 [some (.inr (some (34, i)))] rfl rfl ?_
  unfold cs_66 at h
  unfold ci_66 at hi
  refine xr_br 6 (c := (μ 34 i 8) < (μ 1 0 1)) inferInstance (a := 21) (b := 14) (ls' := [some (.inr (some (34, i)))]) (st' := []) (s' := μ) rfl (fun c1 => ?_) (fun c1 => ?_)
  · skip
    refine xr_br 17 (c := (μ 34 i 7) = 1) inferInstance (a := 52) (b := 56) (ls' := [some (.inr (some (34, i)))]) (st' := []) (s' := (tm_wr (tm_wr μ 34 i 8 ((μ 34 i 8) + 1)) 34 i 9 ((μ 1 0 3) + 3))) rfl (fun c2 => ?_) (fun c2 => ?_)
    · skip
      refine xr_go 1 (pc' := 53) (ls' := [some (.inr (some (34, i)))]) (st' := [.inr (some (34, i))]) (s' := (tm_wr (tm_wr μ 34 i 8 ((μ 34 i 8) + 1)) 34 i 9 ((μ 1 0 3) + 3))) rfl ?_
      refine xr_cl (y' := 71) (as := [.inr (some (34, i))]) (r := []) rfl rfl ?_
      refine tf_71 (d := d + 0) (μ := (tm_wr (tm_wr μ 34 i 8 ((μ 34 i 8) + 1)) 34 i 9 ((μ 1 0 3) + 3))) (i := i) (hi c1 c2) ?_
      show xr_t (tm_I L xs) (d + 2) 66 56 [some (.inr (some (34, i)))] [] (cs_71 i (tm_wr (tm_wr μ 34 i 8 ((μ 34 i 8) + 1)) 34 i 9 ((μ 1 0 3) + 3))) Q
      generalize gμ2 : (cs_71 i (tm_wr (tm_wr μ 34 i 8 ((μ 34 i 8) + 1)) 34 i 9 ((μ 1 0 3) + 3))) = μ2 at h hi ⊢
      try simp only [if_pos c1, if_pos c2] at h
      exact xr_rt (v := none) rfl h
    · skip
      try simp only [if_pos c1, if_neg c2] at h
      exact xr_rt (v := none) rfl h
  · skip
    refine xr_go 3 (pc' := 20) (ls' := [some (.inr (some (34, i)))]) (st' := []) (s' := (tm_wr μ 34 i 11 6)) rfl ?_
    try simp only [if_neg c1] at h
    exact xr_rt (v := none) rfl h
-- BootNet$Station.tryAgain()V
def cs_107 (i : Nat) (μ : tm_M) : tm_M := (if (μ 33 i 10) < (μ 1 0 1) then (if (μ 33 i 4) = 1 then (cs_104 i (tm_wr μ 33 i 10 ((μ 33 i 10) + 1))) else (cs_105 i (tm_wr μ 33 i 10 ((μ 33 i 10) + 1)))) else (cs_106 i 7 μ))
def ci_107 (i : Nat) (μ : tm_M) : Prop := (((μ 33 i 10) < (μ 1 0 1)) → ((μ 33 i 4) = 1) → ci_104 i (tm_wr μ 33 i 10 ((μ 33 i 10) + 1))) ∧ (((μ 33 i 10) < (μ 1 0 1)) → (¬ ((μ 33 i 4) = 1)) → ci_105 i (tm_wr μ 33 i 10 ((μ 33 i 10) + 1)))
set_option maxHeartbeats 4000000 in
set_option maxRecDepth 10000 in
theorem tf_107 {i : Nat} (hi : ci_107 i μ) (h : Q none (cs_107 i μ)) : xm_MW (tm_I L xs) (d + 3) 107 [.inr (some (33, i))] μ Q := by
  refine xr_in2 [some (.inr (some (33, i)))] rfl rfl ?_
  unfold cs_107 at h
  unfold ci_107 at hi
  refine xr_br 6 (c := (μ 33 i 10) < (μ 1 0 1)) inferInstance (a := 21) (b := 14) (ls' := [some (.inr (some (33, i)))]) (st' := []) (s' := μ) rfl (fun c1 => ?_) (fun c1 => ?_)
  · skip
    refine xr_br 10 (c := (μ 33 i 4) = 1) inferInstance (a := 39) (b := 46) (ls' := [some (.inr (some (33, i)))]) (st' := []) (s' := (tm_wr μ 33 i 10 ((μ 33 i 10) + 1))) rfl (fun c2 => ?_) (fun c2 => ?_)
    · skip
      refine xr_go 1 (pc' := 40) (ls' := [some (.inr (some (33, i)))]) (st' := [.inr (some (33, i))]) (s' := (tm_wr μ 33 i 10 ((μ 33 i 10) + 1))) rfl ?_
      refine xr_cl (y' := 104) (as := [.inr (some (33, i))]) (r := []) rfl rfl ?_
      refine tf_104 (d := d + 0) (μ := (tm_wr μ 33 i 10 ((μ 33 i 10) + 1))) (i := i) (hi.1 c1 c2) ?_
      show xr_t (tm_I L xs) (d + 2) 107 43 [some (.inr (some (33, i)))] [] (cs_104 i (tm_wr μ 33 i 10 ((μ 33 i 10) + 1))) Q
      generalize gμ2 : (cs_104 i (tm_wr μ 33 i 10 ((μ 33 i 10) + 1))) = μ2 at h hi ⊢
      refine xr_go 1 (pc' := 50) (ls' := [some (.inr (some (33, i)))]) (st' := []) (s' := μ2) rfl ?_
      try simp only [if_pos c1, if_pos c2] at h
      exact xr_rt (v := none) rfl h
    · skip
      refine xr_go 1 (pc' := 47) (ls' := [some (.inr (some (33, i)))]) (st' := [.inr (some (33, i))]) (s' := (tm_wr μ 33 i 10 ((μ 33 i 10) + 1))) rfl ?_
      refine xr_cl (y' := 105) (as := [.inr (some (33, i))]) (r := []) rfl rfl ?_
      refine tf_105 (d := d + 0) (μ := (tm_wr μ 33 i 10 ((μ 33 i 10) + 1))) (i := i) (hi.2 c1 c2) ?_
      show xr_t (tm_I L xs) (d + 2) 107 50 [some (.inr (some (33, i)))] [] (cs_105 i (tm_wr μ 33 i 10 ((μ 33 i 10) + 1))) Q
      generalize gμ3 : (cs_105 i (tm_wr μ 33 i 10 ((μ 33 i 10) + 1))) = μ3 at h hi ⊢
      try simp only [if_pos c1, if_neg c2] at h
      exact xr_rt (v := none) rfl h
  · skip
    refine xr_go 2 (pc' := 17) (ls' := [some (.inr (some (33, i)))]) (st' := [.inl 7, .inr (some (33, i))]) (s' := μ) rfl ?_
    refine xr_cl (y' := 106) (as := [.inr (some (33, i)), .inl 7]) (r := []) rfl rfl ?_
    refine tf_106 (d := d + 1) (μ := μ) (i := i) (a1 := 7) ?_
    show xr_t (tm_I L xs) (d + 2) 107 20 [some (.inr (some (33, i)))] [] (cs_106 i 7 μ) Q
    generalize gμ4 : (cs_106 i 7 μ) = μ4 at h hi ⊢
    try simp only [if_neg c1] at h
    exact xr_rt (v := none) rfl h
-- BootNet$Station.endProbe()V
def cs_108 (i : Nat) (μ : tm_M) : tm_M := (if (μ 1 0 3) < (μ 33 i 8) then (if (μ 34 i 11) = 0 then (cs_61 i 0 (tm_wr μ 33 i 4 4)) else (tm_wr μ 33 i 4 4)) else (cs_103 i μ))
def ci_108 (i : Nat) (μ : tm_M) : Prop := (((μ 1 0 3) < (μ 33 i 8)) → ((μ 34 i 11) = 0) → ci_61 i 0 (tm_wr μ 33 i 4 4)) ∧ ((¬ ((μ 1 0 3) < (μ 33 i 8))) → ci_103 i μ)
set_option maxHeartbeats 4000000 in
set_option maxRecDepth 10000 in
theorem tf_108 {i : Nat} (hi : ci_108 i μ) (h : Q none (cs_108 i μ)) : xm_MW (tm_I L xs) (d + 4) 108 [.inr (some (33, i))] μ Q := by
  refine xr_in2 [some (.inr (some (33, i)))] rfl rfl ?_
  unfold cs_108 at h
  unfold ci_108 at hi
  refine xr_br 6 (c := (μ 1 0 3) < (μ 33 i 8)) inferInstance (a := 19) (b := 14) (ls' := [some (.inr (some (33, i)))]) (st' := []) (s' := μ) rfl (fun c1 => ?_) (fun c1 => ?_)
  · skip
    refine xr_br 7 (c := (μ 34 i 11) = 0) inferInstance (a := 34) (b := 42) (ls' := [some (.inr (some (33, i)))]) (st' := []) (s' := (tm_wr μ 33 i 4 4)) rfl (fun c2 => ?_) (fun c2 => ?_)
    · skip
      refine xr_go 3 (pc' := 39) (ls' := [some (.inr (some (33, i)))]) (st' := [.inl 0, .inr (some (34, i))]) (s' := (tm_wr μ 33 i 4 4)) rfl ?_
      refine xr_cl (y' := 61) (as := [.inr (some (34, i)), .inl 0]) (r := []) rfl rfl ?_
      refine tf_61 (d := d + 0) (μ := (tm_wr μ 33 i 4 4)) (i := i) (a1 := 0) (hi.1 c1 c2) ?_
      show xr_t (tm_I L xs) (d + 3) 108 42 [some (.inr (some (33, i)))] [] (cs_61 i 0 (tm_wr μ 33 i 4 4)) Q
      generalize gμ2 : (cs_61 i 0 (tm_wr μ 33 i 4 4)) = μ2 at h hi ⊢
      try simp only [if_pos c1, if_pos c2] at h
      exact xr_rt (v := none) rfl h
    · skip
      try simp only [if_pos c1, if_neg c2] at h
      exact xr_rt (v := none) rfl h
  · skip
    refine xr_go 1 (pc' := 15) (ls' := [some (.inr (some (33, i)))]) (st' := [.inr (some (33, i))]) (s' := μ) rfl ?_
    refine xr_cl (y' := 103) (as := [.inr (some (33, i))]) (r := []) rfl rfl ?_
    refine tf_103 (d := d + 0) (μ := μ) (i := i) (hi.2 c1) ?_
    show xr_t (tm_I L xs) (d + 3) 108 18 [some (.inr (some (33, i)))] [] (cs_103 i μ) Q
    generalize gμ3 : (cs_103 i μ) = μ3 at h hi ⊢
    try simp only [if_neg c1] at h
    exact xr_rt (v := none) rfl h
-- BootNet$Station.passTime()V
def cs_101 (i : Nat) (μ : tm_M) : tm_M := (if ((cv_98 i μ) = 0) ∨ ((μ 1 0 3) < (μ 33 i 8)) then (if (μ 33 i 4) = 1 then (if ((if (μ 1 0 3) < (μ 33 i 9) then 0 else 1) : Int32) = 0 then (if (¬ ((μ 33 i 4) = 4)) ∨ ((2 * ((μ 1 0 3) - (μ 33 i 7))) < (μ 1 0 0)) then (if (¬ ((μ 33 i 4) = 5)) ∨ ((cv_109 i μ) = 0) then (if ((cv_98 i μ) = 0) ∨ ((cv_65 i μ) = 0) then μ else (cs_66 i μ)) else (cs_105 i (tm_wr μ 33 i 4 6))) else (cs_105 i (tm_wr μ 33 i 4 5))) else (cs_107 i μ)) else (if (¬ ((μ 33 i 4) = 2)) ∨ (((if (μ 1 0 3) < (μ 33 i 9) then 0 else 1) : Int32) = 0) then (if (¬ ((μ 33 i 4) = 3)) ∨ (((if (μ 1 0 3) < (μ 33 i 9) then 0 else 1) : Int32) = 0) then (if (¬ ((μ 33 i 4) = 4)) ∨ ((2 * ((μ 1 0 3) - (μ 33 i 7))) < (μ 1 0 0)) then (if (¬ ((μ 33 i 4) = 5)) ∨ ((cv_109 i μ) = 0) then (if (μ 33 i 4) = 5 then (if ((if (μ 1 0 3) < (μ 33 i 9) then 0 else 1) : Int32) = 0 then (if ((cv_98 i μ) = 0) ∨ ((cv_65 i μ) = 0) then μ else (cs_66 i μ)) else (cs_105 i μ)) else (if (¬ ((μ 33 i 4) = 6)) ∨ (((if (μ 1 0 3) < (μ 33 i 9) then 0 else 1) : Int32) = 0) then (if ((cv_98 i μ) = 0) ∨ ((cv_65 i μ) = 0) then μ else (cs_66 i μ)) else (cs_105 i μ))) else (cs_105 i (tm_wr μ 33 i 4 6))) else (cs_105 i (tm_wr μ 33 i 4 5))) else (cs_108 i μ)) else (cs_107 i μ))) else (cs_103 i μ))
def ci_101 (i : Nat) (μ : tm_M) : Prop := ((((cv_98 i μ) = 0) ∨ ((μ 1 0 3) < (μ 33 i 8))) → ((μ 33 i 4) = 1) → (((if (μ 1 0 3) < (μ 33 i 9) then 0 else 1) : Int32) = 0) → ((μ 33 i 4) = 3) → ((¬ ((μ 33 i 4) = 4)) ∨ ((2 * ((μ 1 0 3) - (μ 33 i 7))) < (μ 1 0 0))) → ((¬ ((μ 33 i 4) = 5)) ∨ ((cv_109 i μ) = 0)) → ((μ 33 i 4) = 5) → (¬ (((cv_98 i μ) = 0) ∨ ((cv_65 i μ) = 0))) → ci_66 i μ) ∧ ((((cv_98 i μ) = 0) ∨ ((μ 1 0 3) < (μ 33 i 8))) → ((μ 33 i 4) = 1) → (((if (μ 1 0 3) < (μ 33 i 9) then 0 else 1) : Int32) = 0) → ((μ 33 i 4) = 3) → ((¬ ((μ 33 i 4) = 4)) ∨ ((2 * ((μ 1 0 3) - (μ 33 i 7))) < (μ 1 0 0))) → ((¬ ((μ 33 i 4) = 5)) ∨ ((cv_109 i μ) = 0)) → (¬ ((μ 33 i 4) = 5)) → ((μ 33 i 4) = 6) → (¬ (((cv_98 i μ) = 0) ∨ ((cv_65 i μ) = 0))) → ci_66 i μ) ∧ ((((cv_98 i μ) = 0) ∨ ((μ 1 0 3) < (μ 33 i 8))) → ((μ 33 i 4) = 1) → (((if (μ 1 0 3) < (μ 33 i 9) then 0 else 1) : Int32) = 0) → ((μ 33 i 4) = 3) → ((¬ ((μ 33 i 4) = 4)) ∨ ((2 * ((μ 1 0 3) - (μ 33 i 7))) < (μ 1 0 0))) → ((¬ ((μ 33 i 4) = 5)) ∨ ((cv_109 i μ) = 0)) → (¬ ((μ 33 i 4) = 5)) → (¬ ((μ 33 i 4) = 6)) → (¬ (((cv_98 i μ) = 0) ∨ ((cv_65 i μ) = 0))) → ci_66 i μ) ∧ ((((cv_98 i μ) = 0) ∨ ((μ 1 0 3) < (μ 33 i 8))) → ((μ 33 i 4) = 1) → (((if (μ 1 0 3) < (μ 33 i 9) then 0 else 1) : Int32) = 0) → ((μ 33 i 4) = 3) → ((¬ ((μ 33 i 4) = 4)) ∨ ((2 * ((μ 1 0 3) - (μ 33 i 7))) < (μ 1 0 0))) → (¬ ((¬ ((μ 33 i 4) = 5)) ∨ ((cv_109 i μ) = 0))) → ci_105 i (tm_wr μ 33 i 4 6)) ∧ ((((cv_98 i μ) = 0) ∨ ((μ 1 0 3) < (μ 33 i 8))) → ((μ 33 i 4) = 1) → (((if (μ 1 0 3) < (μ 33 i 9) then 0 else 1) : Int32) = 0) → ((μ 33 i 4) = 3) → (¬ ((¬ ((μ 33 i 4) = 4)) ∨ ((2 * ((μ 1 0 3) - (μ 33 i 7))) < (μ 1 0 0)))) → ci_105 i (tm_wr μ 33 i 4 5)) ∧ ((((cv_98 i μ) = 0) ∨ ((μ 1 0 3) < (μ 33 i 8))) → ((μ 33 i 4) = 1) → (((if (μ 1 0 3) < (μ 33 i 9) then 0 else 1) : Int32) = 0) → (¬ ((μ 33 i 4) = 3)) → ((¬ ((μ 33 i 4) = 4)) ∨ ((2 * ((μ 1 0 3) - (μ 33 i 7))) < (μ 1 0 0))) → ((¬ ((μ 33 i 4) = 5)) ∨ ((cv_109 i μ) = 0)) → ((μ 33 i 4) = 5) → (¬ (((cv_98 i μ) = 0) ∨ ((cv_65 i μ) = 0))) → ci_66 i μ) ∧ ((((cv_98 i μ) = 0) ∨ ((μ 1 0 3) < (μ 33 i 8))) → ((μ 33 i 4) = 1) → (((if (μ 1 0 3) < (μ 33 i 9) then 0 else 1) : Int32) = 0) → (¬ ((μ 33 i 4) = 3)) → ((¬ ((μ 33 i 4) = 4)) ∨ ((2 * ((μ 1 0 3) - (μ 33 i 7))) < (μ 1 0 0))) → ((¬ ((μ 33 i 4) = 5)) ∨ ((cv_109 i μ) = 0)) → (¬ ((μ 33 i 4) = 5)) → ((μ 33 i 4) = 6) → (¬ (((cv_98 i μ) = 0) ∨ ((cv_65 i μ) = 0))) → ci_66 i μ) ∧ ((((cv_98 i μ) = 0) ∨ ((μ 1 0 3) < (μ 33 i 8))) → ((μ 33 i 4) = 1) → (((if (μ 1 0 3) < (μ 33 i 9) then 0 else 1) : Int32) = 0) → (¬ ((μ 33 i 4) = 3)) → ((¬ ((μ 33 i 4) = 4)) ∨ ((2 * ((μ 1 0 3) - (μ 33 i 7))) < (μ 1 0 0))) → ((¬ ((μ 33 i 4) = 5)) ∨ ((cv_109 i μ) = 0)) → (¬ ((μ 33 i 4) = 5)) → (¬ ((μ 33 i 4) = 6)) → (¬ (((cv_98 i μ) = 0) ∨ ((cv_65 i μ) = 0))) → ci_66 i μ) ∧ ((((cv_98 i μ) = 0) ∨ ((μ 1 0 3) < (μ 33 i 8))) → ((μ 33 i 4) = 1) → (((if (μ 1 0 3) < (μ 33 i 9) then 0 else 1) : Int32) = 0) → (¬ ((μ 33 i 4) = 3)) → ((¬ ((μ 33 i 4) = 4)) ∨ ((2 * ((μ 1 0 3) - (μ 33 i 7))) < (μ 1 0 0))) → (¬ ((¬ ((μ 33 i 4) = 5)) ∨ ((cv_109 i μ) = 0))) → ci_105 i (tm_wr μ 33 i 4 6)) ∧ ((((cv_98 i μ) = 0) ∨ ((μ 1 0 3) < (μ 33 i 8))) → ((μ 33 i 4) = 1) → (((if (μ 1 0 3) < (μ 33 i 9) then 0 else 1) : Int32) = 0) → (¬ ((μ 33 i 4) = 3)) → (¬ ((¬ ((μ 33 i 4) = 4)) ∨ ((2 * ((μ 1 0 3) - (μ 33 i 7))) < (μ 1 0 0)))) → ci_105 i (tm_wr μ 33 i 4 5)) ∧ ((((cv_98 i μ) = 0) ∨ ((μ 1 0 3) < (μ 33 i 8))) → ((μ 33 i 4) = 1) → (¬ (((if (μ 1 0 3) < (μ 33 i 9) then 0 else 1) : Int32) = 0)) → ci_107 i μ) ∧ ((((cv_98 i μ) = 0) ∨ ((μ 1 0 3) < (μ 33 i 8))) → (¬ ((μ 33 i 4) = 1)) → ((¬ ((μ 33 i 4) = 2)) ∨ (((if (μ 1 0 3) < (μ 33 i 9) then 0 else 1) : Int32) = 0)) → ((¬ ((μ 33 i 4) = 3)) ∨ (((if (μ 1 0 3) < (μ 33 i 9) then 0 else 1) : Int32) = 0)) → ((¬ ((μ 33 i 4) = 4)) ∨ ((2 * ((μ 1 0 3) - (μ 33 i 7))) < (μ 1 0 0))) → ((¬ ((μ 33 i 4) = 5)) ∨ ((cv_109 i μ) = 0)) → ((μ 33 i 4) = 5) → (((if (μ 1 0 3) < (μ 33 i 9) then 0 else 1) : Int32) = 0) → (¬ (((cv_98 i μ) = 0) ∨ ((cv_65 i μ) = 0))) → ci_66 i μ) ∧ ((((cv_98 i μ) = 0) ∨ ((μ 1 0 3) < (μ 33 i 8))) → (¬ ((μ 33 i 4) = 1)) → ((¬ ((μ 33 i 4) = 2)) ∨ (((if (μ 1 0 3) < (μ 33 i 9) then 0 else 1) : Int32) = 0)) → ((¬ ((μ 33 i 4) = 3)) ∨ (((if (μ 1 0 3) < (μ 33 i 9) then 0 else 1) : Int32) = 0)) → ((¬ ((μ 33 i 4) = 4)) ∨ ((2 * ((μ 1 0 3) - (μ 33 i 7))) < (μ 1 0 0))) → ((¬ ((μ 33 i 4) = 5)) ∨ ((cv_109 i μ) = 0)) → ((μ 33 i 4) = 5) → (¬ (((if (μ 1 0 3) < (μ 33 i 9) then 0 else 1) : Int32) = 0)) → ci_105 i μ) ∧ ((((cv_98 i μ) = 0) ∨ ((μ 1 0 3) < (μ 33 i 8))) → (¬ ((μ 33 i 4) = 1)) → ((¬ ((μ 33 i 4) = 2)) ∨ (((if (μ 1 0 3) < (μ 33 i 9) then 0 else 1) : Int32) = 0)) → ((¬ ((μ 33 i 4) = 3)) ∨ (((if (μ 1 0 3) < (μ 33 i 9) then 0 else 1) : Int32) = 0)) → ((¬ ((μ 33 i 4) = 4)) ∨ ((2 * ((μ 1 0 3) - (μ 33 i 7))) < (μ 1 0 0))) → ((¬ ((μ 33 i 4) = 5)) ∨ ((cv_109 i μ) = 0)) → (¬ ((μ 33 i 4) = 5)) → ((¬ ((μ 33 i 4) = 6)) ∨ (((if (μ 1 0 3) < (μ 33 i 9) then 0 else 1) : Int32) = 0)) → (¬ (((cv_98 i μ) = 0) ∨ ((cv_65 i μ) = 0))) → ci_66 i μ) ∧ ((((cv_98 i μ) = 0) ∨ ((μ 1 0 3) < (μ 33 i 8))) → (¬ ((μ 33 i 4) = 1)) → ((¬ ((μ 33 i 4) = 2)) ∨ (((if (μ 1 0 3) < (μ 33 i 9) then 0 else 1) : Int32) = 0)) → ((¬ ((μ 33 i 4) = 3)) ∨ (((if (μ 1 0 3) < (μ 33 i 9) then 0 else 1) : Int32) = 0)) → ((¬ ((μ 33 i 4) = 4)) ∨ ((2 * ((μ 1 0 3) - (μ 33 i 7))) < (μ 1 0 0))) → ((¬ ((μ 33 i 4) = 5)) ∨ ((cv_109 i μ) = 0)) → (¬ ((μ 33 i 4) = 5)) → (¬ ((¬ ((μ 33 i 4) = 6)) ∨ (((if (μ 1 0 3) < (μ 33 i 9) then 0 else 1) : Int32) = 0))) → ci_105 i μ) ∧ ((((cv_98 i μ) = 0) ∨ ((μ 1 0 3) < (μ 33 i 8))) → (¬ ((μ 33 i 4) = 1)) → ((¬ ((μ 33 i 4) = 2)) ∨ (((if (μ 1 0 3) < (μ 33 i 9) then 0 else 1) : Int32) = 0)) → ((¬ ((μ 33 i 4) = 3)) ∨ (((if (μ 1 0 3) < (μ 33 i 9) then 0 else 1) : Int32) = 0)) → ((¬ ((μ 33 i 4) = 4)) ∨ ((2 * ((μ 1 0 3) - (μ 33 i 7))) < (μ 1 0 0))) → (¬ ((¬ ((μ 33 i 4) = 5)) ∨ ((cv_109 i μ) = 0))) → ci_105 i (tm_wr μ 33 i 4 6)) ∧ ((((cv_98 i μ) = 0) ∨ ((μ 1 0 3) < (μ 33 i 8))) → (¬ ((μ 33 i 4) = 1)) → ((¬ ((μ 33 i 4) = 2)) ∨ (((if (μ 1 0 3) < (μ 33 i 9) then 0 else 1) : Int32) = 0)) → ((¬ ((μ 33 i 4) = 3)) ∨ (((if (μ 1 0 3) < (μ 33 i 9) then 0 else 1) : Int32) = 0)) → (¬ ((¬ ((μ 33 i 4) = 4)) ∨ ((2 * ((μ 1 0 3) - (μ 33 i 7))) < (μ 1 0 0)))) → ci_105 i (tm_wr μ 33 i 4 5)) ∧ ((((cv_98 i μ) = 0) ∨ ((μ 1 0 3) < (μ 33 i 8))) → (¬ ((μ 33 i 4) = 1)) → ((¬ ((μ 33 i 4) = 2)) ∨ (((if (μ 1 0 3) < (μ 33 i 9) then 0 else 1) : Int32) = 0)) → (¬ ((¬ ((μ 33 i 4) = 3)) ∨ (((if (μ 1 0 3) < (μ 33 i 9) then 0 else 1) : Int32) = 0))) → ci_108 i μ) ∧ ((((cv_98 i μ) = 0) ∨ ((μ 1 0 3) < (μ 33 i 8))) → (¬ ((μ 33 i 4) = 1)) → (¬ ((¬ ((μ 33 i 4) = 2)) ∨ (((if (μ 1 0 3) < (μ 33 i 9) then 0 else 1) : Int32) = 0))) → ci_107 i μ) ∧ ((¬ (((cv_98 i μ) = 0) ∨ ((μ 1 0 3) < (μ 33 i 8)))) → ci_103 i μ)
set_option maxHeartbeats 4000000 in
set_option maxRecDepth 10000 in
theorem tf_101 {i : Nat} (hi : ci_101 i μ) (h : Q none (cs_101 i μ)) : xm_MW (tm_I L xs) (d + 5) 101 [.inr (some (33, i))] μ Q := by
  refine xr_in2 [some (.inr (some (33, i))), none] rfl rfl ?_
  unfold cs_101 at h
  unfold ci_101 at hi
  suffices hj1 : xr_t (tm_I L xs) (d + 4) 101 19 [some (.inr (some (33, i))), none] [.inl ((if (μ 1 0 3) < (μ 33 i 9) then 0 else 1) : Int32)] μ Q by
    refine xr_br 6 (c := (μ 1 0 3) < (μ 33 i 9)) inferInstance (a := 18) (b := 14) (ls' := [some (.inr (some (33, i))), none]) (st' := []) (s' := μ) rfl (fun c1 => ?_) (fun c1 => ?_)
    · skip
      refine xr_go 1 (pc' := 19) (ls' := [some (.inr (some (33, i))), none]) (st' := [.inl 0]) (s' := μ) rfl ?_
      have ehj1 : ((if (μ 1 0 3) < (μ 33 i 9) then 0 else 1) : Int32) = 0 := by first | rfl | simp only [if_pos c1]
      rw [ehj1] at hj1
      exact hj1
    · skip
      refine xr_go 2 (pc' := 19) (ls' := [some (.inr (some (33, i))), none]) (st' := [.inl 1]) (s' := μ) rfl ?_
      have ehj1 : ((if (μ 1 0 3) < (μ 33 i 9) then 0 else 1) : Int32) = 1 := by first | rfl | simp only [if_neg c1]
      rw [ehj1] at hj1
      exact hj1
  refine xr_go 2 (pc' := 21) (ls' := [some (.inr (some (33, i))), some (.inl ((if (μ 1 0 3) < (μ 33 i 9) then 0 else 1) : Int32))]) (st' := [.inr (some (33, i))]) (s' := μ) rfl ?_
  refine xr_cl (y' := 98) (as := [.inr (some (33, i))]) (r := []) rfl rfl ?_
  refine tf_98 (d := d + 3) (μ := μ) (i := i) ?_
  show xr_t (tm_I L xs) (d + 4) 101 24 [some (.inr (some (33, i))), some (.inl ((if (μ 1 0 3) < (μ 33 i 9) then 0 else 1) : Int32))] [.inl (cv_98 i μ)] μ Q
  have z1 : (cv_98 i μ) = 0 ∨ (cv_98 i μ) = 1 := cz_98
  generalize gv1 : (cv_98 i μ) = v1 at h hi z1 ⊢
  suffices hE2 : (((v1 = 0) ∨ ((μ 1 0 3) < (μ 33 i 8))) → xr_t (tm_I L xs) (d + 4) 101 48 [some (.inr (some (33, i))), some (.inl ((if (μ 1 0 3) < (μ 33 i 9) then 0 else 1) : Int32))] [] μ Q) ∧ (¬ ((v1 = 0) ∨ ((μ 1 0 3) < (μ 33 i 8))) → xr_t (tm_I L xs) (d + 4) 101 41 [some (.inr (some (33, i))), some (.inl ((if (μ 1 0 3) < (μ 33 i 9) then 0 else 1) : Int32))] [] μ Q) by
    refine xr_br 1 (c := v1 = 0) inferInstance (a := 48) (b := 27) (ls' := [some (.inr (some (33, i))), some (.inl ((if (μ 1 0 3) < (μ 33 i 9) then 0 else 1) : Int32))]) (st' := []) (s' := μ) rfl (fun c2 => ?_) (fun c2 => ?_)
    · skip
      exact hE2.1 (Or.inl c2)
    · skip
      refine xr_br 6 (c := (μ 1 0 3) < (μ 33 i 8)) inferInstance (a := 48) (b := 41) (ls' := [some (.inr (some (33, i))), some (.inl ((if (μ 1 0 3) < (μ 33 i 9) then 0 else 1) : Int32))]) (st' := []) (s' := μ) rfl (fun c3 => ?_) (fun c3 => ?_)
      · skip
        exact hE2.1 (Or.inr c3)
      · skip
        exact hE2.2 (fun z => z.elim c2 c3)
  refine ⟨fun c4 => ?_, fun c4 => ?_⟩
  · skip
    refine xr_br 4 (c := (μ 33 i 4) = 1) inferInstance (a := 64) (b := 56) (ls' := [some (.inr (some (33, i))), some (.inl ((if (μ 1 0 3) < (μ 33 i 9) then 0 else 1) : Int32))]) (st' := []) (s' := μ) rfl (fun c5 => ?_) (fun c5 => ?_)
    · skip
      refine xr_br 2 (c := ((if (μ 1 0 3) < (μ 33 i 9) then 0 else 1) : Int32) = 0) inferInstance (a := 75) (b := 68) (ls' := [some (.inr (some (33, i))), some (.inl ((if (μ 1 0 3) < (μ 33 i 9) then 0 else 1) : Int32))]) (st' := []) (s' := μ) rfl (fun c6 => ?_) (fun c6 => ?_)
      · skip
        refine xr_br 4 (c := (μ 33 i 4) = 3) inferInstance (a := 83) (b := 94) (ls' := [some (.inr (some (33, i))), some (.inl ((if (μ 1 0 3) < (μ 33 i 9) then 0 else 1) : Int32))]) (st' := []) (s' := μ) rfl (fun c7 => ?_) (fun c7 => ?_)
        · skip
          refine xr_br 2 (c := ((if (μ 1 0 3) < (μ 33 i 9) then 0 else 1) : Int32) = 0) inferInstance (a := 94) (b := 87) (ls' := [some (.inr (some (33, i))), some (.inl ((if (μ 1 0 3) < (μ 33 i 9) then 0 else 1) : Int32))]) (st' := []) (s' := μ) rfl (fun cx => ?_) (fun cx => ?_)
          rotate_left
          · exact absurd c6 cx
          suffices hE8 : (((¬ ((μ 33 i 4) = 4)) ∨ ((2 * ((μ 1 0 3) - (μ 33 i 7))) < (μ 1 0 0))) → xr_t (tm_I L xs) (d + 4) 101 138 [some (.inr (some (33, i))), some (.inl ((if (μ 1 0 3) < (μ 33 i 9) then 0 else 1) : Int32))] [] μ Q) ∧ (¬ ((¬ ((μ 33 i 4) = 4)) ∨ ((2 * ((μ 1 0 3) - (μ 33 i 7))) < (μ 1 0 0))) → xr_t (tm_I L xs) (d + 4) 101 126 [some (.inr (some (33, i))), some (.inl ((if (μ 1 0 3) < (μ 33 i 9) then 0 else 1) : Int32))] [] μ Q) by
            refine xr_br 4 (c := (μ 33 i 4) = 4) inferInstance (a := 102) (b := 138) (ls' := [some (.inr (some (33, i))), some (.inl ((if (μ 1 0 3) < (μ 33 i 9) then 0 else 1) : Int32))]) (st' := []) (s' := μ) rfl (fun c8 => ?_) (fun c8 => ?_)
            · skip
              refine xr_br 12 (c := (2 * ((μ 1 0 3) - (μ 33 i 7))) < (μ 1 0 0)) inferInstance (a := 138) (b := 126) (ls' := [some (.inr (some (33, i))), some (.inl ((if (μ 1 0 3) < (μ 33 i 9) then 0 else 1) : Int32))]) (st' := []) (s' := μ) rfl (fun c9 => ?_) (fun c9 => ?_)
              · skip
                exact hE8.1 (Or.inr c9)
              · skip
                exact hE8.2 (fun z => z.elim (fun w => w c8) c9)
            · skip
              exact hE8.1 (Or.inl c8)
          refine ⟨fun c10 => ?_, fun c10 => ?_⟩
          · skip
            suffices hE11 : (((¬ ((μ 33 i 4) = 5)) ∨ ((cv_109 i μ) = 0)) → xr_t (tm_I L xs) (d + 4) 101 166 [some (.inr (some (33, i))), some (.inl ((if (μ 1 0 3) < (μ 33 i 9) then 0 else 1) : Int32))] [] μ Q) ∧ (¬ ((¬ ((μ 33 i 4) = 5)) ∨ ((cv_109 i μ) = 0)) → xr_t (tm_I L xs) (d + 4) 101 153 [some (.inr (some (33, i))), some (.inl ((if (μ 1 0 3) < (μ 33 i 9) then 0 else 1) : Int32))] [] μ Q) by
              refine xr_br 4 (c := (μ 33 i 4) = 5) inferInstance (a := 146) (b := 166) (ls' := [some (.inr (some (33, i))), some (.inl ((if (μ 1 0 3) < (μ 33 i 9) then 0 else 1) : Int32))]) (st' := []) (s' := μ) rfl (fun c11 => ?_) (fun c11 => ?_)
              · skip
                refine xr_go 1 (pc' := 147) (ls' := [some (.inr (some (33, i))), some (.inl ((if (μ 1 0 3) < (μ 33 i 9) then 0 else 1) : Int32))]) (st' := [.inr (some (33, i))]) (s' := μ) rfl ?_
                refine xr_cl (y' := 109) (as := [.inr (some (33, i))]) (r := []) rfl rfl ?_
                refine tf_109 (d := d + 3) (μ := μ) (i := i) ?_
                show xr_t (tm_I L xs) (d + 4) 101 150 [some (.inr (some (33, i))), some (.inl ((if (μ 1 0 3) < (μ 33 i 9) then 0 else 1) : Int32))] [.inl (cv_109 i μ)] μ Q
                refine xr_br 1 (c := (cv_109 i μ) = 0) inferInstance (a := 166) (b := 153) (ls' := [some (.inr (some (33, i))), some (.inl ((if (μ 1 0 3) < (μ 33 i 9) then 0 else 1) : Int32))]) (st' := []) (s' := μ) rfl (fun c12 => ?_) (fun c12 => ?_)
                · skip
                  exact hE11.1 (Or.inr c12)
                · skip
                  exact hE11.2 (fun z => z.elim (fun w => w c11) c12)
              · skip
                exact hE11.1 (Or.inl c11)
            refine ⟨fun c13 => ?_, fun c13 => ?_⟩
            · skip
              refine xr_br 4 (c := (μ 33 i 4) = 5) inferInstance (a := 183) (b := 174) (ls' := [some (.inr (some (33, i))), some (.inl ((if (μ 1 0 3) < (μ 33 i 9) then 0 else 1) : Int32))]) (st' := []) (s' := μ) rfl (fun c14 => ?_) (fun c14 => ?_)
              · skip
                refine xr_br 2 (c := ((if (μ 1 0 3) < (μ 33 i 9) then 0 else 1) : Int32) = 0) inferInstance (a := 194) (b := 187) (ls' := [some (.inr (some (33, i))), some (.inl ((if (μ 1 0 3) < (μ 33 i 9) then 0 else 1) : Int32))]) (st' := []) (s' := μ) rfl (fun cx => ?_) (fun cx => ?_)
                rotate_left
                · exact absurd c6 cx
                refine xr_go 1 (pc' := 195) (ls' := [some (.inr (some (33, i))), some (.inl ((if (μ 1 0 3) < (μ 33 i 9) then 0 else 1) : Int32))]) (st' := [.inr (some (33, i))]) (s' := μ) rfl ?_
                refine xr_cl (y' := 98) (as := [.inr (some (33, i))]) (r := []) rfl rfl ?_
                refine tf_98 (d := d + 3) (μ := μ) (i := i) ?_
                rw [gv1]
                show xr_t (tm_I L xs) (d + 4) 101 198 [some (.inr (some (33, i))), some (.inl ((if (μ 1 0 3) < (μ 33 i 9) then 0 else 1) : Int32))] [.inl v1] μ Q
                suffices hE15 : (((v1 = 0) ∨ ((cv_65 i μ) = 0)) → xr_t (tm_I L xs) (d + 4) 101 218 [some (.inr (some (33, i))), some (.inl ((if (μ 1 0 3) < (μ 33 i 9) then 0 else 1) : Int32))] [] μ Q) ∧ (¬ ((v1 = 0) ∨ ((cv_65 i μ) = 0)) → xr_t (tm_I L xs) (d + 4) 101 211 [some (.inr (some (33, i))), some (.inl ((if (μ 1 0 3) < (μ 33 i 9) then 0 else 1) : Int32))] [] μ Q) by
                  refine xr_br 1 (c := v1 = 0) inferInstance (a := 218) (b := 201) (ls' := [some (.inr (some (33, i))), some (.inl ((if (μ 1 0 3) < (μ 33 i 9) then 0 else 1) : Int32))]) (st' := []) (s' := μ) rfl (fun c15 => ?_) (fun c15 => ?_)
                  · skip
                    exact hE15.1 (Or.inl c15)
                  · skip
                    refine xr_go 2 (pc' := 205) (ls' := [some (.inr (some (33, i))), some (.inl ((if (μ 1 0 3) < (μ 33 i 9) then 0 else 1) : Int32))]) (st' := [.inr (some (34, i))]) (s' := μ) rfl ?_
                    refine xr_cl (y' := 65) (as := [.inr (some (34, i))]) (r := []) rfl rfl ?_
                    refine tf_65 (d := d + 3) (μ := μ) (i := i) ?_
                    show xr_t (tm_I L xs) (d + 4) 101 208 [some (.inr (some (33, i))), some (.inl ((if (μ 1 0 3) < (μ 33 i 9) then 0 else 1) : Int32))] [.inl (cv_65 i μ)] μ Q
                    refine xr_br 1 (c := (cv_65 i μ) = 0) inferInstance (a := 218) (b := 211) (ls' := [some (.inr (some (33, i))), some (.inl ((if (μ 1 0 3) < (μ 33 i 9) then 0 else 1) : Int32))]) (st' := []) (s' := μ) rfl (fun c16 => ?_) (fun c16 => ?_)
                    · skip
                      exact hE15.1 (Or.inr c16)
                    · skip
                      exact hE15.2 (fun z => z.elim c15 c16)
                refine ⟨fun c17 => ?_, fun c17 => ?_⟩
                · skip
                  try simp only [if_pos c4, if_pos c5, if_pos c6, if_pos c7, if_pos c10, if_pos c13, if_pos c14, if_pos c17] at h
                  exact xr_rt (v := none) rfl h
                · skip
                  refine xr_go 2 (pc' := 215) (ls' := [some (.inr (some (33, i))), some (.inl ((if (μ 1 0 3) < (μ 33 i 9) then 0 else 1) : Int32))]) (st' := [.inr (some (34, i))]) (s' := μ) rfl ?_
                  refine xr_cl (y' := 66) (as := [.inr (some (34, i))]) (r := []) rfl rfl ?_
                  refine tf_66 (d := d + 1) (μ := μ) (i := i) (hi.1 c4 c5 c6 c7 c10 c13 c14 c17) ?_
                  show xr_t (tm_I L xs) (d + 4) 101 218 [some (.inr (some (33, i))), some (.inl ((if (μ 1 0 3) < (μ 33 i 9) then 0 else 1) : Int32))] [] (cs_66 i μ) Q
                  generalize gμ2 : (cs_66 i μ) = μ2 at h hi ⊢
                  try simp only [if_pos c4, if_pos c5, if_pos c6, if_pos c7, if_pos c10, if_pos c13, if_pos c14, if_neg c17] at h
                  exact xr_rt (v := none) rfl h
              · skip
                refine xr_br 4 (c := (μ 33 i 4) = 6) inferInstance (a := 183) (b := 194) (ls' := [some (.inr (some (33, i))), some (.inl ((if (μ 1 0 3) < (μ 33 i 9) then 0 else 1) : Int32))]) (st' := []) (s' := μ) rfl (fun c18 => ?_) (fun c18 => ?_)
                · skip
                  refine xr_br 2 (c := ((if (μ 1 0 3) < (μ 33 i 9) then 0 else 1) : Int32) = 0) inferInstance (a := 194) (b := 187) (ls' := [some (.inr (some (33, i))), some (.inl ((if (μ 1 0 3) < (μ 33 i 9) then 0 else 1) : Int32))]) (st' := []) (s' := μ) rfl (fun cx => ?_) (fun cx => ?_)
                  rotate_left
                  · exact absurd c6 cx
                  refine xr_go 1 (pc' := 195) (ls' := [some (.inr (some (33, i))), some (.inl ((if (μ 1 0 3) < (μ 33 i 9) then 0 else 1) : Int32))]) (st' := [.inr (some (33, i))]) (s' := μ) rfl ?_
                  refine xr_cl (y' := 98) (as := [.inr (some (33, i))]) (r := []) rfl rfl ?_
                  refine tf_98 (d := d + 3) (μ := μ) (i := i) ?_
                  rw [gv1]
                  show xr_t (tm_I L xs) (d + 4) 101 198 [some (.inr (some (33, i))), some (.inl ((if (μ 1 0 3) < (μ 33 i 9) then 0 else 1) : Int32))] [.inl v1] μ Q
                  suffices hE19 : (((v1 = 0) ∨ ((cv_65 i μ) = 0)) → xr_t (tm_I L xs) (d + 4) 101 218 [some (.inr (some (33, i))), some (.inl ((if (μ 1 0 3) < (μ 33 i 9) then 0 else 1) : Int32))] [] μ Q) ∧ (¬ ((v1 = 0) ∨ ((cv_65 i μ) = 0)) → xr_t (tm_I L xs) (d + 4) 101 211 [some (.inr (some (33, i))), some (.inl ((if (μ 1 0 3) < (μ 33 i 9) then 0 else 1) : Int32))] [] μ Q) by
                    refine xr_br 1 (c := v1 = 0) inferInstance (a := 218) (b := 201) (ls' := [some (.inr (some (33, i))), some (.inl ((if (μ 1 0 3) < (μ 33 i 9) then 0 else 1) : Int32))]) (st' := []) (s' := μ) rfl (fun c19 => ?_) (fun c19 => ?_)
                    · skip
                      exact hE19.1 (Or.inl c19)
                    · skip
                      refine xr_go 2 (pc' := 205) (ls' := [some (.inr (some (33, i))), some (.inl ((if (μ 1 0 3) < (μ 33 i 9) then 0 else 1) : Int32))]) (st' := [.inr (some (34, i))]) (s' := μ) rfl ?_
                      refine xr_cl (y' := 65) (as := [.inr (some (34, i))]) (r := []) rfl rfl ?_
                      refine tf_65 (d := d + 3) (μ := μ) (i := i) ?_
                      show xr_t (tm_I L xs) (d + 4) 101 208 [some (.inr (some (33, i))), some (.inl ((if (μ 1 0 3) < (μ 33 i 9) then 0 else 1) : Int32))] [.inl (cv_65 i μ)] μ Q
                      refine xr_br 1 (c := (cv_65 i μ) = 0) inferInstance (a := 218) (b := 211) (ls' := [some (.inr (some (33, i))), some (.inl ((if (μ 1 0 3) < (μ 33 i 9) then 0 else 1) : Int32))]) (st' := []) (s' := μ) rfl (fun c20 => ?_) (fun c20 => ?_)
                      · skip
                        exact hE19.1 (Or.inr c20)
                      · skip
                        exact hE19.2 (fun z => z.elim c19 c20)
                  refine ⟨fun c21 => ?_, fun c21 => ?_⟩
                  · skip
                    try simp only [if_pos c4, if_pos c5, if_pos c6, if_pos c7, if_pos c10, if_pos c13, if_neg c14, if_pos c18, if_pos c21] at h
                    exact xr_rt (v := none) rfl h
                  · skip
                    refine xr_go 2 (pc' := 215) (ls' := [some (.inr (some (33, i))), some (.inl ((if (μ 1 0 3) < (μ 33 i 9) then 0 else 1) : Int32))]) (st' := [.inr (some (34, i))]) (s' := μ) rfl ?_
                    refine xr_cl (y' := 66) (as := [.inr (some (34, i))]) (r := []) rfl rfl ?_
                    refine tf_66 (d := d + 1) (μ := μ) (i := i) (hi.2.1 c4 c5 c6 c7 c10 c13 c14 c18 c21) ?_
                    show xr_t (tm_I L xs) (d + 4) 101 218 [some (.inr (some (33, i))), some (.inl ((if (μ 1 0 3) < (μ 33 i 9) then 0 else 1) : Int32))] [] (cs_66 i μ) Q
                    generalize gμ3 : (cs_66 i μ) = μ3 at h hi ⊢
                    try simp only [if_pos c4, if_pos c5, if_pos c6, if_pos c7, if_pos c10, if_pos c13, if_neg c14, if_pos c18, if_neg c21] at h
                    exact xr_rt (v := none) rfl h
                · skip
                  refine xr_go 1 (pc' := 195) (ls' := [some (.inr (some (33, i))), some (.inl ((if (μ 1 0 3) < (μ 33 i 9) then 0 else 1) : Int32))]) (st' := [.inr (some (33, i))]) (s' := μ) rfl ?_
                  refine xr_cl (y' := 98) (as := [.inr (some (33, i))]) (r := []) rfl rfl ?_
                  refine tf_98 (d := d + 3) (μ := μ) (i := i) ?_
                  rw [gv1]
                  show xr_t (tm_I L xs) (d + 4) 101 198 [some (.inr (some (33, i))), some (.inl ((if (μ 1 0 3) < (μ 33 i 9) then 0 else 1) : Int32))] [.inl v1] μ Q
                  suffices hE22 : (((v1 = 0) ∨ ((cv_65 i μ) = 0)) → xr_t (tm_I L xs) (d + 4) 101 218 [some (.inr (some (33, i))), some (.inl ((if (μ 1 0 3) < (μ 33 i 9) then 0 else 1) : Int32))] [] μ Q) ∧ (¬ ((v1 = 0) ∨ ((cv_65 i μ) = 0)) → xr_t (tm_I L xs) (d + 4) 101 211 [some (.inr (some (33, i))), some (.inl ((if (μ 1 0 3) < (μ 33 i 9) then 0 else 1) : Int32))] [] μ Q) by
                    refine xr_br 1 (c := v1 = 0) inferInstance (a := 218) (b := 201) (ls' := [some (.inr (some (33, i))), some (.inl ((if (μ 1 0 3) < (μ 33 i 9) then 0 else 1) : Int32))]) (st' := []) (s' := μ) rfl (fun c22 => ?_) (fun c22 => ?_)
                    · skip
                      exact hE22.1 (Or.inl c22)
                    · skip
                      refine xr_go 2 (pc' := 205) (ls' := [some (.inr (some (33, i))), some (.inl ((if (μ 1 0 3) < (μ 33 i 9) then 0 else 1) : Int32))]) (st' := [.inr (some (34, i))]) (s' := μ) rfl ?_
                      refine xr_cl (y' := 65) (as := [.inr (some (34, i))]) (r := []) rfl rfl ?_
                      refine tf_65 (d := d + 3) (μ := μ) (i := i) ?_
                      show xr_t (tm_I L xs) (d + 4) 101 208 [some (.inr (some (33, i))), some (.inl ((if (μ 1 0 3) < (μ 33 i 9) then 0 else 1) : Int32))] [.inl (cv_65 i μ)] μ Q
                      refine xr_br 1 (c := (cv_65 i μ) = 0) inferInstance (a := 218) (b := 211) (ls' := [some (.inr (some (33, i))), some (.inl ((if (μ 1 0 3) < (μ 33 i 9) then 0 else 1) : Int32))]) (st' := []) (s' := μ) rfl (fun c23 => ?_) (fun c23 => ?_)
                      · skip
                        exact hE22.1 (Or.inr c23)
                      · skip
                        exact hE22.2 (fun z => z.elim c22 c23)
                  refine ⟨fun c24 => ?_, fun c24 => ?_⟩
                  · skip
                    try simp only [if_pos c4, if_pos c5, if_pos c6, if_pos c7, if_pos c10, if_pos c13, if_neg c14, if_neg c18, if_pos c24] at h
                    exact xr_rt (v := none) rfl h
                  · skip
                    refine xr_go 2 (pc' := 215) (ls' := [some (.inr (some (33, i))), some (.inl ((if (μ 1 0 3) < (μ 33 i 9) then 0 else 1) : Int32))]) (st' := [.inr (some (34, i))]) (s' := μ) rfl ?_
                    refine xr_cl (y' := 66) (as := [.inr (some (34, i))]) (r := []) rfl rfl ?_
                    refine tf_66 (d := d + 1) (μ := μ) (i := i) (hi.2.2.1 c4 c5 c6 c7 c10 c13 c14 c18 c24) ?_
                    show xr_t (tm_I L xs) (d + 4) 101 218 [some (.inr (some (33, i))), some (.inl ((if (μ 1 0 3) < (μ 33 i 9) then 0 else 1) : Int32))] [] (cs_66 i μ) Q
                    generalize gμ4 : (cs_66 i μ) = μ4 at h hi ⊢
                    try simp only [if_pos c4, if_pos c5, if_pos c6, if_pos c7, if_pos c10, if_pos c13, if_neg c14, if_neg c18, if_neg c24] at h
                    exact xr_rt (v := none) rfl h
            · skip
              refine xr_go 4 (pc' := 160) (ls' := [some (.inr (some (33, i))), some (.inl ((if (μ 1 0 3) < (μ 33 i 9) then 0 else 1) : Int32))]) (st' := [.inr (some (33, i))]) (s' := (tm_wr μ 33 i 4 6)) rfl ?_
              refine xr_cl (y' := 105) (as := [.inr (some (33, i))]) (r := []) rfl rfl ?_
              refine tf_105 (d := d + 2) (μ := (tm_wr μ 33 i 4 6)) (i := i) (hi.2.2.2.1 c4 c5 c6 c7 c10 c13) ?_
              show xr_t (tm_I L xs) (d + 4) 101 163 [some (.inr (some (33, i))), some (.inl ((if (μ 1 0 3) < (μ 33 i 9) then 0 else 1) : Int32))] [] (cs_105 i (tm_wr μ 33 i 4 6)) Q
              generalize gμ5 : (cs_105 i (tm_wr μ 33 i 4 6)) = μ5 at h hi ⊢
              refine xr_go 1 (pc' := 218) (ls' := [some (.inr (some (33, i))), some (.inl ((if (μ 1 0 3) < (μ 33 i 9) then 0 else 1) : Int32))]) (st' := []) (s' := μ5) rfl ?_
              try simp only [if_pos c4, if_pos c5, if_pos c6, if_pos c7, if_pos c10, if_neg c13] at h
              exact xr_rt (v := none) rfl h
          · skip
            refine xr_go 4 (pc' := 132) (ls' := [some (.inr (some (33, i))), some (.inl ((if (μ 1 0 3) < (μ 33 i 9) then 0 else 1) : Int32))]) (st' := [.inr (some (33, i))]) (s' := (tm_wr μ 33 i 4 5)) rfl ?_
            refine xr_cl (y' := 105) (as := [.inr (some (33, i))]) (r := []) rfl rfl ?_
            refine tf_105 (d := d + 2) (μ := (tm_wr μ 33 i 4 5)) (i := i) (hi.2.2.2.2.1 c4 c5 c6 c7 c10) ?_
            show xr_t (tm_I L xs) (d + 4) 101 135 [some (.inr (some (33, i))), some (.inl ((if (μ 1 0 3) < (μ 33 i 9) then 0 else 1) : Int32))] [] (cs_105 i (tm_wr μ 33 i 4 5)) Q
            generalize gμ6 : (cs_105 i (tm_wr μ 33 i 4 5)) = μ6 at h hi ⊢
            refine xr_go 1 (pc' := 218) (ls' := [some (.inr (some (33, i))), some (.inl ((if (μ 1 0 3) < (μ 33 i 9) then 0 else 1) : Int32))]) (st' := []) (s' := μ6) rfl ?_
            try simp only [if_pos c4, if_pos c5, if_pos c6, if_pos c7, if_neg c10] at h
            exact xr_rt (v := none) rfl h
        · skip
          suffices hE25 : (((¬ ((μ 33 i 4) = 4)) ∨ ((2 * ((μ 1 0 3) - (μ 33 i 7))) < (μ 1 0 0))) → xr_t (tm_I L xs) (d + 4) 101 138 [some (.inr (some (33, i))), some (.inl ((if (μ 1 0 3) < (μ 33 i 9) then 0 else 1) : Int32))] [] μ Q) ∧ (¬ ((¬ ((μ 33 i 4) = 4)) ∨ ((2 * ((μ 1 0 3) - (μ 33 i 7))) < (μ 1 0 0))) → xr_t (tm_I L xs) (d + 4) 101 126 [some (.inr (some (33, i))), some (.inl ((if (μ 1 0 3) < (μ 33 i 9) then 0 else 1) : Int32))] [] μ Q) by
            refine xr_br 4 (c := (μ 33 i 4) = 4) inferInstance (a := 102) (b := 138) (ls' := [some (.inr (some (33, i))), some (.inl ((if (μ 1 0 3) < (μ 33 i 9) then 0 else 1) : Int32))]) (st' := []) (s' := μ) rfl (fun c25 => ?_) (fun c25 => ?_)
            · skip
              refine xr_br 12 (c := (2 * ((μ 1 0 3) - (μ 33 i 7))) < (μ 1 0 0)) inferInstance (a := 138) (b := 126) (ls' := [some (.inr (some (33, i))), some (.inl ((if (μ 1 0 3) < (μ 33 i 9) then 0 else 1) : Int32))]) (st' := []) (s' := μ) rfl (fun c26 => ?_) (fun c26 => ?_)
              · skip
                exact hE25.1 (Or.inr c26)
              · skip
                exact hE25.2 (fun z => z.elim (fun w => w c25) c26)
            · skip
              exact hE25.1 (Or.inl c25)
          refine ⟨fun c27 => ?_, fun c27 => ?_⟩
          · skip
            suffices hE28 : (((¬ ((μ 33 i 4) = 5)) ∨ ((cv_109 i μ) = 0)) → xr_t (tm_I L xs) (d + 4) 101 166 [some (.inr (some (33, i))), some (.inl ((if (μ 1 0 3) < (μ 33 i 9) then 0 else 1) : Int32))] [] μ Q) ∧ (¬ ((¬ ((μ 33 i 4) = 5)) ∨ ((cv_109 i μ) = 0)) → xr_t (tm_I L xs) (d + 4) 101 153 [some (.inr (some (33, i))), some (.inl ((if (μ 1 0 3) < (μ 33 i 9) then 0 else 1) : Int32))] [] μ Q) by
              refine xr_br 4 (c := (μ 33 i 4) = 5) inferInstance (a := 146) (b := 166) (ls' := [some (.inr (some (33, i))), some (.inl ((if (μ 1 0 3) < (μ 33 i 9) then 0 else 1) : Int32))]) (st' := []) (s' := μ) rfl (fun c28 => ?_) (fun c28 => ?_)
              · skip
                refine xr_go 1 (pc' := 147) (ls' := [some (.inr (some (33, i))), some (.inl ((if (μ 1 0 3) < (μ 33 i 9) then 0 else 1) : Int32))]) (st' := [.inr (some (33, i))]) (s' := μ) rfl ?_
                refine xr_cl (y' := 109) (as := [.inr (some (33, i))]) (r := []) rfl rfl ?_
                refine tf_109 (d := d + 3) (μ := μ) (i := i) ?_
                show xr_t (tm_I L xs) (d + 4) 101 150 [some (.inr (some (33, i))), some (.inl ((if (μ 1 0 3) < (μ 33 i 9) then 0 else 1) : Int32))] [.inl (cv_109 i μ)] μ Q
                refine xr_br 1 (c := (cv_109 i μ) = 0) inferInstance (a := 166) (b := 153) (ls' := [some (.inr (some (33, i))), some (.inl ((if (μ 1 0 3) < (μ 33 i 9) then 0 else 1) : Int32))]) (st' := []) (s' := μ) rfl (fun c29 => ?_) (fun c29 => ?_)
                · skip
                  exact hE28.1 (Or.inr c29)
                · skip
                  exact hE28.2 (fun z => z.elim (fun w => w c28) c29)
              · skip
                exact hE28.1 (Or.inl c28)
            refine ⟨fun c30 => ?_, fun c30 => ?_⟩
            · skip
              refine xr_br 4 (c := (μ 33 i 4) = 5) inferInstance (a := 183) (b := 174) (ls' := [some (.inr (some (33, i))), some (.inl ((if (μ 1 0 3) < (μ 33 i 9) then 0 else 1) : Int32))]) (st' := []) (s' := μ) rfl (fun c31 => ?_) (fun c31 => ?_)
              · skip
                refine xr_br 2 (c := ((if (μ 1 0 3) < (μ 33 i 9) then 0 else 1) : Int32) = 0) inferInstance (a := 194) (b := 187) (ls' := [some (.inr (some (33, i))), some (.inl ((if (μ 1 0 3) < (μ 33 i 9) then 0 else 1) : Int32))]) (st' := []) (s' := μ) rfl (fun cx => ?_) (fun cx => ?_)
                rotate_left
                · exact absurd c6 cx
                refine xr_go 1 (pc' := 195) (ls' := [some (.inr (some (33, i))), some (.inl ((if (μ 1 0 3) < (μ 33 i 9) then 0 else 1) : Int32))]) (st' := [.inr (some (33, i))]) (s' := μ) rfl ?_
                refine xr_cl (y' := 98) (as := [.inr (some (33, i))]) (r := []) rfl rfl ?_
                refine tf_98 (d := d + 3) (μ := μ) (i := i) ?_
                rw [gv1]
                show xr_t (tm_I L xs) (d + 4) 101 198 [some (.inr (some (33, i))), some (.inl ((if (μ 1 0 3) < (μ 33 i 9) then 0 else 1) : Int32))] [.inl v1] μ Q
                suffices hE32 : (((v1 = 0) ∨ ((cv_65 i μ) = 0)) → xr_t (tm_I L xs) (d + 4) 101 218 [some (.inr (some (33, i))), some (.inl ((if (μ 1 0 3) < (μ 33 i 9) then 0 else 1) : Int32))] [] μ Q) ∧ (¬ ((v1 = 0) ∨ ((cv_65 i μ) = 0)) → xr_t (tm_I L xs) (d + 4) 101 211 [some (.inr (some (33, i))), some (.inl ((if (μ 1 0 3) < (μ 33 i 9) then 0 else 1) : Int32))] [] μ Q) by
                  refine xr_br 1 (c := v1 = 0) inferInstance (a := 218) (b := 201) (ls' := [some (.inr (some (33, i))), some (.inl ((if (μ 1 0 3) < (μ 33 i 9) then 0 else 1) : Int32))]) (st' := []) (s' := μ) rfl (fun c32 => ?_) (fun c32 => ?_)
                  · skip
                    exact hE32.1 (Or.inl c32)
                  · skip
                    refine xr_go 2 (pc' := 205) (ls' := [some (.inr (some (33, i))), some (.inl ((if (μ 1 0 3) < (μ 33 i 9) then 0 else 1) : Int32))]) (st' := [.inr (some (34, i))]) (s' := μ) rfl ?_
                    refine xr_cl (y' := 65) (as := [.inr (some (34, i))]) (r := []) rfl rfl ?_
                    refine tf_65 (d := d + 3) (μ := μ) (i := i) ?_
                    show xr_t (tm_I L xs) (d + 4) 101 208 [some (.inr (some (33, i))), some (.inl ((if (μ 1 0 3) < (μ 33 i 9) then 0 else 1) : Int32))] [.inl (cv_65 i μ)] μ Q
                    refine xr_br 1 (c := (cv_65 i μ) = 0) inferInstance (a := 218) (b := 211) (ls' := [some (.inr (some (33, i))), some (.inl ((if (μ 1 0 3) < (μ 33 i 9) then 0 else 1) : Int32))]) (st' := []) (s' := μ) rfl (fun c33 => ?_) (fun c33 => ?_)
                    · skip
                      exact hE32.1 (Or.inr c33)
                    · skip
                      exact hE32.2 (fun z => z.elim c32 c33)
                refine ⟨fun c34 => ?_, fun c34 => ?_⟩
                · skip
                  try simp only [if_pos c4, if_pos c5, if_pos c6, if_neg c7, if_pos c27, if_pos c30, if_pos c31, if_pos c34] at h
                  exact xr_rt (v := none) rfl h
                · skip
                  refine xr_go 2 (pc' := 215) (ls' := [some (.inr (some (33, i))), some (.inl ((if (μ 1 0 3) < (μ 33 i 9) then 0 else 1) : Int32))]) (st' := [.inr (some (34, i))]) (s' := μ) rfl ?_
                  refine xr_cl (y' := 66) (as := [.inr (some (34, i))]) (r := []) rfl rfl ?_
                  refine tf_66 (d := d + 1) (μ := μ) (i := i) (hi.2.2.2.2.2.1 c4 c5 c6 c7 c27 c30 c31 c34) ?_
                  show xr_t (tm_I L xs) (d + 4) 101 218 [some (.inr (some (33, i))), some (.inl ((if (μ 1 0 3) < (μ 33 i 9) then 0 else 1) : Int32))] [] (cs_66 i μ) Q
                  generalize gμ7 : (cs_66 i μ) = μ7 at h hi ⊢
                  try simp only [if_pos c4, if_pos c5, if_pos c6, if_neg c7, if_pos c27, if_pos c30, if_pos c31, if_neg c34] at h
                  exact xr_rt (v := none) rfl h
              · skip
                refine xr_br 4 (c := (μ 33 i 4) = 6) inferInstance (a := 183) (b := 194) (ls' := [some (.inr (some (33, i))), some (.inl ((if (μ 1 0 3) < (μ 33 i 9) then 0 else 1) : Int32))]) (st' := []) (s' := μ) rfl (fun c35 => ?_) (fun c35 => ?_)
                · skip
                  refine xr_br 2 (c := ((if (μ 1 0 3) < (μ 33 i 9) then 0 else 1) : Int32) = 0) inferInstance (a := 194) (b := 187) (ls' := [some (.inr (some (33, i))), some (.inl ((if (μ 1 0 3) < (μ 33 i 9) then 0 else 1) : Int32))]) (st' := []) (s' := μ) rfl (fun cx => ?_) (fun cx => ?_)
                  rotate_left
                  · exact absurd c6 cx
                  refine xr_go 1 (pc' := 195) (ls' := [some (.inr (some (33, i))), some (.inl ((if (μ 1 0 3) < (μ 33 i 9) then 0 else 1) : Int32))]) (st' := [.inr (some (33, i))]) (s' := μ) rfl ?_
                  refine xr_cl (y' := 98) (as := [.inr (some (33, i))]) (r := []) rfl rfl ?_
                  refine tf_98 (d := d + 3) (μ := μ) (i := i) ?_
                  rw [gv1]
                  show xr_t (tm_I L xs) (d + 4) 101 198 [some (.inr (some (33, i))), some (.inl ((if (μ 1 0 3) < (μ 33 i 9) then 0 else 1) : Int32))] [.inl v1] μ Q
                  suffices hE36 : (((v1 = 0) ∨ ((cv_65 i μ) = 0)) → xr_t (tm_I L xs) (d + 4) 101 218 [some (.inr (some (33, i))), some (.inl ((if (μ 1 0 3) < (μ 33 i 9) then 0 else 1) : Int32))] [] μ Q) ∧ (¬ ((v1 = 0) ∨ ((cv_65 i μ) = 0)) → xr_t (tm_I L xs) (d + 4) 101 211 [some (.inr (some (33, i))), some (.inl ((if (μ 1 0 3) < (μ 33 i 9) then 0 else 1) : Int32))] [] μ Q) by
                    refine xr_br 1 (c := v1 = 0) inferInstance (a := 218) (b := 201) (ls' := [some (.inr (some (33, i))), some (.inl ((if (μ 1 0 3) < (μ 33 i 9) then 0 else 1) : Int32))]) (st' := []) (s' := μ) rfl (fun c36 => ?_) (fun c36 => ?_)
                    · skip
                      exact hE36.1 (Or.inl c36)
                    · skip
                      refine xr_go 2 (pc' := 205) (ls' := [some (.inr (some (33, i))), some (.inl ((if (μ 1 0 3) < (μ 33 i 9) then 0 else 1) : Int32))]) (st' := [.inr (some (34, i))]) (s' := μ) rfl ?_
                      refine xr_cl (y' := 65) (as := [.inr (some (34, i))]) (r := []) rfl rfl ?_
                      refine tf_65 (d := d + 3) (μ := μ) (i := i) ?_
                      show xr_t (tm_I L xs) (d + 4) 101 208 [some (.inr (some (33, i))), some (.inl ((if (μ 1 0 3) < (μ 33 i 9) then 0 else 1) : Int32))] [.inl (cv_65 i μ)] μ Q
                      refine xr_br 1 (c := (cv_65 i μ) = 0) inferInstance (a := 218) (b := 211) (ls' := [some (.inr (some (33, i))), some (.inl ((if (μ 1 0 3) < (μ 33 i 9) then 0 else 1) : Int32))]) (st' := []) (s' := μ) rfl (fun c37 => ?_) (fun c37 => ?_)
                      · skip
                        exact hE36.1 (Or.inr c37)
                      · skip
                        exact hE36.2 (fun z => z.elim c36 c37)
                  refine ⟨fun c38 => ?_, fun c38 => ?_⟩
                  · skip
                    try simp only [if_pos c4, if_pos c5, if_pos c6, if_neg c7, if_pos c27, if_pos c30, if_neg c31, if_pos c35, if_pos c38] at h
                    exact xr_rt (v := none) rfl h
                  · skip
                    refine xr_go 2 (pc' := 215) (ls' := [some (.inr (some (33, i))), some (.inl ((if (μ 1 0 3) < (μ 33 i 9) then 0 else 1) : Int32))]) (st' := [.inr (some (34, i))]) (s' := μ) rfl ?_
                    refine xr_cl (y' := 66) (as := [.inr (some (34, i))]) (r := []) rfl rfl ?_
                    refine tf_66 (d := d + 1) (μ := μ) (i := i) (hi.2.2.2.2.2.2.1 c4 c5 c6 c7 c27 c30 c31 c35 c38) ?_
                    show xr_t (tm_I L xs) (d + 4) 101 218 [some (.inr (some (33, i))), some (.inl ((if (μ 1 0 3) < (μ 33 i 9) then 0 else 1) : Int32))] [] (cs_66 i μ) Q
                    generalize gμ8 : (cs_66 i μ) = μ8 at h hi ⊢
                    try simp only [if_pos c4, if_pos c5, if_pos c6, if_neg c7, if_pos c27, if_pos c30, if_neg c31, if_pos c35, if_neg c38] at h
                    exact xr_rt (v := none) rfl h
                · skip
                  refine xr_go 1 (pc' := 195) (ls' := [some (.inr (some (33, i))), some (.inl ((if (μ 1 0 3) < (μ 33 i 9) then 0 else 1) : Int32))]) (st' := [.inr (some (33, i))]) (s' := μ) rfl ?_
                  refine xr_cl (y' := 98) (as := [.inr (some (33, i))]) (r := []) rfl rfl ?_
                  refine tf_98 (d := d + 3) (μ := μ) (i := i) ?_
                  rw [gv1]
                  show xr_t (tm_I L xs) (d + 4) 101 198 [some (.inr (some (33, i))), some (.inl ((if (μ 1 0 3) < (μ 33 i 9) then 0 else 1) : Int32))] [.inl v1] μ Q
                  suffices hE39 : (((v1 = 0) ∨ ((cv_65 i μ) = 0)) → xr_t (tm_I L xs) (d + 4) 101 218 [some (.inr (some (33, i))), some (.inl ((if (μ 1 0 3) < (μ 33 i 9) then 0 else 1) : Int32))] [] μ Q) ∧ (¬ ((v1 = 0) ∨ ((cv_65 i μ) = 0)) → xr_t (tm_I L xs) (d + 4) 101 211 [some (.inr (some (33, i))), some (.inl ((if (μ 1 0 3) < (μ 33 i 9) then 0 else 1) : Int32))] [] μ Q) by
                    refine xr_br 1 (c := v1 = 0) inferInstance (a := 218) (b := 201) (ls' := [some (.inr (some (33, i))), some (.inl ((if (μ 1 0 3) < (μ 33 i 9) then 0 else 1) : Int32))]) (st' := []) (s' := μ) rfl (fun c39 => ?_) (fun c39 => ?_)
                    · skip
                      exact hE39.1 (Or.inl c39)
                    · skip
                      refine xr_go 2 (pc' := 205) (ls' := [some (.inr (some (33, i))), some (.inl ((if (μ 1 0 3) < (μ 33 i 9) then 0 else 1) : Int32))]) (st' := [.inr (some (34, i))]) (s' := μ) rfl ?_
                      refine xr_cl (y' := 65) (as := [.inr (some (34, i))]) (r := []) rfl rfl ?_
                      refine tf_65 (d := d + 3) (μ := μ) (i := i) ?_
                      show xr_t (tm_I L xs) (d + 4) 101 208 [some (.inr (some (33, i))), some (.inl ((if (μ 1 0 3) < (μ 33 i 9) then 0 else 1) : Int32))] [.inl (cv_65 i μ)] μ Q
                      refine xr_br 1 (c := (cv_65 i μ) = 0) inferInstance (a := 218) (b := 211) (ls' := [some (.inr (some (33, i))), some (.inl ((if (μ 1 0 3) < (μ 33 i 9) then 0 else 1) : Int32))]) (st' := []) (s' := μ) rfl (fun c40 => ?_) (fun c40 => ?_)
                      · skip
                        exact hE39.1 (Or.inr c40)
                      · skip
                        exact hE39.2 (fun z => z.elim c39 c40)
                  refine ⟨fun c41 => ?_, fun c41 => ?_⟩
                  · skip
                    try simp only [if_pos c4, if_pos c5, if_pos c6, if_neg c7, if_pos c27, if_pos c30, if_neg c31, if_neg c35, if_pos c41] at h
                    exact xr_rt (v := none) rfl h
                  · skip
                    refine xr_go 2 (pc' := 215) (ls' := [some (.inr (some (33, i))), some (.inl ((if (μ 1 0 3) < (μ 33 i 9) then 0 else 1) : Int32))]) (st' := [.inr (some (34, i))]) (s' := μ) rfl ?_
                    refine xr_cl (y' := 66) (as := [.inr (some (34, i))]) (r := []) rfl rfl ?_
                    refine tf_66 (d := d + 1) (μ := μ) (i := i) (hi.2.2.2.2.2.2.2.1 c4 c5 c6 c7 c27 c30 c31 c35 c41) ?_
                    show xr_t (tm_I L xs) (d + 4) 101 218 [some (.inr (some (33, i))), some (.inl ((if (μ 1 0 3) < (μ 33 i 9) then 0 else 1) : Int32))] [] (cs_66 i μ) Q
                    generalize gμ9 : (cs_66 i μ) = μ9 at h hi ⊢
                    try simp only [if_pos c4, if_pos c5, if_pos c6, if_neg c7, if_pos c27, if_pos c30, if_neg c31, if_neg c35, if_neg c41] at h
                    exact xr_rt (v := none) rfl h
            · skip
              refine xr_go 4 (pc' := 160) (ls' := [some (.inr (some (33, i))), some (.inl ((if (μ 1 0 3) < (μ 33 i 9) then 0 else 1) : Int32))]) (st' := [.inr (some (33, i))]) (s' := (tm_wr μ 33 i 4 6)) rfl ?_
              refine xr_cl (y' := 105) (as := [.inr (some (33, i))]) (r := []) rfl rfl ?_
              refine tf_105 (d := d + 2) (μ := (tm_wr μ 33 i 4 6)) (i := i) (hi.2.2.2.2.2.2.2.2.1 c4 c5 c6 c7 c27 c30) ?_
              show xr_t (tm_I L xs) (d + 4) 101 163 [some (.inr (some (33, i))), some (.inl ((if (μ 1 0 3) < (μ 33 i 9) then 0 else 1) : Int32))] [] (cs_105 i (tm_wr μ 33 i 4 6)) Q
              generalize gμ10 : (cs_105 i (tm_wr μ 33 i 4 6)) = μ10 at h hi ⊢
              refine xr_go 1 (pc' := 218) (ls' := [some (.inr (some (33, i))), some (.inl ((if (μ 1 0 3) < (μ 33 i 9) then 0 else 1) : Int32))]) (st' := []) (s' := μ10) rfl ?_
              try simp only [if_pos c4, if_pos c5, if_pos c6, if_neg c7, if_pos c27, if_neg c30] at h
              exact xr_rt (v := none) rfl h
          · skip
            refine xr_go 4 (pc' := 132) (ls' := [some (.inr (some (33, i))), some (.inl ((if (μ 1 0 3) < (μ 33 i 9) then 0 else 1) : Int32))]) (st' := [.inr (some (33, i))]) (s' := (tm_wr μ 33 i 4 5)) rfl ?_
            refine xr_cl (y' := 105) (as := [.inr (some (33, i))]) (r := []) rfl rfl ?_
            refine tf_105 (d := d + 2) (μ := (tm_wr μ 33 i 4 5)) (i := i) (hi.2.2.2.2.2.2.2.2.2.1 c4 c5 c6 c7 c27) ?_
            show xr_t (tm_I L xs) (d + 4) 101 135 [some (.inr (some (33, i))), some (.inl ((if (μ 1 0 3) < (μ 33 i 9) then 0 else 1) : Int32))] [] (cs_105 i (tm_wr μ 33 i 4 5)) Q
            generalize gμ11 : (cs_105 i (tm_wr μ 33 i 4 5)) = μ11 at h hi ⊢
            refine xr_go 1 (pc' := 218) (ls' := [some (.inr (some (33, i))), some (.inl ((if (μ 1 0 3) < (μ 33 i 9) then 0 else 1) : Int32))]) (st' := []) (s' := μ11) rfl ?_
            try simp only [if_pos c4, if_pos c5, if_pos c6, if_neg c7, if_neg c27] at h
            exact xr_rt (v := none) rfl h
      · skip
        refine xr_go 1 (pc' := 69) (ls' := [some (.inr (some (33, i))), some (.inl ((if (μ 1 0 3) < (μ 33 i 9) then 0 else 1) : Int32))]) (st' := [.inr (some (33, i))]) (s' := μ) rfl ?_
        refine xr_cl (y' := 107) (as := [.inr (some (33, i))]) (r := []) rfl rfl ?_
        refine tf_107 (d := d + 1) (μ := μ) (i := i) (hi.2.2.2.2.2.2.2.2.2.2.1 c4 c5 c6) ?_
        show xr_t (tm_I L xs) (d + 4) 101 72 [some (.inr (some (33, i))), some (.inl ((if (μ 1 0 3) < (μ 33 i 9) then 0 else 1) : Int32))] [] (cs_107 i μ) Q
        generalize gμ12 : (cs_107 i μ) = μ12 at h hi ⊢
        refine xr_go 1 (pc' := 218) (ls' := [some (.inr (some (33, i))), some (.inl ((if (μ 1 0 3) < (μ 33 i 9) then 0 else 1) : Int32))]) (st' := []) (s' := μ12) rfl ?_
        try simp only [if_pos c4, if_pos c5, if_neg c6] at h
        exact xr_rt (v := none) rfl h
    · skip
      suffices hE42 : (((¬ ((μ 33 i 4) = 2)) ∨ (((if (μ 1 0 3) < (μ 33 i 9) then 0 else 1) : Int32) = 0)) → xr_t (tm_I L xs) (d + 4) 101 75 [some (.inr (some (33, i))), some (.inl ((if (μ 1 0 3) < (μ 33 i 9) then 0 else 1) : Int32))] [] μ Q) ∧ (¬ ((¬ ((μ 33 i 4) = 2)) ∨ (((if (μ 1 0 3) < (μ 33 i 9) then 0 else 1) : Int32) = 0)) → xr_t (tm_I L xs) (d + 4) 101 68 [some (.inr (some (33, i))), some (.inl ((if (μ 1 0 3) < (μ 33 i 9) then 0 else 1) : Int32))] [] μ Q) by
        refine xr_br 4 (c := (μ 33 i 4) = 2) inferInstance (a := 64) (b := 75) (ls' := [some (.inr (some (33, i))), some (.inl ((if (μ 1 0 3) < (μ 33 i 9) then 0 else 1) : Int32))]) (st' := []) (s' := μ) rfl (fun c42 => ?_) (fun c42 => ?_)
        · skip
          refine xr_br 2 (c := ((if (μ 1 0 3) < (μ 33 i 9) then 0 else 1) : Int32) = 0) inferInstance (a := 75) (b := 68) (ls' := [some (.inr (some (33, i))), some (.inl ((if (μ 1 0 3) < (μ 33 i 9) then 0 else 1) : Int32))]) (st' := []) (s' := μ) rfl (fun c43 => ?_) (fun c43 => ?_)
          · skip
            exact hE42.1 (Or.inr c43)
          · skip
            exact hE42.2 (fun z => z.elim (fun w => w c42) c43)
        · skip
          exact hE42.1 (Or.inl c42)
      refine ⟨fun c44 => ?_, fun c44 => ?_⟩
      · skip
        suffices hE45 : (((¬ ((μ 33 i 4) = 3)) ∨ (((if (μ 1 0 3) < (μ 33 i 9) then 0 else 1) : Int32) = 0)) → xr_t (tm_I L xs) (d + 4) 101 94 [some (.inr (some (33, i))), some (.inl ((if (μ 1 0 3) < (μ 33 i 9) then 0 else 1) : Int32))] [] μ Q) ∧ (¬ ((¬ ((μ 33 i 4) = 3)) ∨ (((if (μ 1 0 3) < (μ 33 i 9) then 0 else 1) : Int32) = 0)) → xr_t (tm_I L xs) (d + 4) 101 87 [some (.inr (some (33, i))), some (.inl ((if (μ 1 0 3) < (μ 33 i 9) then 0 else 1) : Int32))] [] μ Q) by
          refine xr_br 4 (c := (μ 33 i 4) = 3) inferInstance (a := 83) (b := 94) (ls' := [some (.inr (some (33, i))), some (.inl ((if (μ 1 0 3) < (μ 33 i 9) then 0 else 1) : Int32))]) (st' := []) (s' := μ) rfl (fun c45 => ?_) (fun c45 => ?_)
          · skip
            refine xr_br 2 (c := ((if (μ 1 0 3) < (μ 33 i 9) then 0 else 1) : Int32) = 0) inferInstance (a := 94) (b := 87) (ls' := [some (.inr (some (33, i))), some (.inl ((if (μ 1 0 3) < (μ 33 i 9) then 0 else 1) : Int32))]) (st' := []) (s' := μ) rfl (fun c46 => ?_) (fun c46 => ?_)
            · skip
              exact hE45.1 (Or.inr c46)
            · skip
              exact hE45.2 (fun z => z.elim (fun w => w c45) c46)
          · skip
            exact hE45.1 (Or.inl c45)
        refine ⟨fun c47 => ?_, fun c47 => ?_⟩
        · skip
          suffices hE48 : (((¬ ((μ 33 i 4) = 4)) ∨ ((2 * ((μ 1 0 3) - (μ 33 i 7))) < (μ 1 0 0))) → xr_t (tm_I L xs) (d + 4) 101 138 [some (.inr (some (33, i))), some (.inl ((if (μ 1 0 3) < (μ 33 i 9) then 0 else 1) : Int32))] [] μ Q) ∧ (¬ ((¬ ((μ 33 i 4) = 4)) ∨ ((2 * ((μ 1 0 3) - (μ 33 i 7))) < (μ 1 0 0))) → xr_t (tm_I L xs) (d + 4) 101 126 [some (.inr (some (33, i))), some (.inl ((if (μ 1 0 3) < (μ 33 i 9) then 0 else 1) : Int32))] [] μ Q) by
            refine xr_br 4 (c := (μ 33 i 4) = 4) inferInstance (a := 102) (b := 138) (ls' := [some (.inr (some (33, i))), some (.inl ((if (μ 1 0 3) < (μ 33 i 9) then 0 else 1) : Int32))]) (st' := []) (s' := μ) rfl (fun c48 => ?_) (fun c48 => ?_)
            · skip
              refine xr_br 12 (c := (2 * ((μ 1 0 3) - (μ 33 i 7))) < (μ 1 0 0)) inferInstance (a := 138) (b := 126) (ls' := [some (.inr (some (33, i))), some (.inl ((if (μ 1 0 3) < (μ 33 i 9) then 0 else 1) : Int32))]) (st' := []) (s' := μ) rfl (fun c49 => ?_) (fun c49 => ?_)
              · skip
                exact hE48.1 (Or.inr c49)
              · skip
                exact hE48.2 (fun z => z.elim (fun w => w c48) c49)
            · skip
              exact hE48.1 (Or.inl c48)
          refine ⟨fun c50 => ?_, fun c50 => ?_⟩
          · skip
            suffices hE51 : (((¬ ((μ 33 i 4) = 5)) ∨ ((cv_109 i μ) = 0)) → xr_t (tm_I L xs) (d + 4) 101 166 [some (.inr (some (33, i))), some (.inl ((if (μ 1 0 3) < (μ 33 i 9) then 0 else 1) : Int32))] [] μ Q) ∧ (¬ ((¬ ((μ 33 i 4) = 5)) ∨ ((cv_109 i μ) = 0)) → xr_t (tm_I L xs) (d + 4) 101 153 [some (.inr (some (33, i))), some (.inl ((if (μ 1 0 3) < (μ 33 i 9) then 0 else 1) : Int32))] [] μ Q) by
              refine xr_br 4 (c := (μ 33 i 4) = 5) inferInstance (a := 146) (b := 166) (ls' := [some (.inr (some (33, i))), some (.inl ((if (μ 1 0 3) < (μ 33 i 9) then 0 else 1) : Int32))]) (st' := []) (s' := μ) rfl (fun c51 => ?_) (fun c51 => ?_)
              · skip
                refine xr_go 1 (pc' := 147) (ls' := [some (.inr (some (33, i))), some (.inl ((if (μ 1 0 3) < (μ 33 i 9) then 0 else 1) : Int32))]) (st' := [.inr (some (33, i))]) (s' := μ) rfl ?_
                refine xr_cl (y' := 109) (as := [.inr (some (33, i))]) (r := []) rfl rfl ?_
                refine tf_109 (d := d + 3) (μ := μ) (i := i) ?_
                show xr_t (tm_I L xs) (d + 4) 101 150 [some (.inr (some (33, i))), some (.inl ((if (μ 1 0 3) < (μ 33 i 9) then 0 else 1) : Int32))] [.inl (cv_109 i μ)] μ Q
                refine xr_br 1 (c := (cv_109 i μ) = 0) inferInstance (a := 166) (b := 153) (ls' := [some (.inr (some (33, i))), some (.inl ((if (μ 1 0 3) < (μ 33 i 9) then 0 else 1) : Int32))]) (st' := []) (s' := μ) rfl (fun c52 => ?_) (fun c52 => ?_)
                · skip
                  exact hE51.1 (Or.inr c52)
                · skip
                  exact hE51.2 (fun z => z.elim (fun w => w c51) c52)
              · skip
                exact hE51.1 (Or.inl c51)
            refine ⟨fun c53 => ?_, fun c53 => ?_⟩
            · skip
              refine xr_br 4 (c := (μ 33 i 4) = 5) inferInstance (a := 183) (b := 174) (ls' := [some (.inr (some (33, i))), some (.inl ((if (μ 1 0 3) < (μ 33 i 9) then 0 else 1) : Int32))]) (st' := []) (s' := μ) rfl (fun c54 => ?_) (fun c54 => ?_)
              · skip
                refine xr_br 2 (c := ((if (μ 1 0 3) < (μ 33 i 9) then 0 else 1) : Int32) = 0) inferInstance (a := 194) (b := 187) (ls' := [some (.inr (some (33, i))), some (.inl ((if (μ 1 0 3) < (μ 33 i 9) then 0 else 1) : Int32))]) (st' := []) (s' := μ) rfl (fun c55 => ?_) (fun c55 => ?_)
                · skip
                  refine xr_go 1 (pc' := 195) (ls' := [some (.inr (some (33, i))), some (.inl ((if (μ 1 0 3) < (μ 33 i 9) then 0 else 1) : Int32))]) (st' := [.inr (some (33, i))]) (s' := μ) rfl ?_
                  refine xr_cl (y' := 98) (as := [.inr (some (33, i))]) (r := []) rfl rfl ?_
                  refine tf_98 (d := d + 3) (μ := μ) (i := i) ?_
                  rw [gv1]
                  show xr_t (tm_I L xs) (d + 4) 101 198 [some (.inr (some (33, i))), some (.inl ((if (μ 1 0 3) < (μ 33 i 9) then 0 else 1) : Int32))] [.inl v1] μ Q
                  suffices hE56 : (((v1 = 0) ∨ ((cv_65 i μ) = 0)) → xr_t (tm_I L xs) (d + 4) 101 218 [some (.inr (some (33, i))), some (.inl ((if (μ 1 0 3) < (μ 33 i 9) then 0 else 1) : Int32))] [] μ Q) ∧ (¬ ((v1 = 0) ∨ ((cv_65 i μ) = 0)) → xr_t (tm_I L xs) (d + 4) 101 211 [some (.inr (some (33, i))), some (.inl ((if (μ 1 0 3) < (μ 33 i 9) then 0 else 1) : Int32))] [] μ Q) by
                    refine xr_br 1 (c := v1 = 0) inferInstance (a := 218) (b := 201) (ls' := [some (.inr (some (33, i))), some (.inl ((if (μ 1 0 3) < (μ 33 i 9) then 0 else 1) : Int32))]) (st' := []) (s' := μ) rfl (fun c56 => ?_) (fun c56 => ?_)
                    · skip
                      exact hE56.1 (Or.inl c56)
                    · skip
                      refine xr_go 2 (pc' := 205) (ls' := [some (.inr (some (33, i))), some (.inl ((if (μ 1 0 3) < (μ 33 i 9) then 0 else 1) : Int32))]) (st' := [.inr (some (34, i))]) (s' := μ) rfl ?_
                      refine xr_cl (y' := 65) (as := [.inr (some (34, i))]) (r := []) rfl rfl ?_
                      refine tf_65 (d := d + 3) (μ := μ) (i := i) ?_
                      show xr_t (tm_I L xs) (d + 4) 101 208 [some (.inr (some (33, i))), some (.inl ((if (μ 1 0 3) < (μ 33 i 9) then 0 else 1) : Int32))] [.inl (cv_65 i μ)] μ Q
                      refine xr_br 1 (c := (cv_65 i μ) = 0) inferInstance (a := 218) (b := 211) (ls' := [some (.inr (some (33, i))), some (.inl ((if (μ 1 0 3) < (μ 33 i 9) then 0 else 1) : Int32))]) (st' := []) (s' := μ) rfl (fun c57 => ?_) (fun c57 => ?_)
                      · skip
                        exact hE56.1 (Or.inr c57)
                      · skip
                        exact hE56.2 (fun z => z.elim c56 c57)
                  refine ⟨fun c58 => ?_, fun c58 => ?_⟩
                  · skip
                    try simp only [if_pos c4, if_neg c5, if_pos c44, if_pos c47, if_pos c50, if_pos c53, if_pos c54, if_pos c55, if_pos c58] at h
                    exact xr_rt (v := none) rfl h
                  · skip
                    refine xr_go 2 (pc' := 215) (ls' := [some (.inr (some (33, i))), some (.inl ((if (μ 1 0 3) < (μ 33 i 9) then 0 else 1) : Int32))]) (st' := [.inr (some (34, i))]) (s' := μ) rfl ?_
                    refine xr_cl (y' := 66) (as := [.inr (some (34, i))]) (r := []) rfl rfl ?_
                    refine tf_66 (d := d + 1) (μ := μ) (i := i) (hi.2.2.2.2.2.2.2.2.2.2.2.1 c4 c5 c44 c47 c50 c53 c54 c55 c58) ?_
                    show xr_t (tm_I L xs) (d + 4) 101 218 [some (.inr (some (33, i))), some (.inl ((if (μ 1 0 3) < (μ 33 i 9) then 0 else 1) : Int32))] [] (cs_66 i μ) Q
                    generalize gμ13 : (cs_66 i μ) = μ13 at h hi ⊢
                    try simp only [if_pos c4, if_neg c5, if_pos c44, if_pos c47, if_pos c50, if_pos c53, if_pos c54, if_pos c55, if_neg c58] at h
                    exact xr_rt (v := none) rfl h
                · skip
                  refine xr_go 1 (pc' := 188) (ls' := [some (.inr (some (33, i))), some (.inl ((if (μ 1 0 3) < (μ 33 i 9) then 0 else 1) : Int32))]) (st' := [.inr (some (33, i))]) (s' := μ) rfl ?_
                  refine xr_cl (y' := 105) (as := [.inr (some (33, i))]) (r := []) rfl rfl ?_
                  refine tf_105 (d := d + 2) (μ := μ) (i := i) (hi.2.2.2.2.2.2.2.2.2.2.2.2.1 c4 c5 c44 c47 c50 c53 c54 c55) ?_
                  show xr_t (tm_I L xs) (d + 4) 101 191 [some (.inr (some (33, i))), some (.inl ((if (μ 1 0 3) < (μ 33 i 9) then 0 else 1) : Int32))] [] (cs_105 i μ) Q
                  generalize gμ14 : (cs_105 i μ) = μ14 at h hi ⊢
                  refine xr_go 1 (pc' := 218) (ls' := [some (.inr (some (33, i))), some (.inl ((if (μ 1 0 3) < (μ 33 i 9) then 0 else 1) : Int32))]) (st' := []) (s' := μ14) rfl ?_
                  try simp only [if_pos c4, if_neg c5, if_pos c44, if_pos c47, if_pos c50, if_pos c53, if_pos c54, if_neg c55] at h
                  exact xr_rt (v := none) rfl h
              · skip
                suffices hE59 : (((¬ ((μ 33 i 4) = 6)) ∨ (((if (μ 1 0 3) < (μ 33 i 9) then 0 else 1) : Int32) = 0)) → xr_t (tm_I L xs) (d + 4) 101 194 [some (.inr (some (33, i))), some (.inl ((if (μ 1 0 3) < (μ 33 i 9) then 0 else 1) : Int32))] [] μ Q) ∧ (¬ ((¬ ((μ 33 i 4) = 6)) ∨ (((if (μ 1 0 3) < (μ 33 i 9) then 0 else 1) : Int32) = 0)) → xr_t (tm_I L xs) (d + 4) 101 187 [some (.inr (some (33, i))), some (.inl ((if (μ 1 0 3) < (μ 33 i 9) then 0 else 1) : Int32))] [] μ Q) by
                  refine xr_br 4 (c := (μ 33 i 4) = 6) inferInstance (a := 183) (b := 194) (ls' := [some (.inr (some (33, i))), some (.inl ((if (μ 1 0 3) < (μ 33 i 9) then 0 else 1) : Int32))]) (st' := []) (s' := μ) rfl (fun c59 => ?_) (fun c59 => ?_)
                  · skip
                    refine xr_br 2 (c := ((if (μ 1 0 3) < (μ 33 i 9) then 0 else 1) : Int32) = 0) inferInstance (a := 194) (b := 187) (ls' := [some (.inr (some (33, i))), some (.inl ((if (μ 1 0 3) < (μ 33 i 9) then 0 else 1) : Int32))]) (st' := []) (s' := μ) rfl (fun c60 => ?_) (fun c60 => ?_)
                    · skip
                      exact hE59.1 (Or.inr c60)
                    · skip
                      exact hE59.2 (fun z => z.elim (fun w => w c59) c60)
                  · skip
                    exact hE59.1 (Or.inl c59)
                refine ⟨fun c61 => ?_, fun c61 => ?_⟩
                · skip
                  refine xr_go 1 (pc' := 195) (ls' := [some (.inr (some (33, i))), some (.inl ((if (μ 1 0 3) < (μ 33 i 9) then 0 else 1) : Int32))]) (st' := [.inr (some (33, i))]) (s' := μ) rfl ?_
                  refine xr_cl (y' := 98) (as := [.inr (some (33, i))]) (r := []) rfl rfl ?_
                  refine tf_98 (d := d + 3) (μ := μ) (i := i) ?_
                  rw [gv1]
                  show xr_t (tm_I L xs) (d + 4) 101 198 [some (.inr (some (33, i))), some (.inl ((if (μ 1 0 3) < (μ 33 i 9) then 0 else 1) : Int32))] [.inl v1] μ Q
                  suffices hE62 : (((v1 = 0) ∨ ((cv_65 i μ) = 0)) → xr_t (tm_I L xs) (d + 4) 101 218 [some (.inr (some (33, i))), some (.inl ((if (μ 1 0 3) < (μ 33 i 9) then 0 else 1) : Int32))] [] μ Q) ∧ (¬ ((v1 = 0) ∨ ((cv_65 i μ) = 0)) → xr_t (tm_I L xs) (d + 4) 101 211 [some (.inr (some (33, i))), some (.inl ((if (μ 1 0 3) < (μ 33 i 9) then 0 else 1) : Int32))] [] μ Q) by
                    refine xr_br 1 (c := v1 = 0) inferInstance (a := 218) (b := 201) (ls' := [some (.inr (some (33, i))), some (.inl ((if (μ 1 0 3) < (μ 33 i 9) then 0 else 1) : Int32))]) (st' := []) (s' := μ) rfl (fun c62 => ?_) (fun c62 => ?_)
                    · skip
                      exact hE62.1 (Or.inl c62)
                    · skip
                      refine xr_go 2 (pc' := 205) (ls' := [some (.inr (some (33, i))), some (.inl ((if (μ 1 0 3) < (μ 33 i 9) then 0 else 1) : Int32))]) (st' := [.inr (some (34, i))]) (s' := μ) rfl ?_
                      refine xr_cl (y' := 65) (as := [.inr (some (34, i))]) (r := []) rfl rfl ?_
                      refine tf_65 (d := d + 3) (μ := μ) (i := i) ?_
                      show xr_t (tm_I L xs) (d + 4) 101 208 [some (.inr (some (33, i))), some (.inl ((if (μ 1 0 3) < (μ 33 i 9) then 0 else 1) : Int32))] [.inl (cv_65 i μ)] μ Q
                      refine xr_br 1 (c := (cv_65 i μ) = 0) inferInstance (a := 218) (b := 211) (ls' := [some (.inr (some (33, i))), some (.inl ((if (μ 1 0 3) < (μ 33 i 9) then 0 else 1) : Int32))]) (st' := []) (s' := μ) rfl (fun c63 => ?_) (fun c63 => ?_)
                      · skip
                        exact hE62.1 (Or.inr c63)
                      · skip
                        exact hE62.2 (fun z => z.elim c62 c63)
                  refine ⟨fun c64 => ?_, fun c64 => ?_⟩
                  · skip
                    try simp only [if_pos c4, if_neg c5, if_pos c44, if_pos c47, if_pos c50, if_pos c53, if_neg c54, if_pos c61, if_pos c64] at h
                    exact xr_rt (v := none) rfl h
                  · skip
                    refine xr_go 2 (pc' := 215) (ls' := [some (.inr (some (33, i))), some (.inl ((if (μ 1 0 3) < (μ 33 i 9) then 0 else 1) : Int32))]) (st' := [.inr (some (34, i))]) (s' := μ) rfl ?_
                    refine xr_cl (y' := 66) (as := [.inr (some (34, i))]) (r := []) rfl rfl ?_
                    refine tf_66 (d := d + 1) (μ := μ) (i := i) (hi.2.2.2.2.2.2.2.2.2.2.2.2.2.1 c4 c5 c44 c47 c50 c53 c54 c61 c64) ?_
                    show xr_t (tm_I L xs) (d + 4) 101 218 [some (.inr (some (33, i))), some (.inl ((if (μ 1 0 3) < (μ 33 i 9) then 0 else 1) : Int32))] [] (cs_66 i μ) Q
                    generalize gμ15 : (cs_66 i μ) = μ15 at h hi ⊢
                    try simp only [if_pos c4, if_neg c5, if_pos c44, if_pos c47, if_pos c50, if_pos c53, if_neg c54, if_pos c61, if_neg c64] at h
                    exact xr_rt (v := none) rfl h
                · skip
                  refine xr_go 1 (pc' := 188) (ls' := [some (.inr (some (33, i))), some (.inl ((if (μ 1 0 3) < (μ 33 i 9) then 0 else 1) : Int32))]) (st' := [.inr (some (33, i))]) (s' := μ) rfl ?_
                  refine xr_cl (y' := 105) (as := [.inr (some (33, i))]) (r := []) rfl rfl ?_
                  refine tf_105 (d := d + 2) (μ := μ) (i := i) (hi.2.2.2.2.2.2.2.2.2.2.2.2.2.2.1 c4 c5 c44 c47 c50 c53 c54 c61) ?_
                  show xr_t (tm_I L xs) (d + 4) 101 191 [some (.inr (some (33, i))), some (.inl ((if (μ 1 0 3) < (μ 33 i 9) then 0 else 1) : Int32))] [] (cs_105 i μ) Q
                  generalize gμ16 : (cs_105 i μ) = μ16 at h hi ⊢
                  refine xr_go 1 (pc' := 218) (ls' := [some (.inr (some (33, i))), some (.inl ((if (μ 1 0 3) < (μ 33 i 9) then 0 else 1) : Int32))]) (st' := []) (s' := μ16) rfl ?_
                  try simp only [if_pos c4, if_neg c5, if_pos c44, if_pos c47, if_pos c50, if_pos c53, if_neg c54, if_neg c61] at h
                  exact xr_rt (v := none) rfl h
            · skip
              refine xr_go 4 (pc' := 160) (ls' := [some (.inr (some (33, i))), some (.inl ((if (μ 1 0 3) < (μ 33 i 9) then 0 else 1) : Int32))]) (st' := [.inr (some (33, i))]) (s' := (tm_wr μ 33 i 4 6)) rfl ?_
              refine xr_cl (y' := 105) (as := [.inr (some (33, i))]) (r := []) rfl rfl ?_
              refine tf_105 (d := d + 2) (μ := (tm_wr μ 33 i 4 6)) (i := i) (hi.2.2.2.2.2.2.2.2.2.2.2.2.2.2.2.1 c4 c5 c44 c47 c50 c53) ?_
              show xr_t (tm_I L xs) (d + 4) 101 163 [some (.inr (some (33, i))), some (.inl ((if (μ 1 0 3) < (μ 33 i 9) then 0 else 1) : Int32))] [] (cs_105 i (tm_wr μ 33 i 4 6)) Q
              generalize gμ17 : (cs_105 i (tm_wr μ 33 i 4 6)) = μ17 at h hi ⊢
              refine xr_go 1 (pc' := 218) (ls' := [some (.inr (some (33, i))), some (.inl ((if (μ 1 0 3) < (μ 33 i 9) then 0 else 1) : Int32))]) (st' := []) (s' := μ17) rfl ?_
              try simp only [if_pos c4, if_neg c5, if_pos c44, if_pos c47, if_pos c50, if_neg c53] at h
              exact xr_rt (v := none) rfl h
          · skip
            refine xr_go 4 (pc' := 132) (ls' := [some (.inr (some (33, i))), some (.inl ((if (μ 1 0 3) < (μ 33 i 9) then 0 else 1) : Int32))]) (st' := [.inr (some (33, i))]) (s' := (tm_wr μ 33 i 4 5)) rfl ?_
            refine xr_cl (y' := 105) (as := [.inr (some (33, i))]) (r := []) rfl rfl ?_
            refine tf_105 (d := d + 2) (μ := (tm_wr μ 33 i 4 5)) (i := i) (hi.2.2.2.2.2.2.2.2.2.2.2.2.2.2.2.2.1 c4 c5 c44 c47 c50) ?_
            show xr_t (tm_I L xs) (d + 4) 101 135 [some (.inr (some (33, i))), some (.inl ((if (μ 1 0 3) < (μ 33 i 9) then 0 else 1) : Int32))] [] (cs_105 i (tm_wr μ 33 i 4 5)) Q
            generalize gμ18 : (cs_105 i (tm_wr μ 33 i 4 5)) = μ18 at h hi ⊢
            refine xr_go 1 (pc' := 218) (ls' := [some (.inr (some (33, i))), some (.inl ((if (μ 1 0 3) < (μ 33 i 9) then 0 else 1) : Int32))]) (st' := []) (s' := μ18) rfl ?_
            try simp only [if_pos c4, if_neg c5, if_pos c44, if_pos c47, if_neg c50] at h
            exact xr_rt (v := none) rfl h
        · skip
          refine xr_go 1 (pc' := 88) (ls' := [some (.inr (some (33, i))), some (.inl ((if (μ 1 0 3) < (μ 33 i 9) then 0 else 1) : Int32))]) (st' := [.inr (some (33, i))]) (s' := μ) rfl ?_
          refine xr_cl (y' := 108) (as := [.inr (some (33, i))]) (r := []) rfl rfl ?_
          refine tf_108 (d := d + 0) (μ := μ) (i := i) (hi.2.2.2.2.2.2.2.2.2.2.2.2.2.2.2.2.2.1 c4 c5 c44 c47) ?_
          show xr_t (tm_I L xs) (d + 4) 101 91 [some (.inr (some (33, i))), some (.inl ((if (μ 1 0 3) < (μ 33 i 9) then 0 else 1) : Int32))] [] (cs_108 i μ) Q
          generalize gμ19 : (cs_108 i μ) = μ19 at h hi ⊢
          refine xr_go 1 (pc' := 218) (ls' := [some (.inr (some (33, i))), some (.inl ((if (μ 1 0 3) < (μ 33 i 9) then 0 else 1) : Int32))]) (st' := []) (s' := μ19) rfl ?_
          try simp only [if_pos c4, if_neg c5, if_pos c44, if_neg c47] at h
          exact xr_rt (v := none) rfl h
      · skip
        refine xr_go 1 (pc' := 69) (ls' := [some (.inr (some (33, i))), some (.inl ((if (μ 1 0 3) < (μ 33 i 9) then 0 else 1) : Int32))]) (st' := [.inr (some (33, i))]) (s' := μ) rfl ?_
        refine xr_cl (y' := 107) (as := [.inr (some (33, i))]) (r := []) rfl rfl ?_
        refine tf_107 (d := d + 1) (μ := μ) (i := i) (hi.2.2.2.2.2.2.2.2.2.2.2.2.2.2.2.2.2.2.1 c4 c5 c44) ?_
        show xr_t (tm_I L xs) (d + 4) 101 72 [some (.inr (some (33, i))), some (.inl ((if (μ 1 0 3) < (μ 33 i 9) then 0 else 1) : Int32))] [] (cs_107 i μ) Q
        generalize gμ20 : (cs_107 i μ) = μ20 at h hi ⊢
        refine xr_go 1 (pc' := 218) (ls' := [some (.inr (some (33, i))), some (.inl ((if (μ 1 0 3) < (μ 33 i 9) then 0 else 1) : Int32))]) (st' := []) (s' := μ20) rfl ?_
        try simp only [if_pos c4, if_neg c5, if_neg c44] at h
        exact xr_rt (v := none) rfl h
  · skip
    refine xr_go 1 (pc' := 42) (ls' := [some (.inr (some (33, i))), some (.inl ((if (μ 1 0 3) < (μ 33 i 9) then 0 else 1) : Int32))]) (st' := [.inr (some (33, i))]) (s' := μ) rfl ?_
    refine xr_cl (y' := 103) (as := [.inr (some (33, i))]) (r := []) rfl rfl ?_
    refine tf_103 (d := d + 1) (μ := μ) (i := i) (hi.2.2.2.2.2.2.2.2.2.2.2.2.2.2.2.2.2.2.2 c4) ?_
    show xr_t (tm_I L xs) (d + 4) 101 45 [some (.inr (some (33, i))), some (.inl ((if (μ 1 0 3) < (μ 33 i 9) then 0 else 1) : Int32))] [] (cs_103 i μ) Q
    generalize gμ21 : (cs_103 i μ) = μ21 at h hi ⊢
    refine xr_go 1 (pc' := 218) (ls' := [some (.inr (some (33, i))), some (.inl ((if (μ 1 0 3) < (μ 33 i 9) then 0 else 1) : Int32))]) (st' := []) (s' := μ21) rfl ?_
    try simp only [if_neg c4] at h
    exact xr_rt (v := none) rfl h
-- BootNet.tick()I
def cv_11_15  : Nat → Int32 → tm_M → Int32
  | 0, _, _ => 0
  | n + 1, l1, μ => (if (μ 6 0 5) ≤ l1 then ((cs_84 μ) 2 0 1) else (cv_11_15 n (l1 + 1) (cs_101 ((l1).toNatClampNeg) μ)))
def cs_11_15  : Nat → Int32 → tm_M → tm_M
  | 0, _, μ => μ
  | n + 1, l1, μ => (if (μ 6 0 5) ≤ l1 then (cs_84 μ) else (cs_11_15 n (l1 + 1) (cs_101 ((l1).toNatClampNeg) μ)))
def ci_11_15  : Nat → Int32 → tm_M → Prop
  | 0, _, _ => False
  | n + 1, l1, μ => (((μ 6 0 5) ≤ l1) → ci_84  μ) ∧ ((¬ ((μ 6 0 5) ≤ l1)) → tm_ix l1 6 = true) ∧ ((¬ ((μ 6 0 5) ≤ l1)) → ci_101 ((l1).toNatClampNeg) μ) ∧ ((¬ ((μ 6 0 5) ≤ l1)) → ci_11_15 n (l1 + 1) (cs_101 ((l1).toNatClampNeg) μ))
set_option maxHeartbeats 4000000 in
set_option maxRecDepth 10000 in
theorem tl_11_15  : ∀ (n : Nat) (l1 : Int32) (μ : tm_M), ci_11_15 n l1 μ → Q (some (.inl (cv_11_15 n l1 μ))) (cs_11_15 n l1 μ) → xr_t (tm_I L xs) (d + 5) 11 15 [some (.inr (some (0, 0))), some (.inl l1)] [] μ Q := by
  intro n
  induction n with
  | zero => intro l1 μ hi; exact hi.elim
  | succ n ih =>
    intro l1 μ hi h
    unfold ci_11_15 at hi
    simp only [cv_11_15, cs_11_15] at h
    refine xr_br 5 (c := (μ 6 0 5) ≤ l1) inferInstance (a := 41) (b := 26) (ls' := [some (.inr (some (0, 0))), some (.inl l1)]) (st' := []) (s' := μ) rfl (fun c1 => ?_) (fun c1 => ?_)
    · skip
      refine xr_go 2 (pc' := 45) (ls' := [some (.inr (some (0, 0))), some (.inl l1)]) (st' := [.inr (some (19, 0))]) (s' := μ) rfl ?_
      refine xr_cl (y' := 84) (as := [.inr (some (19, 0))]) (r := []) rfl rfl ?_
      refine tf_84 (d := d + 1) (μ := μ)  (hi.1 c1) ?_
      show xr_t (tm_I L xs) (d + 5) 11 48 [some (.inr (some (0, 0))), some (.inl l1)] [] (cs_84 μ) Q
      generalize gμ1 : (cs_84 μ) = μ1 at h hi ⊢
      refine xr_go 3 (pc' := 55) (ls' := [some (.inr (some (0, 0))), some (.inl l1)]) (st' := [.inl (μ1 2 0 1)]) (s' := μ1) rfl ?_
      try simp only [if_pos c1] at h
      exact xr_rt (v := some (.inl (μ1 2 0 1))) rfl h
    · skip
      refine xr_go 3 (pc' := 31) (ls' := [some (.inr (some (0, 0))), some (.inl l1)]) (st' := [.inl l1, .inr (some (32, 0))]) (s' := μ) rfl ?_
      refine xr_aal (n := 6) (w := (33, (l1).toNatClampNeg)) rfl rfl (hi.2.1 c1) rfl ?_
      refine xr_cl (y' := 101) (as := [.inr (some (33, (l1).toNatClampNeg))]) (r := []) rfl rfl ?_
      refine tf_101 (d := d + 0) (μ := μ) (i := ((l1).toNatClampNeg)) (hi.2.2.1 c1) ?_
      show xr_t (tm_I L xs) (d + 5) 11 35 [some (.inr (some (0, 0))), some (.inl l1)] [] (cs_101 ((l1).toNatClampNeg) μ) Q
      generalize gμ2 : (cs_101 ((l1).toNatClampNeg) μ) = μ2 at h hi ⊢
      refine xr_go 2 (pc' := 15) (ls' := [some (.inr (some (0, 0))), some (.inl (l1 + 1))]) (st' := []) (s' := μ2) rfl ?_
      try simp only [if_neg c1] at h
      exact ih (l1 + 1) μ2 (hi.2.2.2 c1) h
def cv_11  (μ : tm_M) : Int32 := (cv_11_15 64 0 (tm_wr μ 1 0 3 ((μ 1 0 3) + 1)))
def cs_11  (μ : tm_M) : tm_M := (cs_11_15 64 0 (tm_wr μ 1 0 3 ((μ 1 0 3) + 1)))
def ci_11  (μ : tm_M) : Prop := (ci_11_15 64 0 (tm_wr μ 1 0 3 ((μ 1 0 3) + 1)))
set_option maxHeartbeats 4000000 in
set_option maxRecDepth 10000 in
theorem tf_11  (hi : ci_11 μ) (h : Q (some (.inl (cv_11 μ))) (cs_11 μ)) : xm_MW (tm_I L xs) (d + 6) 11 [.inr (some (0, 0))] μ Q := by
  refine xr_in2 [some (.inr (some (0, 0))), none] rfl rfl ?_
  unfold cv_11 cs_11 at h
  unfold ci_11 at hi
  refine xr_go 9 (pc' := 15) (ls' := [some (.inr (some (0, 0))), some (.inl 0)]) (st' := []) (s' := (tm_wr μ 1 0 3 ((μ 1 0 3) + 1))) rfl ?_
  exact tl_11_15 64 0 (tm_wr μ 1 0 3 ((μ 1 0 3) + 1)) (hi) h
-- BootNet$AddressBook.forgetAll()V
def cs_22  (μ : tm_M) : tm_M := (cs_174k27 0 0 (cs_174k26 0 0 (cs_174k24 0 0 μ)))
def ci_22  (μ : tm_M) : Prop := (ci_174k24 0 0 μ) ∧ (ci_174k26 0 0 (cs_174k24 0 0 μ)) ∧ (ci_174k27 0 0 (cs_174k26 0 0 (cs_174k24 0 0 μ)))
set_option maxHeartbeats 4000000 in
set_option maxRecDepth 10000 in
theorem tf_22  (hi : ci_22 μ) (h : Q none (cs_22 μ)) : xm_MW (tm_I L xs) (d + 2) 22 [.inr (some (22, 0))] μ Q := by
  refine xr_in2 [some (.inr (some (22, 0)))] rfl rfl ?_
  unfold cs_22 at h
  unfold ci_22 at hi
  refine xr_go 3 (pc' := 5) (ls' := [some (.inr (some (22, 0)))]) (st' := [.inl 0, .inr (some (24, 0))]) (s' := μ) rfl ?_
  refine xr_cl (y' := 174) (as := [.inr (some (24, 0)), .inl 0]) (r := []) rfl rfl ?_
  refine tf_174k24 (d := d + 0) (μ := μ) (m1 := 0) (a2 := 0) (hi.1) ?_
  show xr_t (tm_I L xs) (d + 1) 22 8 [some (.inr (some (22, 0)))] [] (cs_174k24 0 0 μ) Q
  generalize gμ1 : (cs_174k24 0 0 μ) = μ1 at h hi ⊢
  refine xr_go 3 (pc' := 13) (ls' := [some (.inr (some (22, 0)))]) (st' := [.inl 0, .inr (some (26, 0))]) (s' := μ1) rfl ?_
  refine xr_cl (y' := 174) (as := [.inr (some (26, 0)), .inl 0]) (r := []) rfl rfl ?_
  refine tf_174k26 (d := d + 0) (μ := μ1) (m1 := 0) (a2 := 0) (hi.2.1) ?_
  show xr_t (tm_I L xs) (d + 1) 22 16 [some (.inr (some (22, 0)))] [] (cs_174k26 0 0 μ1) Q
  generalize gμ2 : (cs_174k26 0 0 μ1) = μ2 at h hi ⊢
  refine xr_go 3 (pc' := 21) (ls' := [some (.inr (some (22, 0)))]) (st' := [.inl 0, .inr (some (27, 0))]) (s' := μ2) rfl ?_
  refine xr_cl (y' := 174) (as := [.inr (some (27, 0)), .inl 0]) (r := []) rfl rfl ?_
  refine tf_174k27 (d := d + 0) (μ := μ2) (m1 := 0) (a2 := 0) (hi.2.2) ?_
  show xr_t (tm_I L xs) (d + 1) 22 24 [some (.inr (some (22, 0)))] [] (cs_174k27 0 0 μ2) Q
  generalize gμ3 : (cs_174k27 0 0 μ2) = μ3 at h hi ⊢
  exact xr_rt (v := none) rfl h
-- BootNet$Server.startAnew()I
def cv_83_36  : Nat → Int32 → tm_M → Int32
  | 0, _, _ => 0
  | n + 1, l1, μ => (if (μ 28 0 3) ≤ l1 then (μ 28 0 3) else (cv_83_36 n (l1 + 1) (cs_27 (μ 29 0 ((l1).toNatClampNeg)) (μ 30 0 ((l1).toNatClampNeg)) (μ 31 0 ((l1).toNatClampNeg)) μ)))
def cs_83_36  : Nat → Int32 → tm_M → tm_M
  | 0, _, μ => μ
  | n + 1, l1, μ => (if (μ 28 0 3) ≤ l1 then μ else (cs_83_36 n (l1 + 1) (cs_27 (μ 29 0 ((l1).toNatClampNeg)) (μ 30 0 ((l1).toNatClampNeg)) (μ 31 0 ((l1).toNatClampNeg)) μ)))
def ci_83_36  : Nat → Int32 → tm_M → Prop
  | 0, _, _ => False
  | n + 1, l1, μ => ((¬ ((μ 28 0 3) ≤ l1)) → tm_ix l1 16 = true) ∧ ((¬ ((μ 28 0 3) ≤ l1)) → ci_27 (μ 29 0 ((l1).toNatClampNeg)) (μ 30 0 ((l1).toNatClampNeg)) (μ 31 0 ((l1).toNatClampNeg)) μ) ∧ ((¬ ((μ 28 0 3) ≤ l1)) → ci_83_36 n (l1 + 1) (cs_27 (μ 29 0 ((l1).toNatClampNeg)) (μ 30 0 ((l1).toNatClampNeg)) (μ 31 0 ((l1).toNatClampNeg)) μ))
set_option maxHeartbeats 4000000 in
set_option maxRecDepth 10000 in
theorem tl_83_36  : ∀ (n : Nat) (l1 : Int32) (μ : tm_M), ci_83_36 n l1 μ → Q (some (.inl (cv_83_36 n l1 μ))) (cs_83_36 n l1 μ) → xr_t (tm_I L xs) (d + 2) 83 36 [some (.inr (some (19, 0))), some (.inl l1)] [] μ Q := by
  intro n
  induction n with
  | zero => intro l1 μ hi; exact hi.elim
  | succ n ih =>
    intro l1 μ hi h
    unfold ci_83_36 at hi
    simp only [cv_83_36, cs_83_36] at h
    refine xr_br 5 (c := (μ 28 0 3) ≤ l1) inferInstance (a := 87) (b := 47) (ls' := [some (.inr (some (19, 0))), some (.inl l1)]) (st' := []) (s' := μ) rfl (fun c1 => ?_) (fun c1 => ?_)
    · skip
      refine xr_go 3 (pc' := 94) (ls' := [some (.inr (some (19, 0))), some (.inl l1)]) (st' := [.inl (μ 28 0 3)]) (s' := μ) rfl ?_
      try simp only [if_pos c1] at h
      exact xr_rt (v := some (.inl (μ 28 0 3))) rfl h
    · skip
      refine xr_go 6 (pc' := 59) (ls' := [some (.inr (some (19, 0))), some (.inl l1)]) (st' := [.inl l1, .inr (some (29, 0)), .inr (some (22, 0))]) (s' := μ) rfl ?_
      refine xr_ial (n := 16) rfl rfl (hi.1 c1) ?_
      refine xr_go 4 (pc' := 68) (ls' := [some (.inr (some (19, 0))), some (.inl l1)]) (st' := [.inl l1, .inr (some (30, 0)), .inl (μ 29 0 ((l1).toNatClampNeg)), .inr (some (22, 0))]) (s' := μ) rfl ?_
      refine xr_ial (n := 16) rfl rfl (hi.1 c1) ?_
      refine xr_go 4 (pc' := 77) (ls' := [some (.inr (some (19, 0))), some (.inl l1)]) (st' := [.inl l1, .inr (some (31, 0)), .inl (μ 30 0 ((l1).toNatClampNeg)), .inl (μ 29 0 ((l1).toNatClampNeg)), .inr (some (22, 0))]) (s' := μ) rfl ?_
      refine xr_ial (n := 16) rfl rfl (hi.1 c1) ?_
      refine xr_cl (y' := 27) (as := [.inr (some (22, 0)), .inl (μ 29 0 ((l1).toNatClampNeg)), .inl (μ 30 0 ((l1).toNatClampNeg)), .inl (μ 31 0 ((l1).toNatClampNeg))]) (r := []) rfl rfl ?_
      refine tf_27 (d := d + 1) (μ := μ) (a1 := (μ 29 0 ((l1).toNatClampNeg))) (a2 := (μ 30 0 ((l1).toNatClampNeg))) (a3 := (μ 31 0 ((l1).toNatClampNeg))) (hi.2.1 c1) ?_
      show xr_t (tm_I L xs) (d + 2) 83 81 [some (.inr (some (19, 0))), some (.inl l1)] [] (cs_27 (μ 29 0 ((l1).toNatClampNeg)) (μ 30 0 ((l1).toNatClampNeg)) (μ 31 0 ((l1).toNatClampNeg)) μ) Q
      generalize gμ1 : (cs_27 (μ 29 0 ((l1).toNatClampNeg)) (μ 30 0 ((l1).toNatClampNeg)) (μ 31 0 ((l1).toNatClampNeg)) μ) = μ1 at h hi ⊢
      refine xr_go 2 (pc' := 36) (ls' := [some (.inr (some (19, 0))), some (.inl (l1 + 1))]) (st' := []) (s' := μ1) rfl ?_
      try simp only [if_neg c1] at h
      exact ih (l1 + 1) μ1 (hi.2.2 c1) h
def cv_83_9  : Nat → Int32 → tm_M → Int32
  | 0, _, _ => 0
  | n + 1, l1, μ => (if (6 : Int32) ≤ l1 then (cv_83_36 64 0 μ) else (cv_83_9 n (l1 + 1) (tm_wr μ 21 ((l1).toNatClampNeg) 0 0)))
def cs_83_9  : Nat → Int32 → tm_M → tm_M
  | 0, _, μ => μ
  | n + 1, l1, μ => (if (6 : Int32) ≤ l1 then (cs_83_36 64 0 μ) else (cs_83_9 n (l1 + 1) (tm_wr μ 21 ((l1).toNatClampNeg) 0 0)))
def ci_83_9  : Nat → Int32 → tm_M → Prop
  | 0, _, _ => False
  | n + 1, l1, μ => (((6 : Int32) ≤ l1) → ci_83_36 64 0 μ) ∧ ((¬ ((6 : Int32) ≤ l1)) → tm_ix l1 6 = true) ∧ ((¬ ((6 : Int32) ≤ l1)) → ci_83_9 n (l1 + 1) (tm_wr μ 21 ((l1).toNatClampNeg) 0 0))
set_option maxHeartbeats 4000000 in
set_option maxRecDepth 10000 in
theorem tl_83_9  : ∀ (n : Nat) (l1 : Int32) (μ : tm_M), ci_83_9 n l1 μ → Q (some (.inl (cv_83_9 n l1 μ))) (cs_83_9 n l1 μ) → xr_t (tm_I L xs) (d + 2) 83 9 [some (.inr (some (19, 0))), some (.inl l1)] [] μ Q := by
  intro n
  induction n with
  | zero => intro l1 μ hi; exact hi.elim
  | succ n ih =>
    intro l1 μ hi h
    unfold ci_83_9 at hi
    simp only [cv_83_9, cs_83_9] at h
    refine xr_br 5 (c := (6 : Int32) ≤ l1) inferInstance (a := 34) (b := 18) (ls' := [some (.inr (some (19, 0))), some (.inl l1)]) (st' := []) (s' := μ) rfl (fun c1 => ?_) (fun c1 => ?_)
    · skip
      refine xr_go 2 (pc' := 36) (ls' := [some (.inr (some (19, 0))), some (.inl 0)]) (st' := []) (s' := μ) rfl ?_
      try simp only [if_pos c1] at h
      exact tl_83_36 64 0 μ (hi.1 c1) h
    · skip
      refine xr_go 3 (pc' := 23) (ls' := [some (.inr (some (19, 0))), some (.inl l1)]) (st' := [.inl l1, .inr (some (20, 0))]) (s' := μ) rfl ?_
      refine xr_aal (n := 6) (w := (21, (l1).toNatClampNeg)) rfl rfl (hi.2.1 c1) rfl ?_
      refine xr_go 4 (pc' := 9) (ls' := [some (.inr (some (19, 0))), some (.inl (l1 + 1))]) (st' := []) (s' := (tm_wr μ 21 ((l1).toNatClampNeg) 0 0)) rfl ?_
      try simp only [if_neg c1] at h
      exact ih (l1 + 1) (tm_wr μ 21 ((l1).toNatClampNeg) 0 0) (hi.2.2 c1) h
def cv_83  (μ : tm_M) : Int32 := (cv_83_9 64 0 (cs_22 μ))
def cs_83  (μ : tm_M) : tm_M := (cs_83_9 64 0 (cs_22 μ))
def ci_83  (μ : tm_M) : Prop := (ci_22  μ) ∧ (ci_83_9 64 0 (cs_22 μ))
set_option maxHeartbeats 4000000 in
set_option maxRecDepth 10000 in
theorem tf_83  (hi : ci_83 μ) (h : Q (some (.inl (cv_83 μ))) (cs_83 μ)) : xm_MW (tm_I L xs) (d + 3) 83 [.inr (some (19, 0))] μ Q := by
  refine xr_in2 [some (.inr (some (19, 0))), none] rfl rfl ?_
  unfold cv_83 cs_83 at h
  unfold ci_83 at hi
  refine xr_go 2 (pc' := 4) (ls' := [some (.inr (some (19, 0))), none]) (st' := [.inr (some (22, 0))]) (s' := μ) rfl ?_
  refine xr_cl (y' := 22) (as := [.inr (some (22, 0))]) (r := []) rfl rfl ?_
  refine tf_22 (d := d + 0) (μ := μ)  (hi.1) ?_
  show xr_t (tm_I L xs) (d + 2) 83 7 [some (.inr (some (19, 0))), none] [] (cs_22 μ) Q
  generalize gμ1 : (cs_22 μ) = μ1 at h hi ⊢
  refine xr_go 2 (pc' := 9) (ls' := [some (.inr (some (19, 0))), some (.inl 0)]) (st' := []) (s' := μ1) rfl ?_
  exact tl_83_9 64 0 μ1 (hi.2) h
-- BootNet.crash()I
def cv_12  (μ : tm_M) : Int32 := (cv_83 μ)
def cs_12  (μ : tm_M) : tm_M := (cs_83 μ)
def ci_12  (μ : tm_M) : Prop := (ci_83  μ)
set_option maxHeartbeats 4000000 in
set_option maxRecDepth 10000 in
theorem tf_12  (hi : ci_12 μ) (h : Q (some (.inl (cv_12 μ))) (cs_12 μ)) : xm_MW (tm_I L xs) (d + 4) 12 [.inr (some (0, 0))] μ Q := by
  refine xr_in2 [some (.inr (some (0, 0)))] rfl rfl ?_
  unfold cv_12 cs_12 at h
  unfold ci_12 at hi
  refine xr_go 2 (pc' := 4) (ls' := [some (.inr (some (0, 0)))]) (st' := [.inr (some (19, 0))]) (s' := μ) rfl ?_
  refine xr_cl (y' := 83) (as := [.inr (some (19, 0))]) (r := []) rfl rfl ?_
  refine tf_83 (d := d + 0) (μ := μ)  (hi) ?_
  show xr_t (tm_I L xs) (d + 3) 12 7 [some (.inr (some (0, 0)))] [.inl (cv_83 μ)] (cs_83 μ) Q
  generalize gv1 : (cv_83 μ) = v1 at h hi ⊢
  generalize gμ2 : (cs_83 μ) = μ2 at h hi ⊢
  exact xr_rt (v := some (.inl v1)) rfl h
-- BootNet.message(II)I
def cv_13 (a1 : Int32) (a2 : Int32) (μ : tm_M) : Int32 := ((if (cv_116 a1 μ) = 0 then (-1) else (cv_76 (((μ 3 0 ((a1).toNatClampNeg)) : Int32).toNatClampNeg) a2 μ)) : Int32)
def ci_13 (a1 : Int32) (a2 : Int32) (μ : tm_M) : Prop := ((¬ ((cv_116 a1 μ) = 0)) → tm_ix a1 32 = true)
set_option maxHeartbeats 4000000 in
set_option maxRecDepth 10000 in
theorem tf_13 {a1 : Int32} {a2 : Int32} (hi : ci_13 a1 a2 μ) (h : Q (some (.inl (cv_13 a1 a2 μ))) μ) : xm_MW (tm_I L xs) (d + 2) 13 [.inr (some (0, 0)), .inl a1, .inl a2] μ Q := by
  refine xr_in2 [some (.inr (some (0, 0))), some (.inl a1), some (.inl a2)] rfl rfl ?_
  unfold cv_13 at h
  unfold ci_13 at hi
  refine xr_go 3 (pc' := 5) (ls' := [some (.inr (some (0, 0))), some (.inl a1), some (.inl a2)]) (st' := [.inl a1, .inr (some (2, 0))]) (s' := μ) rfl ?_
  refine xr_cl (y' := 116) (as := [.inr (some (2, 0)), .inl a1]) (r := []) rfl rfl ?_
  refine tf_116 (d := d + 0) (μ := μ) (a1 := a1) ?_
  show xr_t (tm_I L xs) (d + 1) 13 8 [some (.inr (some (0, 0))), some (.inl a1), some (.inl a2)] [.inl (cv_116 a1 μ)] μ Q
  have z1 : (cv_116 a1 μ) = 0 ∨ (cv_116 a1 μ) = 1 := cz_116
  generalize gv1 : (cv_116 a1 μ) = v1 at h hi z1 ⊢
  suffices hj1 : xr_t (tm_I L xs) (d + 1) 13 28 [some (.inr (some (0, 0))), some (.inl a1), some (.inl a2)] [.inl ((if v1 = 0 then (-1) else (cv_76 (((μ 3 0 ((a1).toNatClampNeg)) : Int32).toNatClampNeg) a2 μ)) : Int32)] μ Q by
    refine xr_br 1 (c := v1 = 0) inferInstance (a := 27) (b := 11) (ls' := [some (.inr (some (0, 0))), some (.inl a1), some (.inl a2)]) (st' := []) (s' := μ) rfl (fun c1 => ?_) (fun c1 => ?_)
    · skip
      refine xr_go 1 (pc' := 28) (ls' := [some (.inr (some (0, 0))), some (.inl a1), some (.inl a2)]) (st' := [.inl (-1)]) (s' := μ) rfl ?_
      have ehj1 : ((if v1 = 0 then (-1) else (cv_76 (((μ 3 0 ((a1).toNatClampNeg)) : Int32).toNatClampNeg) a2 μ)) : Int32) = (-1) := by first | rfl | simp only [if_pos c1]
      rw [ehj1] at hj1
      exact hj1
    · skip
      refine xr_go 4 (pc' := 19) (ls' := [some (.inr (some (0, 0))), some (.inl a1), some (.inl a2)]) (st' := [.inl a1, .inr (some (3, 0))]) (s' := μ) rfl ?_
      refine xr_aal (n := 32) (w := (4, ((μ 3 0 ((a1).toNatClampNeg)) : Int32).toNatClampNeg)) rfl rfl (hi c1) rfl ?_
      refine xr_go 1 (pc' := 21) (ls' := [some (.inr (some (0, 0))), some (.inl a1), some (.inl a2)]) (st' := [.inl a2, .inr (some (4, ((μ 3 0 ((a1).toNatClampNeg)) : Int32).toNatClampNeg))]) (s' := μ) rfl ?_
      refine xr_cl (y' := 76) (as := [.inr (some (4, ((μ 3 0 ((a1).toNatClampNeg)) : Int32).toNatClampNeg)), .inl a2]) (r := []) rfl rfl ?_
      refine tf_76 (d := d + 0) (μ := μ) (i := (((μ 3 0 ((a1).toNatClampNeg)) : Int32).toNatClampNeg)) (a1 := a2) ?_
      show xr_t (tm_I L xs) (d + 1) 13 24 [some (.inr (some (0, 0))), some (.inl a1), some (.inl a2)] [.inl (cv_76 (((μ 3 0 ((a1).toNatClampNeg)) : Int32).toNatClampNeg) a2 μ)] μ Q
      refine xr_go 1 (pc' := 28) (ls' := [some (.inr (some (0, 0))), some (.inl a1), some (.inl a2)]) (st' := [.inl (cv_76 (((μ 3 0 ((a1).toNatClampNeg)) : Int32).toNatClampNeg) a2 μ)]) (s' := μ) rfl ?_
      have ehj1 : ((if v1 = 0 then (-1) else (cv_76 (((μ 3 0 ((a1).toNatClampNeg)) : Int32).toNatClampNeg) a2 μ)) : Int32) = (cv_76 (((μ 3 0 ((a1).toNatClampNeg)) : Int32).toNatClampNeg) a2 μ) := by first | rfl | simp only [if_neg c1]
      rw [ehj1] at hj1
      exact hj1
  exact xr_rt (v := some (.inl ((if v1 = 0 then (-1) else (cv_76 (((μ 3 0 ((a1).toNatClampNeg)) : Int32).toNatClampNeg) a2 μ)) : Int32))) rfl h
-- BootNet$Station.tell(I)I
def cv_102 (i : Nat) (a1 : Int32) (μ : tm_M) : Int32 := (if a1 = 0 then (μ 33 i 4) else (if a1 = 1 then (μ 33 i 5) else (if a1 = 2 then (μ 33 i 6) else (if a1 = 3 then (μ 33 i 8) else (if a1 = 4 then (μ 33 i 11) else (if a1 = 5 then (μ 34 i 11) else (if a1 = 6 then (μ 34 i 10) else (if a1 = 7 then (cv_67 i μ) else (-1)))))))))
set_option maxHeartbeats 4000000 in
set_option maxRecDepth 10000 in
theorem tf_102 {i : Nat} {a1 : Int32} (h : Q (some (.inl (cv_102 i a1 μ))) μ) : xm_MW (tm_I L xs) (d + 2) 102 [.inr (some (33, i)), .inl a1] μ Q := by
  refine xr_in2 [some (.inr (some (33, i))), some (.inl a1)] rfl rfl ?_
  unfold cv_102 at h
  refine xr_go 1 (pc' := 1) (ls' := [some (.inr (some (33, i))), some (.inl a1)]) (st' := [.inl a1]) (s' := μ) rfl ?_
  refine xr_ts rfl (fun c1 => ?_) (fun j hj c1 => ?_)
  · skip
    have c1_0 : ¬ ((a1 : Int32) = 0) := fun e => by rw [e] at c1; revert c1; decide
    have c1_1 : ¬ ((a1 : Int32) = 1) := fun e => by rw [e] at c1; revert c1; decide
    have c1_2 : ¬ ((a1 : Int32) = 2) := fun e => by rw [e] at c1; revert c1; decide
    have c1_3 : ¬ ((a1 : Int32) = 3) := fun e => by rw [e] at c1; revert c1; decide
    have c1_4 : ¬ ((a1 : Int32) = 4) := fun e => by rw [e] at c1; revert c1; decide
    have c1_5 : ¬ ((a1 : Int32) = 5) := fun e => by rw [e] at c1; revert c1; decide
    have c1_6 : ¬ ((a1 : Int32) = 6) := fun e => by rw [e] at c1; revert c1; decide
    have c1_7 : ¬ ((a1 : Int32) = 7) := fun e => by rw [e] at c1; revert c1; decide
    refine xr_go 1 (pc' := 98) (ls' := [some (.inr (some (33, i))), some (.inl a1)]) (st' := [.inl (-1)]) (s' := μ) rfl ?_
    try simp only [if_neg c1_0, if_neg c1_1, if_neg c1_2, if_neg c1_3, if_neg c1_4, if_neg c1_5, if_neg c1_6, if_neg c1_7] at h
    exact xr_rt (v := some (.inl (-1))) rfl h
  · have hj2 : j < 8 := by omega
    match j, hj2, c1 with
    | 0, _, c1 =>
      replace c1 : (a1 : Int32) = 0 := c1
      show xr_t _ _ _ 48 _ _ _ _
      refine xr_go 2 (pc' := 52) (ls' := [some (.inr (some (33, i))), some (.inl a1)]) (st' := [.inl (μ 33 i 4)]) (s' := μ) rfl ?_
      try simp only [if_pos c1] at h
      exact xr_rt (v := some (.inl (μ 33 i 4))) rfl h
    | 1, _, c1 =>
      replace c1 : (a1 : Int32) = 1 := c1
      show xr_t _ _ _ 53 _ _ _ _
      have c1_0 : ¬ ((a1 : Int32) = 0) := by rw [c1]; decide
      refine xr_go 2 (pc' := 57) (ls' := [some (.inr (some (33, i))), some (.inl a1)]) (st' := [.inl (μ 33 i 5)]) (s' := μ) rfl ?_
      try simp only [if_neg c1_0, if_pos c1] at h
      exact xr_rt (v := some (.inl (μ 33 i 5))) rfl h
    | 2, _, c1 =>
      replace c1 : (a1 : Int32) = 2 := c1
      show xr_t _ _ _ 58 _ _ _ _
      have c1_0 : ¬ ((a1 : Int32) = 0) := by rw [c1]; decide
      have c1_1 : ¬ ((a1 : Int32) = 1) := by rw [c1]; decide
      refine xr_go 2 (pc' := 62) (ls' := [some (.inr (some (33, i))), some (.inl a1)]) (st' := [.inl (μ 33 i 6)]) (s' := μ) rfl ?_
      try simp only [if_neg c1_0, if_neg c1_1, if_pos c1] at h
      exact xr_rt (v := some (.inl (μ 33 i 6))) rfl h
    | 3, _, c1 =>
      replace c1 : (a1 : Int32) = 3 := c1
      show xr_t _ _ _ 63 _ _ _ _
      have c1_0 : ¬ ((a1 : Int32) = 0) := by rw [c1]; decide
      have c1_1 : ¬ ((a1 : Int32) = 1) := by rw [c1]; decide
      have c1_2 : ¬ ((a1 : Int32) = 2) := by rw [c1]; decide
      refine xr_go 2 (pc' := 67) (ls' := [some (.inr (some (33, i))), some (.inl a1)]) (st' := [.inl (μ 33 i 8)]) (s' := μ) rfl ?_
      try simp only [if_neg c1_0, if_neg c1_1, if_neg c1_2, if_pos c1] at h
      exact xr_rt (v := some (.inl (μ 33 i 8))) rfl h
    | 4, _, c1 =>
      replace c1 : (a1 : Int32) = 4 := c1
      show xr_t _ _ _ 68 _ _ _ _
      have c1_0 : ¬ ((a1 : Int32) = 0) := by rw [c1]; decide
      have c1_1 : ¬ ((a1 : Int32) = 1) := by rw [c1]; decide
      have c1_2 : ¬ ((a1 : Int32) = 2) := by rw [c1]; decide
      have c1_3 : ¬ ((a1 : Int32) = 3) := by rw [c1]; decide
      refine xr_go 2 (pc' := 72) (ls' := [some (.inr (some (33, i))), some (.inl a1)]) (st' := [.inl (μ 33 i 11)]) (s' := μ) rfl ?_
      try simp only [if_neg c1_0, if_neg c1_1, if_neg c1_2, if_neg c1_3, if_pos c1] at h
      exact xr_rt (v := some (.inl (μ 33 i 11))) rfl h
    | 5, _, c1 =>
      replace c1 : (a1 : Int32) = 5 := c1
      show xr_t _ _ _ 73 _ _ _ _
      have c1_0 : ¬ ((a1 : Int32) = 0) := by rw [c1]; decide
      have c1_1 : ¬ ((a1 : Int32) = 1) := by rw [c1]; decide
      have c1_2 : ¬ ((a1 : Int32) = 2) := by rw [c1]; decide
      have c1_3 : ¬ ((a1 : Int32) = 3) := by rw [c1]; decide
      have c1_4 : ¬ ((a1 : Int32) = 4) := by rw [c1]; decide
      refine xr_go 3 (pc' := 80) (ls' := [some (.inr (some (33, i))), some (.inl a1)]) (st' := [.inl (μ 34 i 11)]) (s' := μ) rfl ?_
      try simp only [if_neg c1_0, if_neg c1_1, if_neg c1_2, if_neg c1_3, if_neg c1_4, if_pos c1] at h
      exact xr_rt (v := some (.inl (μ 34 i 11))) rfl h
    | 6, _, c1 =>
      replace c1 : (a1 : Int32) = 6 := c1
      show xr_t _ _ _ 81 _ _ _ _
      have c1_0 : ¬ ((a1 : Int32) = 0) := by rw [c1]; decide
      have c1_1 : ¬ ((a1 : Int32) = 1) := by rw [c1]; decide
      have c1_2 : ¬ ((a1 : Int32) = 2) := by rw [c1]; decide
      have c1_3 : ¬ ((a1 : Int32) = 3) := by rw [c1]; decide
      have c1_4 : ¬ ((a1 : Int32) = 4) := by rw [c1]; decide
      have c1_5 : ¬ ((a1 : Int32) = 5) := by rw [c1]; decide
      refine xr_go 3 (pc' := 88) (ls' := [some (.inr (some (33, i))), some (.inl a1)]) (st' := [.inl (μ 34 i 10)]) (s' := μ) rfl ?_
      try simp only [if_neg c1_0, if_neg c1_1, if_neg c1_2, if_neg c1_3, if_neg c1_4, if_neg c1_5, if_pos c1] at h
      exact xr_rt (v := some (.inl (μ 34 i 10))) rfl h
    | 7, _, c1 =>
      replace c1 : (a1 : Int32) = 7 := c1
      show xr_t _ _ _ 89 _ _ _ _
      have c1_0 : ¬ ((a1 : Int32) = 0) := by rw [c1]; decide
      have c1_1 : ¬ ((a1 : Int32) = 1) := by rw [c1]; decide
      have c1_2 : ¬ ((a1 : Int32) = 2) := by rw [c1]; decide
      have c1_3 : ¬ ((a1 : Int32) = 3) := by rw [c1]; decide
      have c1_4 : ¬ ((a1 : Int32) = 4) := by rw [c1]; decide
      have c1_5 : ¬ ((a1 : Int32) = 5) := by rw [c1]; decide
      have c1_6 : ¬ ((a1 : Int32) = 6) := by rw [c1]; decide
      refine xr_go 2 (pc' := 93) (ls' := [some (.inr (some (33, i))), some (.inl a1)]) (st' := [.inr (some (34, i))]) (s' := μ) rfl ?_
      refine xr_cl (y' := 67) (as := [.inr (some (34, i))]) (r := []) rfl rfl ?_
      refine tf_67 (d := d + 0) (μ := μ) (i := i) ?_
      show xr_t (tm_I L xs) (d + 1) 102 96 [some (.inr (some (33, i))), some (.inl a1)] [.inl (cv_67 i μ)] μ Q
      generalize gv1 : (cv_67 i μ) = v1 at h ⊢
      try simp only [if_neg c1_0, if_neg c1_1, if_neg c1_2, if_neg c1_3, if_neg c1_4, if_neg c1_5, if_neg c1_6, if_pos c1] at h
      exact xr_rt (v := some (.inl v1)) rfl h
-- BootNet.station(II)I
def cv_14 (a1 : Int32) (a2 : Int32) (μ : tm_M) : Int32 := ((if (cv_38 a1 μ) = 0 then (-1) else (cv_102 ((a1).toNatClampNeg) a2 μ)) : Int32)
def ci_14 (a1 : Int32) (a2 : Int32) (μ : tm_M) : Prop := ((¬ ((cv_38 a1 μ) = 0)) → tm_ix a1 6 = true)
set_option maxHeartbeats 4000000 in
set_option maxRecDepth 10000 in
theorem tf_14 {a1 : Int32} {a2 : Int32} (hi : ci_14 a1 a2 μ) (h : Q (some (.inl (cv_14 a1 a2 μ))) μ) : xm_MW (tm_I L xs) (d + 3) 14 [.inr (some (0, 0)), .inl a1, .inl a2] μ Q := by
  refine xr_in2 [some (.inr (some (0, 0))), some (.inl a1), some (.inl a2)] rfl rfl ?_
  unfold cv_14 at h
  unfold ci_14 at hi
  refine xr_go 3 (pc' := 5) (ls' := [some (.inr (some (0, 0))), some (.inl a1), some (.inl a2)]) (st' := [.inl a1, .inr (some (6, 0))]) (s' := μ) rfl ?_
  refine xr_cl (y' := 38) (as := [.inr (some (6, 0)), .inl a1]) (r := []) rfl rfl ?_
  refine tf_38 (d := d + 1) (μ := μ) (a1 := a1) ?_
  show xr_t (tm_I L xs) (d + 2) 14 8 [some (.inr (some (0, 0))), some (.inl a1), some (.inl a2)] [.inl (cv_38 a1 μ)] μ Q
  have z1 : (cv_38 a1 μ) = 0 ∨ (cv_38 a1 μ) = 1 := cz_38
  generalize gv1 : (cv_38 a1 μ) = v1 at h hi z1 ⊢
  suffices hj1 : xr_t (tm_I L xs) (d + 2) 14 25 [some (.inr (some (0, 0))), some (.inl a1), some (.inl a2)] [.inl ((if v1 = 0 then (-1) else (cv_102 ((a1).toNatClampNeg) a2 μ)) : Int32)] μ Q by
    refine xr_br 1 (c := v1 = 0) inferInstance (a := 24) (b := 11) (ls' := [some (.inr (some (0, 0))), some (.inl a1), some (.inl a2)]) (st' := []) (s' := μ) rfl (fun c1 => ?_) (fun c1 => ?_)
    · skip
      refine xr_go 1 (pc' := 25) (ls' := [some (.inr (some (0, 0))), some (.inl a1), some (.inl a2)]) (st' := [.inl (-1)]) (s' := μ) rfl ?_
      have ehj1 : ((if v1 = 0 then (-1) else (cv_102 ((a1).toNatClampNeg) a2 μ)) : Int32) = (-1) := by first | rfl | simp only [if_pos c1]
      rw [ehj1] at hj1
      exact hj1
    · skip
      refine xr_go 3 (pc' := 16) (ls' := [some (.inr (some (0, 0))), some (.inl a1), some (.inl a2)]) (st' := [.inl a1, .inr (some (32, 0))]) (s' := μ) rfl ?_
      refine xr_aal (n := 6) (w := (33, (a1).toNatClampNeg)) rfl rfl (hi c1) rfl ?_
      refine xr_go 1 (pc' := 18) (ls' := [some (.inr (some (0, 0))), some (.inl a1), some (.inl a2)]) (st' := [.inl a2, .inr (some (33, (a1).toNatClampNeg))]) (s' := μ) rfl ?_
      refine xr_cl (y' := 102) (as := [.inr (some (33, (a1).toNatClampNeg)), .inl a2]) (r := []) rfl rfl ?_
      refine tf_102 (d := d + 0) (μ := μ) (i := ((a1).toNatClampNeg)) (a1 := a2) ?_
      show xr_t (tm_I L xs) (d + 2) 14 21 [some (.inr (some (0, 0))), some (.inl a1), some (.inl a2)] [.inl (cv_102 ((a1).toNatClampNeg) a2 μ)] μ Q
      refine xr_go 1 (pc' := 25) (ls' := [some (.inr (some (0, 0))), some (.inl a1), some (.inl a2)]) (st' := [.inl (cv_102 ((a1).toNatClampNeg) a2 μ)]) (s' := μ) rfl ?_
      have ehj1 : ((if v1 = 0 then (-1) else (cv_102 ((a1).toNatClampNeg) a2 μ)) : Int32) = (cv_102 ((a1).toNatClampNeg) a2 μ) := by first | rfl | simp only [if_neg c1]
      rw [ehj1] at hj1
      exact hj1
  exact xr_rt (v := some (.inl ((if v1 = 0 then (-1) else (cv_102 ((a1).toNatClampNeg) a2 μ)) : Int32))) rfl h
-- BootNet.image(II)I
def cv_15 (a1 : Int32) (a2 : Int32) (μ : tm_M) : Int32 := ((if (cv_38 a1 μ) = 0 then (-1) else (cv_68 ((a1).toNatClampNeg) a2 μ)) : Int32)
def ci_15 (a1 : Int32) (a2 : Int32) (μ : tm_M) : Prop := ((¬ ((cv_38 a1 μ) = 0)) → tm_ix a1 6 = true) ∧ ((¬ ((cv_38 a1 μ) = 0)) → ci_68 ((a1).toNatClampNeg) a2 μ)
set_option maxHeartbeats 4000000 in
set_option maxRecDepth 10000 in
theorem tf_15 {a1 : Int32} {a2 : Int32} (hi : ci_15 a1 a2 μ) (h : Q (some (.inl (cv_15 a1 a2 μ))) μ) : xm_MW (tm_I L xs) (d + 2) 15 [.inr (some (0, 0)), .inl a1, .inl a2] μ Q := by
  refine xr_in2 [some (.inr (some (0, 0))), some (.inl a1), some (.inl a2)] rfl rfl ?_
  unfold cv_15 at h
  unfold ci_15 at hi
  refine xr_go 3 (pc' := 5) (ls' := [some (.inr (some (0, 0))), some (.inl a1), some (.inl a2)]) (st' := [.inl a1, .inr (some (6, 0))]) (s' := μ) rfl ?_
  refine xr_cl (y' := 38) (as := [.inr (some (6, 0)), .inl a1]) (r := []) rfl rfl ?_
  refine tf_38 (d := d + 0) (μ := μ) (a1 := a1) ?_
  show xr_t (tm_I L xs) (d + 1) 15 8 [some (.inr (some (0, 0))), some (.inl a1), some (.inl a2)] [.inl (cv_38 a1 μ)] μ Q
  have z1 : (cv_38 a1 μ) = 0 ∨ (cv_38 a1 μ) = 1 := cz_38
  generalize gv1 : (cv_38 a1 μ) = v1 at h hi z1 ⊢
  suffices hj1 : xr_t (tm_I L xs) (d + 1) 15 28 [some (.inr (some (0, 0))), some (.inl a1), some (.inl a2)] [.inl ((if v1 = 0 then (-1) else (cv_68 ((a1).toNatClampNeg) a2 μ)) : Int32)] μ Q by
    refine xr_br 1 (c := v1 = 0) inferInstance (a := 27) (b := 11) (ls' := [some (.inr (some (0, 0))), some (.inl a1), some (.inl a2)]) (st' := []) (s' := μ) rfl (fun c1 => ?_) (fun c1 => ?_)
    · skip
      refine xr_go 1 (pc' := 28) (ls' := [some (.inr (some (0, 0))), some (.inl a1), some (.inl a2)]) (st' := [.inl (-1)]) (s' := μ) rfl ?_
      have ehj1 : ((if v1 = 0 then (-1) else (cv_68 ((a1).toNatClampNeg) a2 μ)) : Int32) = (-1) := by first | rfl | simp only [if_pos c1]
      rw [ehj1] at hj1
      exact hj1
    · skip
      refine xr_go 3 (pc' := 16) (ls' := [some (.inr (some (0, 0))), some (.inl a1), some (.inl a2)]) (st' := [.inl a1, .inr (some (32, 0))]) (s' := μ) rfl ?_
      refine xr_aal (n := 6) (w := (33, (a1).toNatClampNeg)) rfl rfl (hi.1 c1) rfl ?_
      refine xr_go 2 (pc' := 21) (ls' := [some (.inr (some (0, 0))), some (.inl a1), some (.inl a2)]) (st' := [.inl a2, .inr (some (34, (a1).toNatClampNeg))]) (s' := μ) rfl ?_
      refine xr_cl (y' := 68) (as := [.inr (some (34, (a1).toNatClampNeg)), .inl a2]) (r := []) rfl rfl ?_
      refine tf_68 (d := d + 0) (μ := μ) (i := ((a1).toNatClampNeg)) (a1 := a2) (hi.2 c1) ?_
      show xr_t (tm_I L xs) (d + 1) 15 24 [some (.inr (some (0, 0))), some (.inl a1), some (.inl a2)] [.inl (cv_68 ((a1).toNatClampNeg) a2 μ)] μ Q
      refine xr_go 1 (pc' := 28) (ls' := [some (.inr (some (0, 0))), some (.inl a1), some (.inl a2)]) (st' := [.inl (cv_68 ((a1).toNatClampNeg) a2 μ)]) (s' := μ) rfl ?_
      have ehj1 : ((if v1 = 0 then (-1) else (cv_68 ((a1).toNatClampNeg) a2 μ)) : Int32) = (cv_68 ((a1).toNatClampNeg) a2 μ) := by first | rfl | simp only [if_neg c1]
      rw [ehj1] at hj1
      exact hj1
  exact xr_rt (v := some (.inl ((if v1 = 0 then (-1) else (cv_68 ((a1).toNatClampNeg) a2 μ)) : Int32))) rfl h
-- BootNet$AddressBook.tell(II)I
def cv_31 (a1 : Int32) (a2 : Int32) (μ : tm_M) : Int32 := (if a2 = 0 then (cv_23 a1 μ) else (if a2 = 1 then ((if (cv_23 a1 μ) = (-1) then (-1) else (μ 24 0 ((a1).toNatClampNeg))) : Int32) else (if a2 = 2 then (cv_24 a1 μ) else (if a2 = 3 then ((if (cv_25 a1 μ) = 0 then (-1) else (μ 27 0 ((a1).toNatClampNeg))) : Int32) else (-1)))))
def ci_31 (a1 : Int32) (a2 : Int32) (μ : tm_M) : Prop := ((a2 = 0) → ci_23 a1 μ) ∧ ((a2 = 1) → ci_23 a1 μ) ∧ ((a2 = 1) → (¬ ((cv_23 a1 μ) = (-1))) → tm_ix a1 30 = true) ∧ ((a2 = 2) → ci_24 a1 μ) ∧ ((a2 = 3) → ci_25 a1 μ) ∧ ((a2 = 3) → (¬ ((cv_25 a1 μ) = 0)) → tm_ix a1 30 = true)
set_option maxHeartbeats 4000000 in
set_option maxRecDepth 10000 in
theorem tf_31 {a1 : Int32} {a2 : Int32} (hi : ci_31 a1 a2 μ) (h : Q (some (.inl (cv_31 a1 a2 μ))) μ) : xm_MW (tm_I L xs) (d + 2) 31 [.inr (some (22, 0)), .inl a1, .inl a2] μ Q := by
  refine xr_in2 [some (.inr (some (22, 0))), some (.inl a1), some (.inl a2)] rfl rfl ?_
  unfold cv_31 at h
  unfold ci_31 at hi
  refine xr_go 1 (pc' := 1) (ls' := [some (.inr (some (22, 0))), some (.inl a1), some (.inl a2)]) (st' := [.inl a2]) (s' := μ) rfl ?_
  refine xr_ts rfl (fun c1 => ?_) (fun j hj c1 => ?_)
  · skip
    have c1_0 : ¬ ((a2 : Int32) = 0) := fun e => by rw [e] at c1; revert c1; decide
    have c1_1 : ¬ ((a2 : Int32) = 1) := fun e => by rw [e] at c1; revert c1; decide
    have c1_2 : ¬ ((a2 : Int32) = 2) := fun e => by rw [e] at c1; revert c1; decide
    have c1_3 : ¬ ((a2 : Int32) = 3) := fun e => by rw [e] at c1; revert c1; decide
    refine xr_go 1 (pc' := 84) (ls' := [some (.inr (some (22, 0))), some (.inl a1), some (.inl a2)]) (st' := [.inl (-1)]) (s' := μ) rfl ?_
    try simp only [if_neg c1_0, if_neg c1_1, if_neg c1_2, if_neg c1_3] at h
    exact xr_rt (v := some (.inl (-1))) rfl h
  · have hj2 : j < 4 := by omega
    match j, hj2, c1 with
    | 0, _, c1 =>
      replace c1 : (a2 : Int32) = 0 := c1
      show xr_t _ _ _ 32 _ _ _ _
      refine xr_go 2 (pc' := 34) (ls' := [some (.inr (some (22, 0))), some (.inl a1), some (.inl a2)]) (st' := [.inl a1, .inr (some (22, 0))]) (s' := μ) rfl ?_
      refine xr_cl (y' := 23) (as := [.inr (some (22, 0)), .inl a1]) (r := []) rfl rfl ?_
      refine tf_23 (d := d + 0) (μ := μ) (a1 := a1) (hi.1 c1) ?_
      show xr_t (tm_I L xs) (d + 1) 31 37 [some (.inr (some (22, 0))), some (.inl a1), some (.inl a2)] [.inl (cv_23 a1 μ)] μ Q
      generalize gv1 : (cv_23 a1 μ) = v1 at h hi ⊢
      try simp only [if_pos c1] at h
      exact xr_rt (v := some (.inl v1)) rfl h
    | 1, _, c1 =>
      replace c1 : (a2 : Int32) = 1 := c1
      show xr_t _ _ _ 38 _ _ _ _
      have c1_0 : ¬ ((a2 : Int32) = 0) := by rw [c1]; decide
      refine xr_go 2 (pc' := 40) (ls' := [some (.inr (some (22, 0))), some (.inl a1), some (.inl a2)]) (st' := [.inl a1, .inr (some (22, 0))]) (s' := μ) rfl ?_
      refine xr_cl (y' := 23) (as := [.inr (some (22, 0)), .inl a1]) (r := []) rfl rfl ?_
      refine tf_23 (d := d + 0) (μ := μ) (a1 := a1) (hi.2.1 c1) ?_
      show xr_t (tm_I L xs) (d + 1) 31 43 [some (.inr (some (22, 0))), some (.inl a1), some (.inl a2)] [.inl (cv_23 a1 μ)] μ Q
      generalize gv2 : (cv_23 a1 μ) = v2 at h hi ⊢
      suffices hj2 : xr_t (tm_I L xs) (d + 1) 31 57 [some (.inr (some (22, 0))), some (.inl a1), some (.inl a2)] [.inl ((if v2 = (-1) then (-1) else (μ 24 0 ((a1).toNatClampNeg))) : Int32)] μ Q by
        refine xr_br 2 (c := v2 = (-1)) inferInstance (a := 47) (b := 51) (ls' := [some (.inr (some (22, 0))), some (.inl a1), some (.inl a2)]) (st' := []) (s' := μ) rfl (fun c2 => ?_) (fun c2 => ?_)
        · skip
          refine xr_go 2 (pc' := 57) (ls' := [some (.inr (some (22, 0))), some (.inl a1), some (.inl a2)]) (st' := [.inl (-1)]) (s' := μ) rfl ?_
          have ehj2 : ((if v2 = (-1) then (-1) else (μ 24 0 ((a1).toNatClampNeg))) : Int32) = (-1) := by first | rfl | simp only [if_pos c2]
          rw [ehj2] at hj2
          exact hj2
        · skip
          refine xr_go 3 (pc' := 56) (ls' := [some (.inr (some (22, 0))), some (.inl a1), some (.inl a2)]) (st' := [.inl a1, .inr (some (24, 0))]) (s' := μ) rfl ?_
          refine xr_ial (n := 30) rfl rfl (hi.2.2.1 c1 c2) ?_
          have ehj2 : ((if v2 = (-1) then (-1) else (μ 24 0 ((a1).toNatClampNeg))) : Int32) = (μ 24 0 ((a1).toNatClampNeg)) := by first | rfl | simp only [if_neg c2]
          rw [ehj2] at hj2
          exact hj2
      try simp only [if_neg c1_0, if_pos c1] at h
      exact xr_rt (v := some (.inl ((if v2 = (-1) then (-1) else (μ 24 0 ((a1).toNatClampNeg))) : Int32))) rfl h
    | 2, _, c1 =>
      replace c1 : (a2 : Int32) = 2 := c1
      show xr_t _ _ _ 58 _ _ _ _
      have c1_0 : ¬ ((a2 : Int32) = 0) := by rw [c1]; decide
      have c1_1 : ¬ ((a2 : Int32) = 1) := by rw [c1]; decide
      refine xr_go 2 (pc' := 60) (ls' := [some (.inr (some (22, 0))), some (.inl a1), some (.inl a2)]) (st' := [.inl a1, .inr (some (22, 0))]) (s' := μ) rfl ?_
      refine xr_cl (y' := 24) (as := [.inr (some (22, 0)), .inl a1]) (r := []) rfl rfl ?_
      refine tf_24 (d := d + 0) (μ := μ) (a1 := a1) (hi.2.2.2.1 c1) ?_
      show xr_t (tm_I L xs) (d + 1) 31 63 [some (.inr (some (22, 0))), some (.inl a1), some (.inl a2)] [.inl (cv_24 a1 μ)] μ Q
      generalize gv3 : (cv_24 a1 μ) = v3 at h hi ⊢
      try simp only [if_neg c1_0, if_neg c1_1, if_pos c1] at h
      exact xr_rt (v := some (.inl v3)) rfl h
    | 3, _, c1 =>
      replace c1 : (a2 : Int32) = 3 := c1
      show xr_t _ _ _ 64 _ _ _ _
      have c1_0 : ¬ ((a2 : Int32) = 0) := by rw [c1]; decide
      have c1_1 : ¬ ((a2 : Int32) = 1) := by rw [c1]; decide
      have c1_2 : ¬ ((a2 : Int32) = 2) := by rw [c1]; decide
      refine xr_go 2 (pc' := 66) (ls' := [some (.inr (some (22, 0))), some (.inl a1), some (.inl a2)]) (st' := [.inl a1, .inr (some (22, 0))]) (s' := μ) rfl ?_
      refine xr_cl (y' := 25) (as := [.inr (some (22, 0)), .inl a1]) (r := []) rfl rfl ?_
      refine tf_25 (d := d + 0) (μ := μ) (a1 := a1) (hi.2.2.2.2.1 c1) ?_
      show xr_t (tm_I L xs) (d + 1) 31 69 [some (.inr (some (22, 0))), some (.inl a1), some (.inl a2)] [.inl (cv_25 a1 μ)] μ Q
      have z4 : (cv_25 a1 μ) = 0 ∨ (cv_25 a1 μ) = 1 := cz_25
      generalize gv4 : (cv_25 a1 μ) = v4 at h hi z4 ⊢
      suffices hj3 : xr_t (tm_I L xs) (d + 1) 31 82 [some (.inr (some (22, 0))), some (.inl a1), some (.inl a2)] [.inl ((if v4 = 0 then (-1) else (μ 27 0 ((a1).toNatClampNeg))) : Int32)] μ Q by
        refine xr_br 1 (c := v4 = 0) inferInstance (a := 81) (b := 72) (ls' := [some (.inr (some (22, 0))), some (.inl a1), some (.inl a2)]) (st' := []) (s' := μ) rfl (fun c3 => ?_) (fun c3 => ?_)
        · skip
          refine xr_go 1 (pc' := 82) (ls' := [some (.inr (some (22, 0))), some (.inl a1), some (.inl a2)]) (st' := [.inl (-1)]) (s' := μ) rfl ?_
          have ehj3 : ((if v4 = 0 then (-1) else (μ 27 0 ((a1).toNatClampNeg))) : Int32) = (-1) := by first | rfl | simp only [if_pos c3]
          rw [ehj3] at hj3
          exact hj3
        · skip
          refine xr_go 3 (pc' := 77) (ls' := [some (.inr (some (22, 0))), some (.inl a1), some (.inl a2)]) (st' := [.inl a1, .inr (some (27, 0))]) (s' := μ) rfl ?_
          refine xr_ial (n := 30) rfl rfl (hi.2.2.2.2.2 c1 c3) ?_
          refine xr_go 1 (pc' := 82) (ls' := [some (.inr (some (22, 0))), some (.inl a1), some (.inl a2)]) (st' := [.inl (μ 27 0 ((a1).toNatClampNeg))]) (s' := μ) rfl ?_
          have ehj3 : ((if v4 = 0 then (-1) else (μ 27 0 ((a1).toNatClampNeg))) : Int32) = (μ 27 0 ((a1).toNatClampNeg)) := by first | rfl | simp only [if_neg c3]
          rw [ehj3] at hj3
          exact hj3
      try simp only [if_neg c1_0, if_neg c1_1, if_neg c1_2, if_pos c1] at h
      exact xr_rt (v := some (.inl ((if v4 = 0 then (-1) else (μ 27 0 ((a1).toNatClampNeg))) : Int32))) rfl h
end TF
