/-! Methods of the class as functions. Written by prog/gen_tf.py. -/
section TF
variable {L : Nat} {xs : Nat → Int32} {d : Nat} {μ : tm_M} {Q : Option (xm_V tm_R) → tm_M → Prop}
-- BootNet$Loading.sendRead()V
def cs_71 (i : Nat) (μ : tm_M) : tm_M := (cs_117 8 (μ 34 i 0) 0 0 (μ 16 0 (((μ 34 i 10) : Int32).toNatClampNeg)) 0 μ)
def ci_71 (i : Nat) (μ : tm_M) : Prop := (tm_ix (μ 34 i 10) 4 = true) ∧ (ci_117 8 (μ 34 i 0) 0 0 (μ 16 0 (((μ 34 i 10) : Int32).toNatClampNeg)) 0 μ)
set_option maxHeartbeats 4000000 in
set_option maxRecDepth 10000 in
theorem tf_71 {i : Nat} (hi : ci_71 i μ) (h : Q none (cs_71 i μ)) : xm_MW (tm_I L xs) (d + 2) 71 [.inr (some (34, i))] μ Q := by
  refine xr_in2 [some (.inr (some (34, i)))] rfl rfl ?_
  unfold cs_71 at h
  unfold ci_71 at hi
  refine xr_go 12 (pc' := 23) (ls' := [some (.inr (some (34, i)))]) (st' := [.inl (μ 34 i 10), .inr (some (16, 0)), .inl 0, .inl 0, .inl (μ 34 i 0), .inl 8, .inr (some (2, 0))]) (s' := μ) rfl ?_
  refine xr_ial (n := 4) rfl rfl (hi.1) ?_
  refine xr_go 1 (pc' := 25) (ls' := [some (.inr (some (34, i)))]) (st' := [.inl 0, .inl (μ 16 0 (((μ 34 i 10) : Int32).toNatClampNeg)), .inl 0, .inl 0, .inl (μ 34 i 0), .inl 8, .inr (some (2, 0))]) (s' := μ) rfl ?_
  refine xr_cl (y' := 117) (as := [.inr (some (2, 0)), .inl 8, .inl (μ 34 i 0), .inl 0, .inl 0, .inl (μ 16 0 (((μ 34 i 10) : Int32).toNatClampNeg)), .inl 0]) (r := []) rfl rfl ?_
  refine tf_117 (d := d + 0) (μ := μ) (a1 := 8) (a2 := (μ 34 i 0)) (a3 := 0) (a4 := 0) (a5 := (μ 16 0 (((μ 34 i 10) : Int32).toNatClampNeg))) (a6 := 0) (hi.2) ?_
  show xr_t (tm_I L xs) (d + 1) 71 28 [some (.inr (some (34, i)))] [.inr (some (4, (cv_117 8 (μ 34 i 0) 0 0 (μ 16 0 (((μ 34 i 10) : Int32).toNatClampNeg)) 0 μ)))] (cs_117 8 (μ 34 i 0) 0 0 (μ 16 0 (((μ 34 i 10) : Int32).toNatClampNeg)) 0 μ) Q
  generalize gv1 : (cv_117 8 (μ 34 i 0) 0 0 (μ 16 0 (((μ 34 i 10) : Int32).toNatClampNeg)) 0 μ) = v1 at h hi ⊢
  generalize gμ2 : (cs_117 8 (μ 34 i 0) 0 0 (μ 16 0 (((μ 34 i 10) : Int32).toNatClampNeg)) 0 μ) = μ2 at h hi ⊢
  refine xr_go 1 (pc' := 29) (ls' := [some (.inr (some (34, i)))]) (st' := []) (s' := μ2) rfl ?_
  exact xr_rt (v := none) rfl h
-- BootNet$Loading.begin(I)V
def cs_61 (i : Nat) (a1 : Int32) (μ : tm_M) : tm_M := (if a1 < (μ 12 0 5) then (cs_72 i (cs_71 i (tm_wr (tm_wr (tm_wr (tm_wr (tm_wr μ 34 i 11 1) 34 i 10 a1) 34 i 6 (cv_58 a1 (tm_wr (tm_wr μ 34 i 11 1) 34 i 10 a1))) 34 i 5 (cv_58 a1 (tm_wr (tm_wr μ 34 i 11 1) 34 i 10 a1))) 34 i 7 1))) else (tm_wr μ 34 i 11 2))
def ci_61 (i : Nat) (a1 : Int32) (μ : tm_M) : Prop := ((a1 < (μ 12 0 5)) → ci_58 a1 (tm_wr (tm_wr μ 34 i 11 1) 34 i 10 a1)) ∧ ((a1 < (μ 12 0 5)) → ci_71 i (tm_wr (tm_wr (tm_wr (tm_wr (tm_wr μ 34 i 11 1) 34 i 10 a1) 34 i 6 (cv_58 a1 (tm_wr (tm_wr μ 34 i 11 1) 34 i 10 a1))) 34 i 5 (cv_58 a1 (tm_wr (tm_wr μ 34 i 11 1) 34 i 10 a1))) 34 i 7 1))
set_option maxHeartbeats 4000000 in
set_option maxRecDepth 10000 in
theorem tf_61 {i : Nat} {a1 : Int32} (hi : ci_61 i a1 μ) (h : Q none (cs_61 i a1 μ)) : xm_MW (tm_I L xs) (d + 3) 61 [.inr (some (34, i)), .inl a1] μ Q := by
  refine xr_in2 [some (.inr (some (34, i))), some (.inl a1)] rfl rfl ?_
  unfold cs_61 at h
  unfold ci_61 at hi
  refine xr_br 5 (c := a1 < (μ 12 0 5)) inferInstance (a := 17) (b := 11) (ls' := [some (.inr (some (34, i))), some (.inl a1)]) (st' := []) (s' := μ) rfl (fun c1 => ?_) (fun c1 => ?_)
  · skip
    refine xr_go 10 (pc' := 33) (ls' := [some (.inr (some (34, i))), some (.inl a1)]) (st' := [.inl a1, .inr (some (12, 0)), .inr (some (34, i))]) (s' := (tm_wr (tm_wr μ 34 i 11 1) 34 i 10 a1)) rfl ?_
    refine xr_cl (y' := 58) (as := [.inr (some (12, 0)), .inl a1]) (r := [.inr (some (34, i))]) rfl rfl ?_
    refine tf_58 (d := d + 1) (μ := (tm_wr (tm_wr μ 34 i 11 1) 34 i 10 a1)) (a1 := a1) (hi.1 c1) ?_
    show xr_t (tm_I L xs) (d + 2) 61 36 [some (.inr (some (34, i))), some (.inl a1)] [.inl (cv_58 a1 (tm_wr (tm_wr μ 34 i 11 1) 34 i 10 a1)), .inr (some (34, i))] (tm_wr (tm_wr μ 34 i 11 1) 34 i 10 a1) Q
    generalize gv1 : (cv_58 a1 (tm_wr (tm_wr μ 34 i 11 1) 34 i 10 a1)) = v1 at h hi ⊢
    refine xr_go 3 (pc' := 41) (ls' := [some (.inr (some (34, i))), some (.inl a1)]) (st' := [.inr (some (34, i)), .inr (some (34, i))]) (s' := (tm_wr (tm_wr (tm_wr μ 34 i 11 1) 34 i 10 a1) 34 i 6 v1)) rfl ?_
    refine xr_gfv (x := v1) rfl rfl (by rw [tm_wr_s]) ?_
    refine xr_go 5 (pc' := 53) (ls' := [some (.inr (some (34, i))), some (.inl a1)]) (st' := [.inr (some (34, i))]) (s' := (tm_wr (tm_wr (tm_wr (tm_wr (tm_wr μ 34 i 11 1) 34 i 10 a1) 34 i 6 v1) 34 i 5 v1) 34 i 7 1)) rfl ?_
    refine xr_cl (y' := 71) (as := [.inr (some (34, i))]) (r := []) rfl rfl ?_
    refine tf_71 (d := d + 0) (μ := (tm_wr (tm_wr (tm_wr (tm_wr (tm_wr μ 34 i 11 1) 34 i 10 a1) 34 i 6 v1) 34 i 5 v1) 34 i 7 1)) (i := i) (hi.2 c1) ?_
    show xr_t (tm_I L xs) (d + 2) 61 56 [some (.inr (some (34, i))), some (.inl a1)] [] (cs_71 i (tm_wr (tm_wr (tm_wr (tm_wr (tm_wr μ 34 i 11 1) 34 i 10 a1) 34 i 6 v1) 34 i 5 v1) 34 i 7 1)) Q
    generalize gμ2 : (cs_71 i (tm_wr (tm_wr (tm_wr (tm_wr (tm_wr μ 34 i 11 1) 34 i 10 a1) 34 i 6 v1) 34 i 5 v1) 34 i 7 1)) = μ2 at h hi ⊢
    refine xr_go 1 (pc' := 57) (ls' := [some (.inr (some (34, i))), some (.inl a1)]) (st' := [.inr (some (34, i))]) (s' := μ2) rfl ?_
    refine xr_cl (y' := 72) (as := [.inr (some (34, i))]) (r := []) rfl rfl ?_
    refine tf_72 (d := d + 1) (μ := μ2) (i := i) ?_
    show xr_t (tm_I L xs) (d + 2) 61 60 [some (.inr (some (34, i))), some (.inl a1)] [] (cs_72 i μ2) Q
    generalize gμ3 : (cs_72 i μ2) = μ3 at h hi ⊢
    try simp only [if_pos c1] at h
    exact xr_rt (v := none) rfl h
  · skip
    refine xr_go 3 (pc' := 16) (ls' := [some (.inr (some (34, i))), some (.inl a1)]) (st' := []) (s' := (tm_wr μ 34 i 11 2)) rfl ?_
    try simp only [if_neg c1] at h
    exact xr_rt (v := none) rfl h
-- BootNet$Loading.resultOfEntry()I
def cv_69 (i : Nat) (μ : tm_M) : Int32 := (if (cv_67 i μ) = (μ 17 0 (((μ 34 i 10) : Int32).toNatClampNeg)) then ((if (cv_52k35 i (μ 34 i 6) (μ 34 i 5) μ) = (μ 18 0 (((μ 34 i 10) : Int32).toNatClampNeg)) then 1 else 5) : Int32) else 4)
def ci_69 (i : Nat) (μ : tm_M) : Prop := (tm_ix (μ 34 i 10) 4 = true) ∧ (((cv_67 i μ) = (μ 17 0 (((μ 34 i 10) : Int32).toNatClampNeg))) → ci_52k35 i (μ 34 i 6) (μ 34 i 5) μ)
set_option maxHeartbeats 4000000 in
set_option maxRecDepth 10000 in
theorem tf_69 {i : Nat} (hi : ci_69 i μ) (h : Q (some (.inl (cv_69 i μ))) μ) : xm_MW (tm_I L xs) (d + 2) 69 [.inr (some (34, i))] μ Q := by
  refine xr_in2 [some (.inr (some (34, i))), none] rfl rfl ?_
  unfold cv_69 at h
  unfold ci_69 at hi
  refine xr_go 1 (pc' := 1) (ls' := [some (.inr (some (34, i))), none]) (st' := [.inr (some (34, i))]) (s' := μ) rfl ?_
  refine xr_cl (y' := 67) (as := [.inr (some (34, i))]) (r := []) rfl rfl ?_
  refine tf_67 (d := d + 0) (μ := μ) (i := i) ?_
  show xr_t (tm_I L xs) (d + 1) 69 4 [some (.inr (some (34, i))), none] [.inl (cv_67 i μ)] μ Q
  generalize gv1 : (cv_67 i μ) = v1 at h hi ⊢
  refine xr_go 5 (pc' := 15) (ls' := [some (.inr (some (34, i))), none]) (st' := [.inl (μ 34 i 10), .inr (some (17, 0)), .inl v1]) (s' := μ) rfl ?_
  refine xr_ial (n := 4) rfl rfl (hi.1) ?_
  refine xr_br 1 (c := v1 = (μ 17 0 (((μ 34 i 10) : Int32).toNatClampNeg))) inferInstance (a := 21) (b := 19) (ls' := [some (.inr (some (34, i))), none]) (st' := []) (s' := μ) rfl (fun c1 => ?_) (fun c1 => ?_)
  · skip
    refine xr_go 6 (pc' := 33) (ls' := [some (.inr (some (34, i))), none]) (st' := [.inl (μ 34 i 5), .inl (μ 34 i 6), .inr (some (35, i))]) (s' := μ) rfl ?_
    refine xr_cl (y' := 52) (as := [.inr (some (35, i)), .inl (μ 34 i 6), .inl (μ 34 i 5)]) (r := []) rfl rfl ?_
    refine tf_52k35 (d := d + 0) (μ := μ) (m1 := i) (a2 := (μ 34 i 6)) (a3 := (μ 34 i 5)) (hi.2 c1) ?_
    show xr_t (tm_I L xs) (d + 1) 69 36 [some (.inr (some (34, i))), none] [.inl (cv_52k35 i (μ 34 i 6) (μ 34 i 5) μ)] μ Q
    generalize gv2 : (cv_52k35 i (μ 34 i 6) (μ 34 i 5) μ) = v2 at h hi ⊢
    refine xr_go 7 (pc' := 49) (ls' := [some (.inr (some (34, i))), some (.inl v2)]) (st' := [.inl (μ 34 i 10), .inr (some (18, 0)), .inl v2]) (s' := μ) rfl ?_
    refine xr_ial (n := 4) rfl rfl (hi.1) ?_
    suffices hj2 : xr_t (tm_I L xs) (d + 1) 69 58 [some (.inr (some (34, i))), some (.inl v2)] [.inl ((if v2 = (μ 18 0 (((μ 34 i 10) : Int32).toNatClampNeg)) then 1 else 5) : Int32)] μ Q by
      refine xr_br 1 (c := v2 = (μ 18 0 (((μ 34 i 10) : Int32).toNatClampNeg))) inferInstance (a := 53) (b := 57) (ls' := [some (.inr (some (34, i))), some (.inl v2)]) (st' := []) (s' := μ) rfl (fun c2 => ?_) (fun c2 => ?_)
      · skip
        refine xr_go 2 (pc' := 58) (ls' := [some (.inr (some (34, i))), some (.inl v2)]) (st' := [.inl 1]) (s' := μ) rfl ?_
        have ehj2 : ((if v2 = (μ 18 0 (((μ 34 i 10) : Int32).toNatClampNeg)) then 1 else 5) : Int32) = 1 := by first | rfl | simp only [if_pos c2]
        rw [ehj2] at hj2
        exact hj2
      · skip
        refine xr_go 1 (pc' := 58) (ls' := [some (.inr (some (34, i))), some (.inl v2)]) (st' := [.inl 5]) (s' := μ) rfl ?_
        have ehj2 : ((if v2 = (μ 18 0 (((μ 34 i 10) : Int32).toNatClampNeg)) then 1 else 5) : Int32) = 5 := by first | rfl | simp only [if_neg c2]
        rw [ehj2] at hj2
        exact hj2
    try simp only [if_pos c1] at h
    exact xr_rt (v := some (.inl ((if v2 = (μ 18 0 (((μ 34 i 10) : Int32).toNatClampNeg)) then 1 else 5) : Int32))) rfl h
  · skip
    refine xr_go 1 (pc' := 20) (ls' := [some (.inr (some (34, i))), none]) (st' := [.inl 4]) (s' := μ) rfl ?_
    try simp only [if_neg c1] at h
    exact xr_rt (v := some (.inl 4)) rfl h
-- BootNet$Loading.addBytes(LBootNet$Message;)V
def cs_70_2 (i : Nat) (m1 : Nat) : Nat → Int32 → tm_M → tm_M
  | 0, _, μ => μ
  | n + 1, l2, μ => (if ((μ 4 m1 6) ≤ l2) ∨ ((172 : Int32) ≤ (μ 34 i 5)) then μ else (cs_70_2 i m1 n (l2 + 1) (tm_wr (tm_wr μ 35 i (((μ 34 i 5) : Int32).toNatClampNeg) (μ 5 m1 ((l2).toNatClampNeg))) 34 i 5 ((μ 34 i 5) + 1))))
def ci_70_2 (i : Nat) (m1 : Nat) : Nat → Int32 → tm_M → Prop
  | 0, _, _ => False
  | n + 1, l2, μ => ((¬ (((μ 4 m1 6) ≤ l2) ∨ ((172 : Int32) ≤ (μ 34 i 5)))) → tm_ix l2 12 = true) ∧ ((¬ (((μ 4 m1 6) ≤ l2) ∨ ((172 : Int32) ≤ (μ 34 i 5)))) → tm_ix (μ 34 i 5) 172 = true) ∧ ((¬ (((μ 4 m1 6) ≤ l2) ∨ ((172 : Int32) ≤ (μ 34 i 5)))) → ci_70_2 i m1 n (l2 + 1) (tm_wr (tm_wr μ 35 i (((μ 34 i 5) : Int32).toNatClampNeg) (μ 5 m1 ((l2).toNatClampNeg))) 34 i 5 ((μ 34 i 5) + 1)))
set_option maxHeartbeats 4000000 in
set_option maxRecDepth 10000 in
theorem tl_70_2 {i : Nat} {m1 : Nat} : ∀ (n : Nat) (l2 : Int32) (μ : tm_M), ci_70_2 i m1 n l2 μ → Q none (cs_70_2 i m1 n l2 μ) → xr_t (tm_I L xs) (d + 0) 70 2 [some (.inr (some (34, i))), some (.inr (some (4, m1))), some (.inl l2)] [] μ Q := by
  intro n
  induction n with
  | zero => intro l2 μ hi; exact hi.elim
  | succ n ih =>
    intro l2 μ hi h
    unfold ci_70_2 at hi
    simp only [cs_70_2] at h
    suffices hE1 : ((((μ 4 m1 6) ≤ l2) ∨ ((172 : Int32) ≤ (μ 34 i 5))) → xr_t (tm_I L xs) (d + 0) 70 51 [some (.inr (some (34, i))), some (.inr (some (4, m1))), some (.inl l2)] [] μ Q) ∧ (¬ (((μ 4 m1 6) ≤ l2) ∨ ((172 : Int32) ≤ (μ 34 i 5))) → xr_t (tm_I L xs) (d + 0) 70 20 [some (.inr (some (34, i))), some (.inr (some (4, m1))), some (.inl l2)] [] μ Q) by
      refine xr_br 4 (c := (μ 4 m1 6) ≤ l2) inferInstance (a := 51) (b := 10) (ls' := [some (.inr (some (34, i))), some (.inr (some (4, m1))), some (.inl l2)]) (st' := []) (s' := μ) rfl (fun c1 => ?_) (fun c1 => ?_)
      · skip
        exact hE1.1 (Or.inl c1)
      · skip
        refine xr_br 4 (c := (172 : Int32) ≤ (μ 34 i 5)) inferInstance (a := 51) (b := 20) (ls' := [some (.inr (some (34, i))), some (.inr (some (4, m1))), some (.inl l2)]) (st' := []) (s' := μ) rfl (fun c2 => ?_) (fun c2 => ?_)
        · skip
          exact hE1.1 (Or.inr c2)
        · skip
          exact hE1.2 (fun z => z.elim c1 c2)
    refine ⟨fun c3 => ?_, fun c3 => ?_⟩
    · skip
      try simp only [if_pos c3] at h
      exact xr_rt (v := none) rfl h
    · skip
      refine xr_go 7 (pc' := 33) (ls' := [some (.inr (some (34, i))), some (.inr (some (4, m1))), some (.inl l2)]) (st' := [.inl l2, .inr (some (5, m1)), .inl (μ 34 i 5), .inr (some (35, i))]) (s' := μ) rfl ?_
      refine xr_ial (n := 12) rfl rfl (hi.1 c3) ?_
      refine xr_ias (n := 172) rfl rfl (hi.2.1 c3) ?_
      refine xr_go 8 (pc' := 2) (ls' := [some (.inr (some (34, i))), some (.inr (some (4, m1))), some (.inl (l2 + 1))]) (st' := []) (s' := (tm_wr (tm_wr μ 35 i (((μ 34 i 5) : Int32).toNatClampNeg) (μ 5 m1 ((l2).toNatClampNeg))) 34 i 5 ((μ 34 i 5) + 1))) rfl ?_
      try simp only [if_neg c3] at h
      exact ih (l2 + 1) (tm_wr (tm_wr μ 35 i (((μ 34 i 5) : Int32).toNatClampNeg) (μ 5 m1 ((l2).toNatClampNeg))) 34 i 5 ((μ 34 i 5) + 1)) (hi.2.2 c3) h
def cs_70 (i : Nat) (m1 : Nat) (μ : tm_M) : tm_M := (cs_70_2 i m1 64 0 μ)
def ci_70 (i : Nat) (m1 : Nat) (μ : tm_M) : Prop := (ci_70_2 i m1 64 0 μ)
set_option maxHeartbeats 4000000 in
set_option maxRecDepth 10000 in
theorem tf_70 {i : Nat} {m1 : Nat} (hi : ci_70 i m1 μ) (h : Q none (cs_70 i m1 μ)) : xm_MW (tm_I L xs) (d + 1) 70 [.inr (some (34, i)), .inr (some (4, m1))] μ Q := by
  refine xr_in2 [some (.inr (some (34, i))), some (.inr (some (4, m1))), none] rfl rfl ?_
  unfold cs_70 at h
  unfold ci_70 at hi
  refine xr_go 2 (pc' := 2) (ls' := [some (.inr (some (34, i))), some (.inr (some (4, m1))), some (.inl 0)]) (st' := []) (s' := μ) rfl ?_
  exact tl_70_2 64 0 μ (hi) h
-- BootNet$Loading.onData(LBootNet$Message;)V
def cs_63 (i : Nat) (m1 : Nat) (μ : tm_M) : tm_M := (if (¬ ((μ 34 i 11) = 1)) ∨ ((¬ ((μ 4 m1 3) = (μ 16 0 (((μ 34 i 10) : Int32).toNatClampNeg)))) ∨ (¬ ((μ 4 m1 4) = (μ 34 i 7)))) then μ else (if ((cs_72 i (cs_117 10 ((cs_70 i m1 μ) 34 i 0) 0 0 ((cs_70 i m1 μ) 4 m1 3) ((cs_70 i m1 μ) 4 m1 4) (cs_70 i m1 μ))) 4 m1 6) = ((cs_72 i (cs_117 10 ((cs_70 i m1 μ) 34 i 0) 0 0 ((cs_70 i m1 μ) 4 m1 3) ((cs_70 i m1 μ) 4 m1 4) (cs_70 i m1 μ))) 1 0 2) then (tm_wr (tm_wr (cs_72 i (cs_117 10 ((cs_70 i m1 μ) 34 i 0) 0 0 ((cs_70 i m1 μ) 4 m1 3) ((cs_70 i m1 μ) 4 m1 4) (cs_70 i m1 μ))) 34 i 7 (((cs_72 i (cs_117 10 ((cs_70 i m1 μ) 34 i 0) 0 0 ((cs_70 i m1 μ) 4 m1 3) ((cs_70 i m1 μ) 4 m1 4) (cs_70 i m1 μ))) 34 i 7) + 1)) 34 i 11 ((if (cv_67 i (tm_wr (cs_72 i (cs_117 10 ((cs_70 i m1 μ) 34 i 0) 0 0 ((cs_70 i m1 μ) 4 m1 3) ((cs_70 i m1 μ) 4 m1 4) (cs_70 i m1 μ))) 34 i 7 (((cs_72 i (cs_117 10 ((cs_70 i m1 μ) 34 i 0) 0 0 ((cs_70 i m1 μ) 4 m1 3) ((cs_70 i m1 μ) 4 m1 4) (cs_70 i m1 μ))) 34 i 7) + 1))) ≤ 40 then 1 else 4) : Int32)) else (if (cv_69 i (cs_72 i (cs_117 10 ((cs_70 i m1 μ) 34 i 0) 0 0 ((cs_70 i m1 μ) 4 m1 3) ((cs_70 i m1 μ) 4 m1 4) (cs_70 i m1 μ)))) = 1 then (cs_61 i (((cs_72 i (cs_117 10 ((cs_70 i m1 μ) 34 i 0) 0 0 ((cs_70 i m1 μ) 4 m1 3) ((cs_70 i m1 μ) 4 m1 4) (cs_70 i m1 μ))) 34 i 10) + 1) (tm_wr (cs_72 i (cs_117 10 ((cs_70 i m1 μ) 34 i 0) 0 0 ((cs_70 i m1 μ) 4 m1 3) ((cs_70 i m1 μ) 4 m1 4) (cs_70 i m1 μ))) 34 i 11 (cv_69 i (cs_72 i (cs_117 10 ((cs_70 i m1 μ) 34 i 0) 0 0 ((cs_70 i m1 μ) 4 m1 3) ((cs_70 i m1 μ) 4 m1 4) (cs_70 i m1 μ)))))) else (tm_wr (cs_72 i (cs_117 10 ((cs_70 i m1 μ) 34 i 0) 0 0 ((cs_70 i m1 μ) 4 m1 3) ((cs_70 i m1 μ) 4 m1 4) (cs_70 i m1 μ))) 34 i 11 (cv_69 i (cs_72 i (cs_117 10 ((cs_70 i m1 μ) 34 i 0) 0 0 ((cs_70 i m1 μ) 4 m1 3) ((cs_70 i m1 μ) 4 m1 4) (cs_70 i m1 μ))))))))
def ci_63 (i : Nat) (m1 : Nat) (μ : tm_M) : Prop := (((μ 34 i 11) = 1) → tm_ix (μ 34 i 10) 4 = true) ∧ ((¬ ((¬ ((μ 34 i 11) = 1)) ∨ ((¬ ((μ 4 m1 3) = (μ 16 0 (((μ 34 i 10) : Int32).toNatClampNeg)))) ∨ (¬ ((μ 4 m1 4) = (μ 34 i 7)))))) → ci_70 i m1 μ) ∧ ((¬ ((¬ ((μ 34 i 11) = 1)) ∨ ((¬ ((μ 4 m1 3) = (μ 16 0 (((μ 34 i 10) : Int32).toNatClampNeg)))) ∨ (¬ ((μ 4 m1 4) = (μ 34 i 7)))))) → ci_117 10 ((cs_70 i m1 μ) 34 i 0) 0 0 ((cs_70 i m1 μ) 4 m1 3) ((cs_70 i m1 μ) 4 m1 4) (cs_70 i m1 μ)) ∧ ((¬ ((¬ ((μ 34 i 11) = 1)) ∨ ((¬ ((μ 4 m1 3) = (μ 16 0 (((μ 34 i 10) : Int32).toNatClampNeg)))) ∨ (¬ ((μ 4 m1 4) = (μ 34 i 7)))))) → (¬ (((cs_72 i (cs_117 10 ((cs_70 i m1 μ) 34 i 0) 0 0 ((cs_70 i m1 μ) 4 m1 3) ((cs_70 i m1 μ) 4 m1 4) (cs_70 i m1 μ))) 4 m1 6) = ((cs_72 i (cs_117 10 ((cs_70 i m1 μ) 34 i 0) 0 0 ((cs_70 i m1 μ) 4 m1 3) ((cs_70 i m1 μ) 4 m1 4) (cs_70 i m1 μ))) 1 0 2))) → ci_69 i (cs_72 i (cs_117 10 ((cs_70 i m1 μ) 34 i 0) 0 0 ((cs_70 i m1 μ) 4 m1 3) ((cs_70 i m1 μ) 4 m1 4) (cs_70 i m1 μ)))) ∧ ((¬ ((¬ ((μ 34 i 11) = 1)) ∨ ((¬ ((μ 4 m1 3) = (μ 16 0 (((μ 34 i 10) : Int32).toNatClampNeg)))) ∨ (¬ ((μ 4 m1 4) = (μ 34 i 7)))))) → (¬ (((cs_72 i (cs_117 10 ((cs_70 i m1 μ) 34 i 0) 0 0 ((cs_70 i m1 μ) 4 m1 3) ((cs_70 i m1 μ) 4 m1 4) (cs_70 i m1 μ))) 4 m1 6) = ((cs_72 i (cs_117 10 ((cs_70 i m1 μ) 34 i 0) 0 0 ((cs_70 i m1 μ) 4 m1 3) ((cs_70 i m1 μ) 4 m1 4) (cs_70 i m1 μ))) 1 0 2))) → ((cv_69 i (cs_72 i (cs_117 10 ((cs_70 i m1 μ) 34 i 0) 0 0 ((cs_70 i m1 μ) 4 m1 3) ((cs_70 i m1 μ) 4 m1 4) (cs_70 i m1 μ)))) = 1) → ci_61 i (((cs_72 i (cs_117 10 ((cs_70 i m1 μ) 34 i 0) 0 0 ((cs_70 i m1 μ) 4 m1 3) ((cs_70 i m1 μ) 4 m1 4) (cs_70 i m1 μ))) 34 i 10) + 1) (tm_wr (cs_72 i (cs_117 10 ((cs_70 i m1 μ) 34 i 0) 0 0 ((cs_70 i m1 μ) 4 m1 3) ((cs_70 i m1 μ) 4 m1 4) (cs_70 i m1 μ))) 34 i 11 (cv_69 i (cs_72 i (cs_117 10 ((cs_70 i m1 μ) 34 i 0) 0 0 ((cs_70 i m1 μ) 4 m1 3) ((cs_70 i m1 μ) 4 m1 4) (cs_70 i m1 μ))))))
set_option maxHeartbeats 4000000 in
set_option maxRecDepth 10000 in
theorem tf_63 {i : Nat} {m1 : Nat} (hi : ci_63 i m1 μ) (h : Q none (cs_63 i m1 μ)) : xm_MW (tm_I L xs) (d + 4) 63 [.inr (some (34, i)), .inr (some (4, m1))] μ Q := by
  refine xr_in2 [some (.inr (some (34, i))), some (.inr (some (4, m1)))] rfl rfl ?_
  unfold cs_63 at h
  unfold ci_63 at hi
  suffices hE1 : (((¬ ((μ 34 i 11) = 1)) ∨ ((¬ ((μ 4 m1 3) = (μ 16 0 (((μ 34 i 10) : Int32).toNatClampNeg)))) ∨ (¬ ((μ 4 m1 4) = (μ 34 i 7))))) → xr_t (tm_I L xs) (d + 3) 63 38 [some (.inr (some (34, i))), some (.inr (some (4, m1)))] [] μ Q) ∧ (¬ ((¬ ((μ 34 i 11) = 1)) ∨ ((¬ ((μ 4 m1 3) = (μ 16 0 (((μ 34 i 10) : Int32).toNatClampNeg)))) ∨ (¬ ((μ 4 m1 4) = (μ 34 i 7))))) → xr_t (tm_I L xs) (d + 3) 63 39 [some (.inr (some (34, i))), some (.inr (some (4, m1)))] [] μ Q) by
    refine xr_br 4 (c := (μ 34 i 11) = 1) inferInstance (a := 8) (b := 38) (ls' := [some (.inr (some (34, i))), some (.inr (some (4, m1)))]) (st' := []) (s' := μ) rfl (fun c1 => ?_) (fun c1 => ?_)
    · skip
      refine xr_go 7 (pc' := 23) (ls' := [some (.inr (some (34, i))), some (.inr (some (4, m1)))]) (st' := [.inl (μ 34 i 10), .inr (some (16, 0)), .inl (μ 4 m1 3)]) (s' := μ) rfl ?_
      refine xr_ial (n := 4) rfl rfl (hi.1 c1) ?_
      refine xr_br 1 (c := (μ 4 m1 3) = (μ 16 0 (((μ 34 i 10) : Int32).toNatClampNeg))) inferInstance (a := 27) (b := 38) (ls' := [some (.inr (some (34, i))), some (.inr (some (4, m1)))]) (st' := []) (s' := μ) rfl (fun c2 => ?_) (fun c2 => ?_)
      · skip
        refine xr_br 5 (c := (μ 4 m1 4) = (μ 34 i 7)) inferInstance (a := 39) (b := 38) (ls' := [some (.inr (some (34, i))), some (.inr (some (4, m1)))]) (st' := []) (s' := μ) rfl (fun c3 => ?_) (fun c3 => ?_)
        · skip
          exact hE1.2 (fun z => z.elim (fun w => w c1) (fun z => z.elim (fun w => w c2) (fun z => z c3)))
        · skip
          exact hE1.1 (Or.inr (Or.inr c3))
      · skip
        exact hE1.1 (Or.inr (Or.inl c2))
    · skip
      exact hE1.1 (Or.inl c1)
  refine ⟨fun c4 => ?_, fun c4 => ?_⟩
  · skip
    try simp only [if_pos c4] at h
    exact xr_rt (v := none) rfl h
  · skip
    refine xr_go 2 (pc' := 41) (ls' := [some (.inr (some (34, i))), some (.inr (some (4, m1)))]) (st' := [.inr (some (4, m1)), .inr (some (34, i))]) (s' := μ) rfl ?_
    refine xr_cl (y' := 70) (as := [.inr (some (34, i)), .inr (some (4, m1))]) (r := []) rfl rfl ?_
    refine tf_70 (d := d + 2) (μ := μ) (i := i) (m1 := m1) (hi.2.1 c4) ?_
    show xr_t (tm_I L xs) (d + 3) 63 44 [some (.inr (some (34, i))), some (.inr (some (4, m1)))] [] (cs_70 i m1 μ) Q
    generalize gμ1 : (cs_70 i m1 μ) = μ1 at h hi ⊢
    refine xr_go 11 (pc' := 64) (ls' := [some (.inr (some (34, i))), some (.inr (some (4, m1)))]) (st' := [.inl (μ1 4 m1 4), .inl (μ1 4 m1 3), .inl 0, .inl 0, .inl (μ1 34 i 0), .inl 10, .inr (some (2, 0))]) (s' := μ1) rfl ?_
    refine xr_cl (y' := 117) (as := [.inr (some (2, 0)), .inl 10, .inl (μ1 34 i 0), .inl 0, .inl 0, .inl (μ1 4 m1 3), .inl (μ1 4 m1 4)]) (r := []) rfl rfl ?_
    refine tf_117 (d := d + 2) (μ := μ1) (a1 := 10) (a2 := (μ1 34 i 0)) (a3 := 0) (a4 := 0) (a5 := (μ1 4 m1 3)) (a6 := (μ1 4 m1 4)) (hi.2.2.1 c4) ?_
    show xr_t (tm_I L xs) (d + 3) 63 67 [some (.inr (some (34, i))), some (.inr (some (4, m1)))] [.inr (some (4, (cv_117 10 (μ1 34 i 0) 0 0 (μ1 4 m1 3) (μ1 4 m1 4) μ1)))] (cs_117 10 (μ1 34 i 0) 0 0 (μ1 4 m1 3) (μ1 4 m1 4) μ1) Q
    generalize gv2 : (cv_117 10 (μ1 34 i 0) 0 0 (μ1 4 m1 3) (μ1 4 m1 4) μ1) = v2 at h hi ⊢
    generalize gμ3 : (cs_117 10 (μ1 34 i 0) 0 0 (μ1 4 m1 3) (μ1 4 m1 4) μ1) = μ3 at h hi ⊢
    refine xr_go 2 (pc' := 69) (ls' := [some (.inr (some (34, i))), some (.inr (some (4, m1)))]) (st' := [.inr (some (34, i))]) (s' := μ3) rfl ?_
    refine xr_cl (y' := 72) (as := [.inr (some (34, i))]) (r := []) rfl rfl ?_
    refine tf_72 (d := d + 2) (μ := μ3) (i := i) ?_
    show xr_t (tm_I L xs) (d + 3) 63 72 [some (.inr (some (34, i))), some (.inr (some (4, m1)))] [] (cs_72 i μ3) Q
    generalize gμ4 : (cs_72 i μ3) = μ4 at h hi ⊢
    refine xr_br 6 (c := (μ4 4 m1 6) = (μ4 1 0 2)) inferInstance (a := 86) (b := 115) (ls' := [some (.inr (some (34, i))), some (.inr (some (4, m1)))]) (st' := []) (s' := μ4) rfl (fun c5 => ?_) (fun c5 => ?_)
    · skip
      refine xr_go 8 (pc' := 98) (ls' := [some (.inr (some (34, i))), some (.inr (some (4, m1)))]) (st' := [.inr (some (34, i)), .inr (some (34, i))]) (s' := (tm_wr μ4 34 i 7 ((μ4 34 i 7) + 1))) rfl ?_
      refine xr_cl (y' := 67) (as := [.inr (some (34, i))]) (r := [.inr (some (34, i))]) rfl rfl ?_
      refine tf_67 (d := d + 2) (μ := (tm_wr μ4 34 i 7 ((μ4 34 i 7) + 1))) (i := i) ?_
      show xr_t (tm_I L xs) (d + 3) 63 101 [some (.inr (some (34, i))), some (.inr (some (4, m1)))] [.inl (cv_67 i (tm_wr μ4 34 i 7 ((μ4 34 i 7) + 1))), .inr (some (34, i))] (tm_wr μ4 34 i 7 ((μ4 34 i 7) + 1)) Q
      generalize gv5 : (cv_67 i (tm_wr μ4 34 i 7 ((μ4 34 i 7) + 1))) = v5 at h hi ⊢
      suffices hj6 : xr_t (tm_I L xs) (d + 3) 63 111 [some (.inr (some (34, i))), some (.inr (some (4, m1)))] [.inl ((if v5 ≤ 40 then 1 else 4) : Int32), .inr (some (34, i))] (tm_wr μ4 34 i 7 ((μ4 34 i 7) + 1)) Q by
        refine xr_br 2 (c := v5 ≤ 40) inferInstance (a := 110) (b := 106) (ls' := [some (.inr (some (34, i))), some (.inr (some (4, m1)))]) (st' := [.inr (some (34, i))]) (s' := (tm_wr μ4 34 i 7 ((μ4 34 i 7) + 1))) rfl (fun c6 => ?_) (fun c6 => ?_)
        · skip
          refine xr_go 1 (pc' := 111) (ls' := [some (.inr (some (34, i))), some (.inr (some (4, m1)))]) (st' := [.inl 1, .inr (some (34, i))]) (s' := (tm_wr μ4 34 i 7 ((μ4 34 i 7) + 1))) rfl ?_
          have ehj6 : ((if v5 ≤ 40 then 1 else 4) : Int32) = 1 := by first | rfl | simp only [if_pos c6]
          rw [ehj6] at hj6
          exact hj6
        · skip
          refine xr_go 2 (pc' := 111) (ls' := [some (.inr (some (34, i))), some (.inr (some (4, m1)))]) (st' := [.inl 4, .inr (some (34, i))]) (s' := (tm_wr μ4 34 i 7 ((μ4 34 i 7) + 1))) rfl ?_
          have ehj6 : ((if v5 ≤ 40 then 1 else 4) : Int32) = 4 := by first | rfl | simp only [if_neg c6]
          rw [ehj6] at hj6
          exact hj6
      refine xr_go 1 (pc' := 114) (ls' := [some (.inr (some (34, i))), some (.inr (some (4, m1)))]) (st' := []) (s' := (tm_wr (tm_wr μ4 34 i 7 ((μ4 34 i 7) + 1)) 34 i 11 ((if v5 ≤ 40 then 1 else 4) : Int32))) rfl ?_
      try simp only [if_neg c4, if_pos c5] at h
      exact xr_rt (v := none) rfl h
    · skip
      refine xr_go 2 (pc' := 117) (ls' := [some (.inr (some (34, i))), some (.inr (some (4, m1)))]) (st' := [.inr (some (34, i)), .inr (some (34, i))]) (s' := μ4) rfl ?_
      refine xr_cl (y' := 69) (as := [.inr (some (34, i))]) (r := [.inr (some (34, i))]) rfl rfl ?_
      refine tf_69 (d := d + 1) (μ := μ4) (i := i) (hi.2.2.2.1 c4 c5) ?_
      show xr_t (tm_I L xs) (d + 3) 63 120 [some (.inr (some (34, i))), some (.inr (some (4, m1)))] [.inl (cv_69 i μ4), .inr (some (34, i))] μ4 Q
      generalize gv6 : (cv_69 i μ4) = v6 at h hi ⊢
      refine xr_go 2 (pc' := 124) (ls' := [some (.inr (some (34, i))), some (.inr (some (4, m1)))]) (st' := [.inr (some (34, i))]) (s' := (tm_wr μ4 34 i 11 v6)) rfl ?_
      refine xr_gfv (x := v6) rfl rfl (by rw [tm_wr_s]) ?_
      refine xr_br 2 (c := v6 = 1) inferInstance (a := 131) (b := 141) (ls' := [some (.inr (some (34, i))), some (.inr (some (4, m1)))]) (st' := []) (s' := (tm_wr μ4 34 i 11 v6)) rfl (fun c7 => ?_) (fun c7 => ?_)
      · skip
        refine xr_go 5 (pc' := 138) (ls' := [some (.inr (some (34, i))), some (.inr (some (4, m1)))]) (st' := [.inl ((μ4 34 i 10) + 1), .inr (some (34, i))]) (s' := (tm_wr μ4 34 i 11 v6)) rfl ?_
        refine xr_cl (y' := 61) (as := [.inr (some (34, i)), .inl ((μ4 34 i 10) + 1)]) (r := []) rfl rfl ?_
        refine tf_61 (d := d + 0) (μ := (tm_wr μ4 34 i 11 v6)) (i := i) (a1 := ((μ4 34 i 10) + 1)) (hi.2.2.2.2 c4 c5 c7) ?_
        show xr_t (tm_I L xs) (d + 3) 63 141 [some (.inr (some (34, i))), some (.inr (some (4, m1)))] [] (cs_61 i ((μ4 34 i 10) + 1) (tm_wr μ4 34 i 11 v6)) Q
        generalize gμ8 : (cs_61 i ((μ4 34 i 10) + 1) (tm_wr μ4 34 i 11 v6)) = μ8 at h hi ⊢
        try simp only [if_neg c4, if_neg c5, if_pos c7] at h
        exact xr_rt (v := none) rfl h
      · skip
        try simp only [if_neg c4, if_neg c5, if_neg c7] at h
        exact xr_rt (v := none) rfl h
-- BootNet$Loading.onError(LBootNet$Message;)V
def cs_64 (i : Nat) (m1 : Nat) (μ : tm_M) : tm_M := (if (¬ ((μ 34 i 11) = 1)) ∨ (¬ ((μ 4 m1 3) = (μ 16 0 (((μ 34 i 10) : Int32).toNatClampNeg)))) then μ else (tm_wr μ 34 i 11 3))
def ci_64 (i : Nat) (m1 : Nat) (μ : tm_M) : Prop := (((μ 34 i 11) = 1) → tm_ix (μ 34 i 10) 4 = true)
set_option maxHeartbeats 4000000 in
set_option maxRecDepth 10000 in
theorem tf_64 {i : Nat} {m1 : Nat} (hi : ci_64 i m1 μ) (h : Q none (cs_64 i m1 μ)) : xm_MW (tm_I L xs) (d + 1) 64 [.inr (some (34, i)), .inr (some (4, m1))] μ Q := by
  refine xr_in2 [some (.inr (some (34, i))), some (.inr (some (4, m1)))] rfl rfl ?_
  unfold cs_64 at h
  unfold ci_64 at hi
  suffices hE1 : (((¬ ((μ 34 i 11) = 1)) ∨ (¬ ((μ 4 m1 3) = (μ 16 0 (((μ 34 i 10) : Int32).toNatClampNeg))))) → xr_t (tm_I L xs) (d + 0) 64 32 [some (.inr (some (34, i))), some (.inr (some (4, m1)))] [] μ Q) ∧ (¬ ((¬ ((μ 34 i 11) = 1)) ∨ (¬ ((μ 4 m1 3) = (μ 16 0 (((μ 34 i 10) : Int32).toNatClampNeg))))) → xr_t (tm_I L xs) (d + 0) 64 27 [some (.inr (some (34, i))), some (.inr (some (4, m1)))] [] μ Q) by
    refine xr_br 4 (c := (μ 34 i 11) = 1) inferInstance (a := 8) (b := 32) (ls' := [some (.inr (some (34, i))), some (.inr (some (4, m1)))]) (st' := []) (s' := μ) rfl (fun c1 => ?_) (fun c1 => ?_)
    · skip
      refine xr_go 7 (pc' := 23) (ls' := [some (.inr (some (34, i))), some (.inr (some (4, m1)))]) (st' := [.inl (μ 34 i 10), .inr (some (16, 0)), .inl (μ 4 m1 3)]) (s' := μ) rfl ?_
      refine xr_ial (n := 4) rfl rfl (hi c1) ?_
      refine xr_br 1 (c := (μ 4 m1 3) = (μ 16 0 (((μ 34 i 10) : Int32).toNatClampNeg))) inferInstance (a := 27) (b := 32) (ls' := [some (.inr (some (34, i))), some (.inr (some (4, m1)))]) (st' := []) (s' := μ) rfl (fun c2 => ?_) (fun c2 => ?_)
      · skip
        exact hE1.2 (fun z => z.elim (fun w => w c1) (fun z => z c2))
      · skip
        exact hE1.1 (Or.inr c2)
    · skip
      exact hE1.1 (Or.inl c1)
  refine ⟨fun c3 => ?_, fun c3 => ?_⟩
  · skip
    try simp only [if_pos c3] at h
    exact xr_rt (v := none) rfl h
  · skip
    refine xr_go 3 (pc' := 32) (ls' := [some (.inr (some (34, i))), some (.inr (some (4, m1)))]) (st' := []) (s' := (tm_wr μ 34 i 11 3)) rfl ?_
    try simp only [if_neg c3] at h
    exact xr_rt (v := none) rfl h
-- BootNet$Station.ask()V
def cs_105 (i : Nat) (μ : tm_M) : tm_M := (tm_wr (tm_wr (cs_117 2 ((cs_34 μ) 33 i 0) 0 (cv_34 μ) ((cs_34 μ) 33 i 5) 0 (tm_wr (cs_34 μ) 33 i 6 (cv_34 μ))) 33 i 7 ((cs_117 2 ((cs_34 μ) 33 i 0) 0 (cv_34 μ) ((cs_34 μ) 33 i 5) 0 (tm_wr (cs_34 μ) 33 i 6 (cv_34 μ))) 1 0 3)) 33 i 9 (((cs_117 2 ((cs_34 μ) 33 i 0) 0 (cv_34 μ) ((cs_34 μ) 33 i 5) 0 (tm_wr (cs_34 μ) 33 i 6 (cv_34 μ))) 1 0 3) + 3))
def ci_105 (i : Nat) (μ : tm_M) : Prop := (ci_117 2 ((cs_34 μ) 33 i 0) 0 (cv_34 μ) ((cs_34 μ) 33 i 5) 0 (tm_wr (cs_34 μ) 33 i 6 (cv_34 μ)))
set_option maxHeartbeats 4000000 in
set_option maxRecDepth 10000 in
theorem tf_105 {i : Nat} (hi : ci_105 i μ) (h : Q none (cs_105 i μ)) : xm_MW (tm_I L xs) (d + 2) 105 [.inr (some (33, i))] μ Q := by
  refine xr_in2 [some (.inr (some (33, i)))] rfl rfl ?_
  unfold cs_105 at h
  unfold ci_105 at hi
  refine xr_go 3 (pc' := 5) (ls' := [some (.inr (some (33, i)))]) (st' := [.inr (some (1, 0)), .inr (some (33, i))]) (s' := μ) rfl ?_
  refine xr_cl (y' := 34) (as := [.inr (some (1, 0))]) (r := [.inr (some (33, i))]) rfl rfl ?_
  refine tf_34 (d := d + 0) (μ := μ)  ?_
  show xr_t (tm_I L xs) (d + 1) 105 8 [some (.inr (some (33, i)))] [.inl (cv_34 μ), .inr (some (33, i))] (cs_34 μ) Q
  generalize gv1 : (cv_34 μ) = v1 at h hi ⊢
  generalize gμ2 : (cs_34 μ) = μ2 at h hi ⊢
  refine xr_go 8 (pc' := 22) (ls' := [some (.inr (some (33, i)))]) (st' := [.inr (some (33, i)), .inl 0, .inl (μ2 33 i 0), .inl 2, .inr (some (2, 0))]) (s' := (tm_wr μ2 33 i 6 v1)) rfl ?_
  refine xr_gfv (x := v1) rfl rfl (by rw [tm_wr_s]) ?_
  refine xr_go 3 (pc' := 30) (ls' := [some (.inr (some (33, i)))]) (st' := [.inl 0, .inl (μ2 33 i 5), .inl v1, .inl 0, .inl (μ2 33 i 0), .inl 2, .inr (some (2, 0))]) (s' := (tm_wr μ2 33 i 6 v1)) rfl ?_
  refine xr_cl (y' := 117) (as := [.inr (some (2, 0)), .inl 2, .inl (μ2 33 i 0), .inl 0, .inl v1, .inl (μ2 33 i 5), .inl 0]) (r := []) rfl rfl ?_
  refine tf_117 (d := d + 0) (μ := (tm_wr μ2 33 i 6 v1)) (a1 := 2) (a2 := (μ2 33 i 0)) (a3 := 0) (a4 := v1) (a5 := (μ2 33 i 5)) (a6 := 0) (hi) ?_
  show xr_t (tm_I L xs) (d + 1) 105 33 [some (.inr (some (33, i)))] [.inr (some (4, (cv_117 2 (μ2 33 i 0) 0 v1 (μ2 33 i 5) 0 (tm_wr μ2 33 i 6 v1))))] (cs_117 2 (μ2 33 i 0) 0 v1 (μ2 33 i 5) 0 (tm_wr μ2 33 i 6 v1)) Q
  generalize gv3 : (cv_117 2 (μ2 33 i 0) 0 v1 (μ2 33 i 5) 0 (tm_wr μ2 33 i 6 v1)) = v3 at h hi ⊢
  generalize gμ4 : (cs_117 2 (μ2 33 i 0) 0 v1 (μ2 33 i 5) 0 (tm_wr μ2 33 i 6 v1)) = μ4 at h hi ⊢
  refine xr_go 13 (pc' := 58) (ls' := [some (.inr (some (33, i)))]) (st' := []) (s' := (tm_wr (tm_wr μ4 33 i 7 (μ4 1 0 3)) 33 i 9 ((μ4 1 0 3) + 3))) rfl ?_
  exact xr_rt (v := none) rfl h
-- BootNet$Station.onOffer(LBootNet$Message;)V
def cs_110 (i : Nat) (m1 : Nat) (μ : tm_M) : tm_M := (if (¬ ((μ 33 i 4) = 1)) ∨ (¬ ((μ 4 m1 2) = (μ 33 i 6))) then μ else (cs_105 i (tm_wr (tm_wr (tm_wr μ 33 i 5 (μ 4 m1 3)) 33 i 4 2) 33 i 10 1)))
def ci_110 (i : Nat) (m1 : Nat) (μ : tm_M) : Prop := ((¬ ((¬ ((μ 33 i 4) = 1)) ∨ (¬ ((μ 4 m1 2) = (μ 33 i 6))))) → ci_105 i (tm_wr (tm_wr (tm_wr μ 33 i 5 (μ 4 m1 3)) 33 i 4 2) 33 i 10 1))
set_option maxHeartbeats 4000000 in
set_option maxRecDepth 10000 in
theorem tf_110 {i : Nat} {m1 : Nat} (hi : ci_110 i m1 μ) (h : Q none (cs_110 i m1 μ)) : xm_MW (tm_I L xs) (d + 3) 110 [.inr (some (33, i)), .inr (some (4, m1))] μ Q := by
  refine xr_in2 [some (.inr (some (33, i))), some (.inr (some (4, m1)))] rfl rfl ?_
  unfold cs_110 at h
  unfold ci_110 at hi
  suffices hE1 : (((¬ ((μ 33 i 4) = 1)) ∨ (¬ ((μ 4 m1 2) = (μ 33 i 6)))) → xr_t (tm_I L xs) (d + 2) 110 41 [some (.inr (some (33, i))), some (.inr (some (4, m1)))] [] μ Q) ∧ (¬ ((¬ ((μ 33 i 4) = 1)) ∨ (¬ ((μ 4 m1 2) = (μ 33 i 6)))) → xr_t (tm_I L xs) (d + 2) 110 19 [some (.inr (some (33, i))), some (.inr (some (4, m1)))] [] μ Q) by
    refine xr_br 4 (c := (μ 33 i 4) = 1) inferInstance (a := 8) (b := 41) (ls' := [some (.inr (some (33, i))), some (.inr (some (4, m1)))]) (st' := []) (s' := μ) rfl (fun c1 => ?_) (fun c1 => ?_)
    · skip
      refine xr_br 5 (c := (μ 4 m1 2) = (μ 33 i 6)) inferInstance (a := 19) (b := 41) (ls' := [some (.inr (some (33, i))), some (.inr (some (4, m1)))]) (st' := []) (s' := μ) rfl (fun c2 => ?_) (fun c2 => ?_)
      · skip
        exact hE1.2 (fun z => z.elim (fun w => w c1) (fun z => z c2))
      · skip
        exact hE1.1 (Or.inr c2)
    · skip
      exact hE1.1 (Or.inl c1)
  refine ⟨fun c3 => ?_, fun c3 => ?_⟩
  · skip
    try simp only [if_pos c3] at h
    exact xr_rt (v := none) rfl h
  · skip
    refine xr_go 11 (pc' := 38) (ls' := [some (.inr (some (33, i))), some (.inr (some (4, m1)))]) (st' := [.inr (some (33, i))]) (s' := (tm_wr (tm_wr (tm_wr μ 33 i 5 (μ 4 m1 3)) 33 i 4 2) 33 i 10 1)) rfl ?_
    refine xr_cl (y' := 105) (as := [.inr (some (33, i))]) (r := []) rfl rfl ?_
    refine tf_105 (d := d + 0) (μ := (tm_wr (tm_wr (tm_wr μ 33 i 5 (μ 4 m1 3)) 33 i 4 2) 33 i 10 1)) (i := i) (hi c3) ?_
    show xr_t (tm_I L xs) (d + 2) 110 41 [some (.inr (some (33, i))), some (.inr (some (4, m1)))] [] (cs_105 i (tm_wr (tm_wr (tm_wr μ 33 i 5 (μ 4 m1 3)) 33 i 4 2) 33 i 10 1)) Q
    generalize gμ3 : (cs_105 i (tm_wr (tm_wr (tm_wr μ 33 i 5 (μ 4 m1 3)) 33 i 4 2) 33 i 10 1)) = μ3 at h hi ⊢
    try simp only [if_neg c3] at h
    exact xr_rt (v := none) rfl h
-- BootNet$Station.onAck(LBootNet$Message;)V
def cs_111 (i : Nat) (m1 : Nat) (μ : tm_M) : tm_M := (if (¬ ((μ 4 m1 2) = (μ 33 i 6))) ∨ (¬ ((μ 4 m1 3) = (μ 33 i 5))) then μ else (if (μ 33 i 4) = 2 then (tm_wr (cs_117 6 (μ 33 i 0) 0 0 (μ 33 i 5) 0 (tm_wr (tm_wr μ 33 i 8 ((μ 33 i 7) + (μ 1 0 0))) 33 i 4 3)) 33 i 9 (((cs_117 6 (μ 33 i 0) 0 0 (μ 33 i 5) 0 (tm_wr (tm_wr μ 33 i 8 ((μ 33 i 7) + (μ 1 0 0))) 33 i 4 3)) 1 0 3) + 3)) else (if ((μ 33 i 4) = 5) ∨ ((μ 33 i 4) = 6) then (tm_wr (tm_wr μ 33 i 8 ((μ 33 i 7) + (μ 1 0 0))) 33 i 4 4) else μ)))
def ci_111 (i : Nat) (m1 : Nat) (μ : tm_M) : Prop := ((¬ ((¬ ((μ 4 m1 2) = (μ 33 i 6))) ∨ (¬ ((μ 4 m1 3) = (μ 33 i 5))))) → ((μ 33 i 4) = 2) → ci_117 6 (μ 33 i 0) 0 0 (μ 33 i 5) 0 (tm_wr (tm_wr μ 33 i 8 ((μ 33 i 7) + (μ 1 0 0))) 33 i 4 3))
set_option maxHeartbeats 4000000 in
set_option maxRecDepth 10000 in
theorem tf_111 {i : Nat} {m1 : Nat} (hi : ci_111 i m1 μ) (h : Q none (cs_111 i m1 μ)) : xm_MW (tm_I L xs) (d + 2) 111 [.inr (some (33, i)), .inr (some (4, m1))] μ Q := by
  refine xr_in2 [some (.inr (some (33, i))), some (.inr (some (4, m1)))] rfl rfl ?_
  unfold cs_111 at h
  unfold ci_111 at hi
  suffices hE1 : (((¬ ((μ 4 m1 2) = (μ 33 i 6))) ∨ (¬ ((μ 4 m1 3) = (μ 33 i 5)))) → xr_t (tm_I L xs) (d + 1) 111 22 [some (.inr (some (33, i))), some (.inr (some (4, m1)))] [] μ Q) ∧ (¬ ((¬ ((μ 4 m1 2) = (μ 33 i 6))) ∨ (¬ ((μ 4 m1 3) = (μ 33 i 5)))) → xr_t (tm_I L xs) (d + 1) 111 23 [some (.inr (some (33, i))), some (.inr (some (4, m1)))] [] μ Q) by
    refine xr_br 5 (c := (μ 4 m1 2) = (μ 33 i 6)) inferInstance (a := 11) (b := 22) (ls' := [some (.inr (some (33, i))), some (.inr (some (4, m1)))]) (st' := []) (s' := μ) rfl (fun c1 => ?_) (fun c1 => ?_)
    · skip
      refine xr_br 5 (c := (μ 4 m1 3) = (μ 33 i 5)) inferInstance (a := 23) (b := 22) (ls' := [some (.inr (some (33, i))), some (.inr (some (4, m1)))]) (st' := []) (s' := μ) rfl (fun c2 => ?_) (fun c2 => ?_)
      · skip
        exact hE1.2 (fun z => z.elim (fun w => w c1) (fun z => z c2))
      · skip
        exact hE1.1 (Or.inr c2)
    · skip
      exact hE1.1 (Or.inl c1)
  refine ⟨fun c3 => ?_, fun c3 => ?_⟩
  · skip
    try simp only [if_pos c3] at h
    exact xr_rt (v := none) rfl h
  · skip
    refine xr_br 4 (c := (μ 33 i 4) = 2) inferInstance (a := 31) (b := 89) (ls' := [some (.inr (some (33, i))), some (.inr (some (4, m1)))]) (st' := []) (s' := μ) rfl (fun c4 => ?_) (fun c4 => ?_)
    · skip
      refine xr_go 21 (pc' := 69) (ls' := [some (.inr (some (33, i))), some (.inr (some (4, m1)))]) (st' := [.inl 0, .inl (μ 33 i 5), .inl 0, .inl 0, .inl (μ 33 i 0), .inl 6, .inr (some (2, 0))]) (s' := (tm_wr (tm_wr μ 33 i 8 ((μ 33 i 7) + (μ 1 0 0))) 33 i 4 3)) rfl ?_
      refine xr_cl (y' := 117) (as := [.inr (some (2, 0)), .inl 6, .inl (μ 33 i 0), .inl 0, .inl 0, .inl (μ 33 i 5), .inl 0]) (r := []) rfl rfl ?_
      refine tf_117 (d := d + 0) (μ := (tm_wr (tm_wr μ 33 i 8 ((μ 33 i 7) + (μ 1 0 0))) 33 i 4 3)) (a1 := 6) (a2 := (μ 33 i 0)) (a3 := 0) (a4 := 0) (a5 := (μ 33 i 5)) (a6 := 0) (hi c3 c4) ?_
      show xr_t (tm_I L xs) (d + 1) 111 72 [some (.inr (some (33, i))), some (.inr (some (4, m1)))] [.inr (some (4, (cv_117 6 (μ 33 i 0) 0 0 (μ 33 i 5) 0 (tm_wr (tm_wr μ 33 i 8 ((μ 33 i 7) + (μ 1 0 0))) 33 i 4 3))))] (cs_117 6 (μ 33 i 0) 0 0 (μ 33 i 5) 0 (tm_wr (tm_wr μ 33 i 8 ((μ 33 i 7) + (μ 1 0 0))) 33 i 4 3)) Q
      generalize gv2 : (cv_117 6 (μ 33 i 0) 0 0 (μ 33 i 5) 0 (tm_wr (tm_wr μ 33 i 8 ((μ 33 i 7) + (μ 1 0 0))) 33 i 4 3)) = v2 at h hi ⊢
      generalize gμ3 : (cs_117 6 (μ 33 i 0) 0 0 (μ 33 i 5) 0 (tm_wr (tm_wr μ 33 i 8 ((μ 33 i 7) + (μ 1 0 0))) 33 i 4 3)) = μ3 at h hi ⊢
      refine xr_go 9 (pc' := 127) (ls' := [some (.inr (some (33, i))), some (.inr (some (4, m1)))]) (st' := []) (s' := (tm_wr μ3 33 i 9 ((μ3 1 0 3) + 3))) rfl ?_
      try simp only [if_neg c3, if_pos c4] at h
      exact xr_rt (v := none) rfl h
    · skip
      suffices hE5 : ((((μ 33 i 4) = 5) ∨ ((μ 33 i 4) = 6)) → xr_t (tm_I L xs) (d + 1) 111 106 [some (.inr (some (33, i))), some (.inr (some (4, m1)))] [] μ Q) ∧ (¬ (((μ 33 i 4) = 5) ∨ ((μ 33 i 4) = 6)) → xr_t (tm_I L xs) (d + 1) 111 127 [some (.inr (some (33, i))), some (.inr (some (4, m1)))] [] μ Q) by
        refine xr_br 4 (c := (μ 33 i 4) = 5) inferInstance (a := 106) (b := 97) (ls' := [some (.inr (some (33, i))), some (.inr (some (4, m1)))]) (st' := []) (s' := μ) rfl (fun c5 => ?_) (fun c5 => ?_)
        · skip
          exact hE5.1 (Or.inl c5)
        · skip
          refine xr_br 4 (c := (μ 33 i 4) = 6) inferInstance (a := 106) (b := 127) (ls' := [some (.inr (some (33, i))), some (.inr (some (4, m1)))]) (st' := []) (s' := μ) rfl (fun c6 => ?_) (fun c6 => ?_)
          · skip
            exact hE5.1 (Or.inr c6)
          · skip
            exact hE5.2 (fun z => z.elim c5 c6)
      refine ⟨fun c7 => ?_, fun c7 => ?_⟩
      · skip
        refine xr_go 11 (pc' := 127) (ls' := [some (.inr (some (33, i))), some (.inr (some (4, m1)))]) (st' := []) (s' := (tm_wr (tm_wr μ 33 i 8 ((μ 33 i 7) + (μ 1 0 0))) 33 i 4 4)) rfl ?_
        try simp only [if_neg c3, if_neg c4, if_pos c7] at h
        exact xr_rt (v := none) rfl h
      · skip
        try simp only [if_neg c3, if_neg c4, if_neg c7] at h
        exact xr_rt (v := none) rfl h
-- BootNet$Station.onNak(LBootNet$Message;)V
def cs_112 (i : Nat) (m1 : Nat) (μ : tm_M) : tm_M := (if (((if (μ 33 i 4) = 2 then 1 else ((if (μ 33 i 4) = 5 then 1 else ((if (μ 33 i 4) = 6 then 1 else 0) : Int32)) : Int32)) : Int32) = 0) ∨ (¬ ((μ 4 m1 2) = (μ 33 i 6))) then μ else (cs_103 i μ))
def ci_112 (i : Nat) (m1 : Nat) (μ : tm_M) : Prop := ((¬ ((((if (μ 33 i 4) = 2 then 1 else ((if (μ 33 i 4) = 5 then 1 else ((if (μ 33 i 4) = 6 then 1 else 0) : Int32)) : Int32)) : Int32) = 0) ∨ (¬ ((μ 4 m1 2) = (μ 33 i 6))))) → ci_103 i μ)
set_option maxHeartbeats 4000000 in
set_option maxRecDepth 10000 in
theorem tf_112 {i : Nat} {m1 : Nat} (hi : ci_112 i m1 μ) (h : Q none (cs_112 i m1 μ)) : xm_MW (tm_I L xs) (d + 4) 112 [.inr (some (33, i)), .inr (some (4, m1))] μ Q := by
  refine xr_in2 [some (.inr (some (33, i))), some (.inr (some (4, m1))), none] rfl rfl ?_
  unfold cs_112 at h
  unfold ci_112 at hi
  suffices hj1 : xr_t (tm_I L xs) (d + 3) 112 30 [some (.inr (some (33, i))), some (.inr (some (4, m1))), none] [.inl ((if (μ 33 i 4) = 2 then 1 else ((if (μ 33 i 4) = 5 then 1 else ((if (μ 33 i 4) = 6 then 1 else 0) : Int32)) : Int32)) : Int32)] μ Q by
    refine xr_br 4 (c := (μ 33 i 4) = 2) inferInstance (a := 25) (b := 8) (ls' := [some (.inr (some (33, i))), some (.inr (some (4, m1))), none]) (st' := []) (s' := μ) rfl (fun c1 => ?_) (fun c1 => ?_)
    · skip
      refine xr_go 2 (pc' := 30) (ls' := [some (.inr (some (33, i))), some (.inr (some (4, m1))), none]) (st' := [.inl 1]) (s' := μ) rfl ?_
      have ehj1 : ((if (μ 33 i 4) = 2 then 1 else ((if (μ 33 i 4) = 5 then 1 else ((if (μ 33 i 4) = 6 then 1 else 0) : Int32)) : Int32)) : Int32) = 1 := by first | rfl | simp only [if_pos c1]
      rw [ehj1] at hj1
      exact hj1
    · skip
      suffices hj2 : xr_t (tm_I L xs) (d + 3) 112 30 [some (.inr (some (33, i))), some (.inr (some (4, m1))), none] [.inl ((if (μ 33 i 4) = 5 then 1 else ((if (μ 33 i 4) = 6 then 1 else 0) : Int32)) : Int32)] μ Q by
        refine xr_br 4 (c := (μ 33 i 4) = 5) inferInstance (a := 25) (b := 16) (ls' := [some (.inr (some (33, i))), some (.inr (some (4, m1))), none]) (st' := []) (s' := μ) rfl (fun c2 => ?_) (fun c2 => ?_)
        · skip
          refine xr_go 2 (pc' := 30) (ls' := [some (.inr (some (33, i))), some (.inr (some (4, m1))), none]) (st' := [.inl 1]) (s' := μ) rfl ?_
          have ehj2 : ((if (μ 33 i 4) = 5 then 1 else ((if (μ 33 i 4) = 6 then 1 else 0) : Int32)) : Int32) = 1 := by first | rfl | simp only [if_pos c2]
          rw [ehj2] at hj2
          exact hj2
        · skip
          suffices hj3 : xr_t (tm_I L xs) (d + 3) 112 30 [some (.inr (some (33, i))), some (.inr (some (4, m1))), none] [.inl ((if (μ 33 i 4) = 6 then 1 else 0) : Int32)] μ Q by
            refine xr_br 4 (c := (μ 33 i 4) = 6) inferInstance (a := 25) (b := 29) (ls' := [some (.inr (some (33, i))), some (.inr (some (4, m1))), none]) (st' := []) (s' := μ) rfl (fun c3 => ?_) (fun c3 => ?_)
            · skip
              refine xr_go 2 (pc' := 30) (ls' := [some (.inr (some (33, i))), some (.inr (some (4, m1))), none]) (st' := [.inl 1]) (s' := μ) rfl ?_
              have ehj3 : ((if (μ 33 i 4) = 6 then 1 else 0) : Int32) = 1 := by first | rfl | simp only [if_pos c3]
              rw [ehj3] at hj3
              exact hj3
            · skip
              refine xr_go 1 (pc' := 30) (ls' := [some (.inr (some (33, i))), some (.inr (some (4, m1))), none]) (st' := [.inl 0]) (s' := μ) rfl ?_
              have ehj3 : ((if (μ 33 i 4) = 6 then 1 else 0) : Int32) = 0 := by first | rfl | simp only [if_neg c3]
              rw [ehj3] at hj3
              exact hj3
          have ehj2 : ((if (μ 33 i 4) = 5 then 1 else ((if (μ 33 i 4) = 6 then 1 else 0) : Int32)) : Int32) = ((if (μ 33 i 4) = 6 then 1 else 0) : Int32) := by first | rfl | simp only [if_neg c2]
          rw [ehj2] at hj2
          exact hj2
      have ehj1 : ((if (μ 33 i 4) = 2 then 1 else ((if (μ 33 i 4) = 5 then 1 else ((if (μ 33 i 4) = 6 then 1 else 0) : Int32)) : Int32)) : Int32) = ((if (μ 33 i 4) = 5 then 1 else ((if (μ 33 i 4) = 6 then 1 else 0) : Int32)) : Int32) := by first | rfl | simp only [if_neg c1]
      rw [ehj1] at hj1
      exact hj1
  suffices hE4 : (((((if (μ 33 i 4) = 2 then 1 else ((if (μ 33 i 4) = 5 then 1 else ((if (μ 33 i 4) = 6 then 1 else 0) : Int32)) : Int32)) : Int32) = 0) ∨ (¬ ((μ 4 m1 2) = (μ 33 i 6)))) → xr_t (tm_I L xs) (d + 3) 112 50 [some (.inr (some (33, i))), some (.inr (some (4, m1))), some (.inl ((if (μ 33 i 4) = 2 then 1 else ((if (μ 33 i 4) = 5 then 1 else ((if (μ 33 i 4) = 6 then 1 else 0) : Int32)) : Int32)) : Int32))] [] μ Q) ∧ (¬ ((((if (μ 33 i 4) = 2 then 1 else ((if (μ 33 i 4) = 5 then 1 else ((if (μ 33 i 4) = 6 then 1 else 0) : Int32)) : Int32)) : Int32) = 0) ∨ (¬ ((μ 4 m1 2) = (μ 33 i 6)))) → xr_t (tm_I L xs) (d + 3) 112 46 [some (.inr (some (33, i))), some (.inr (some (4, m1))), some (.inl ((if (μ 33 i 4) = 2 then 1 else ((if (μ 33 i 4) = 5 then 1 else ((if (μ 33 i 4) = 6 then 1 else 0) : Int32)) : Int32)) : Int32))] [] μ Q) by
    refine xr_br 3 (c := ((if (μ 33 i 4) = 2 then 1 else ((if (μ 33 i 4) = 5 then 1 else ((if (μ 33 i 4) = 6 then 1 else 0) : Int32)) : Int32)) : Int32) = 0) inferInstance (a := 50) (b := 35) (ls' := [some (.inr (some (33, i))), some (.inr (some (4, m1))), some (.inl ((if (μ 33 i 4) = 2 then 1 else ((if (μ 33 i 4) = 5 then 1 else ((if (μ 33 i 4) = 6 then 1 else 0) : Int32)) : Int32)) : Int32))]) (st' := []) (s' := μ) rfl (fun c4 => ?_) (fun c4 => ?_)
    · skip
      exact hE4.1 (Or.inl c4)
    · skip
      refine xr_br 5 (c := (μ 4 m1 2) = (μ 33 i 6)) inferInstance (a := 46) (b := 50) (ls' := [some (.inr (some (33, i))), some (.inr (some (4, m1))), some (.inl ((if (μ 33 i 4) = 2 then 1 else ((if (μ 33 i 4) = 5 then 1 else ((if (μ 33 i 4) = 6 then 1 else 0) : Int32)) : Int32)) : Int32))]) (st' := []) (s' := μ) rfl (fun c5 => ?_) (fun c5 => ?_)
      · skip
        exact hE4.2 (fun z => z.elim c4 (fun z => z c5))
      · skip
        exact hE4.1 (Or.inr c5)
  refine ⟨fun c6 => ?_, fun c6 => ?_⟩
  · skip
    try simp only [if_pos c6] at h
    exact xr_rt (v := none) rfl h
  · skip
    refine xr_go 1 (pc' := 47) (ls' := [some (.inr (some (33, i))), some (.inr (some (4, m1))), some (.inl ((if (μ 33 i 4) = 2 then 1 else ((if (μ 33 i 4) = 5 then 1 else ((if (μ 33 i 4) = 6 then 1 else 0) : Int32)) : Int32)) : Int32))]) (st' := [.inr (some (33, i))]) (s' := μ) rfl ?_
    refine xr_cl (y' := 103) (as := [.inr (some (33, i))]) (r := []) rfl rfl ?_
    refine tf_103 (d := d + 0) (μ := μ) (i := i) (hi c6) ?_
    show xr_t (tm_I L xs) (d + 3) 112 50 [some (.inr (some (33, i))), some (.inr (some (4, m1))), some (.inl ((if (μ 33 i 4) = 2 then 1 else ((if (μ 33 i 4) = 5 then 1 else ((if (μ 33 i 4) = 6 then 1 else 0) : Int32)) : Int32)) : Int32))] [] (cs_103 i μ) Q
    generalize gμ1 : (cs_103 i μ) = μ1 at h hi ⊢
    try simp only [if_neg c6] at h
    exact xr_rt (v := none) rfl h
-- BootNet$Station.onHere(LBootNet$Message;)V
def cs_113 (i : Nat) (m1 : Nat) (μ : tm_M) : tm_M := (if (¬ ((μ 33 i 4) = 3)) ∨ (¬ ((μ 4 m1 3) = (μ 33 i 5))) then μ else (if (((cs_117 5 (μ 33 i 0) 0 0 (μ 33 i 5) 0 μ) 33 i 11) + 1) < ((cs_117 5 (μ 33 i 0) 0 0 (μ 33 i 5) 0 μ) 1 0 1) then (cs_103 i (tm_wr (cs_117 5 (μ 33 i 0) 0 0 (μ 33 i 5) 0 μ) 33 i 11 (((cs_117 5 (μ 33 i 0) 0 0 (μ 33 i 5) 0 μ) 33 i 11) + 1))) else (cs_106 i 8 (tm_wr (cs_117 5 (μ 33 i 0) 0 0 (μ 33 i 5) 0 μ) 33 i 11 (((cs_117 5 (μ 33 i 0) 0 0 (μ 33 i 5) 0 μ) 33 i 11) + 1)))))
def ci_113 (i : Nat) (m1 : Nat) (μ : tm_M) : Prop := ((¬ ((¬ ((μ 33 i 4) = 3)) ∨ (¬ ((μ 4 m1 3) = (μ 33 i 5))))) → ci_117 5 (μ 33 i 0) 0 0 (μ 33 i 5) 0 μ) ∧ ((¬ ((¬ ((μ 33 i 4) = 3)) ∨ (¬ ((μ 4 m1 3) = (μ 33 i 5))))) → ((((cs_117 5 (μ 33 i 0) 0 0 (μ 33 i 5) 0 μ) 33 i 11) + 1) < ((cs_117 5 (μ 33 i 0) 0 0 (μ 33 i 5) 0 μ) 1 0 1)) → ci_103 i (tm_wr (cs_117 5 (μ 33 i 0) 0 0 (μ 33 i 5) 0 μ) 33 i 11 (((cs_117 5 (μ 33 i 0) 0 0 (μ 33 i 5) 0 μ) 33 i 11) + 1)))
set_option maxHeartbeats 4000000 in
set_option maxRecDepth 10000 in
theorem tf_113 {i : Nat} {m1 : Nat} (hi : ci_113 i m1 μ) (h : Q none (cs_113 i m1 μ)) : xm_MW (tm_I L xs) (d + 4) 113 [.inr (some (33, i)), .inr (some (4, m1))] μ Q := by
  refine xr_in2 [some (.inr (some (33, i))), some (.inr (some (4, m1)))] rfl rfl ?_
  unfold cs_113 at h
  unfold ci_113 at hi
  suffices hE1 : (((¬ ((μ 33 i 4) = 3)) ∨ (¬ ((μ 4 m1 3) = (μ 33 i 5)))) → xr_t (tm_I L xs) (d + 3) 113 19 [some (.inr (some (33, i))), some (.inr (some (4, m1)))] [] μ Q) ∧ (¬ ((¬ ((μ 33 i 4) = 3)) ∨ (¬ ((μ 4 m1 3) = (μ 33 i 5)))) → xr_t (tm_I L xs) (d + 3) 113 20 [some (.inr (some (33, i))), some (.inr (some (4, m1)))] [] μ Q) by
    refine xr_br 4 (c := (μ 33 i 4) = 3) inferInstance (a := 8) (b := 19) (ls' := [some (.inr (some (33, i))), some (.inr (some (4, m1)))]) (st' := []) (s' := μ) rfl (fun c1 => ?_) (fun c1 => ?_)
    · skip
      refine xr_br 5 (c := (μ 4 m1 3) = (μ 33 i 5)) inferInstance (a := 20) (b := 19) (ls' := [some (.inr (some (33, i))), some (.inr (some (4, m1)))]) (st' := []) (s' := μ) rfl (fun c2 => ?_) (fun c2 => ?_)
      · skip
        exact hE1.2 (fun z => z.elim (fun w => w c1) (fun z => z c2))
      · skip
        exact hE1.1 (Or.inr c2)
    · skip
      exact hE1.1 (Or.inl c1)
  refine ⟨fun c3 => ?_, fun c3 => ?_⟩
  · skip
    try simp only [if_pos c3] at h
    exact xr_rt (v := none) rfl h
  · skip
    refine xr_go 10 (pc' := 36) (ls' := [some (.inr (some (33, i))), some (.inr (some (4, m1)))]) (st' := [.inl 0, .inl (μ 33 i 5), .inl 0, .inl 0, .inl (μ 33 i 0), .inl 5, .inr (some (2, 0))]) (s' := μ) rfl ?_
    refine xr_cl (y' := 117) (as := [.inr (some (2, 0)), .inl 5, .inl (μ 33 i 0), .inl 0, .inl 0, .inl (μ 33 i 5), .inl 0]) (r := []) rfl rfl ?_
    refine tf_117 (d := d + 2) (μ := μ) (a1 := 5) (a2 := (μ 33 i 0)) (a3 := 0) (a4 := 0) (a5 := (μ 33 i 5)) (a6 := 0) (hi.1 c3) ?_
    show xr_t (tm_I L xs) (d + 3) 113 39 [some (.inr (some (33, i))), some (.inr (some (4, m1)))] [.inr (some (4, (cv_117 5 (μ 33 i 0) 0 0 (μ 33 i 5) 0 μ)))] (cs_117 5 (μ 33 i 0) 0 0 (μ 33 i 5) 0 μ) Q
    generalize gv1 : (cv_117 5 (μ 33 i 0) 0 0 (μ 33 i 5) 0 μ) = v1 at h hi ⊢
    generalize gμ2 : (cs_117 5 (μ 33 i 0) 0 0 (μ 33 i 5) 0 μ) = μ2 at h hi ⊢
    refine xr_go 8 (pc' := 51) (ls' := [some (.inr (some (33, i))), some (.inr (some (4, m1)))]) (st' := [.inr (some (33, i))]) (s' := (tm_wr μ2 33 i 11 ((μ2 33 i 11) + 1))) rfl ?_
    refine xr_gfv (x := ((μ2 33 i 11) + 1)) rfl rfl (by rw [tm_wr_s]) ?_
    refine xr_br 4 (c := ((μ2 33 i 11) + 1) < (μ2 1 0 1)) inferInstance (a := 73) (b := 64) (ls' := [some (.inr (some (33, i))), some (.inr (some (4, m1)))]) (st' := []) (s' := (tm_wr μ2 33 i 11 ((μ2 33 i 11) + 1))) rfl (fun c4 => ?_) (fun c4 => ?_)
    · skip
      refine xr_go 1 (pc' := 74) (ls' := [some (.inr (some (33, i))), some (.inr (some (4, m1)))]) (st' := [.inr (some (33, i))]) (s' := (tm_wr μ2 33 i 11 ((μ2 33 i 11) + 1))) rfl ?_
      refine xr_cl (y' := 103) (as := [.inr (some (33, i))]) (r := []) rfl rfl ?_
      refine tf_103 (d := d + 0) (μ := (tm_wr μ2 33 i 11 ((μ2 33 i 11) + 1))) (i := i) (hi.2 c3 c4) ?_
      show xr_t (tm_I L xs) (d + 3) 113 77 [some (.inr (some (33, i))), some (.inr (some (4, m1)))] [] (cs_103 i (tm_wr μ2 33 i 11 ((μ2 33 i 11) + 1))) Q
      generalize gμ4 : (cs_103 i (tm_wr μ2 33 i 11 ((μ2 33 i 11) + 1))) = μ4 at h hi ⊢
      try simp only [if_neg c3, if_pos c4] at h
      exact xr_rt (v := none) rfl h
    · skip
      refine xr_go 2 (pc' := 67) (ls' := [some (.inr (some (33, i))), some (.inr (some (4, m1)))]) (st' := [.inl 8, .inr (some (33, i))]) (s' := (tm_wr μ2 33 i 11 ((μ2 33 i 11) + 1))) rfl ?_
      refine xr_cl (y' := 106) (as := [.inr (some (33, i)), .inl 8]) (r := []) rfl rfl ?_
      refine tf_106 (d := d + 2) (μ := (tm_wr μ2 33 i 11 ((μ2 33 i 11) + 1))) (i := i) (a1 := 8) ?_
      show xr_t (tm_I L xs) (d + 3) 113 70 [some (.inr (some (33, i))), some (.inr (some (4, m1)))] [] (cs_106 i 8 (tm_wr μ2 33 i 11 ((μ2 33 i 11) + 1))) Q
      generalize gμ5 : (cs_106 i 8 (tm_wr μ2 33 i 11 ((μ2 33 i 11) + 1))) = μ5 at h hi ⊢
      refine xr_go 1 (pc' := 77) (ls' := [some (.inr (some (33, i))), some (.inr (some (4, m1)))]) (st' := []) (s' := μ5) rfl ?_
      try simp only [if_neg c3, if_neg c4] at h
      exact xr_rt (v := none) rfl h
-- BootNet$Station.receive(LBootNet$Message;)V
def cs_100 (i : Nat) (m1 : Nat) (μ : tm_M) : tm_M := (if (μ 4 m1 0) = 1 then (cs_110 i m1 μ) else (if (μ 4 m1 0) = 3 then (cs_111 i m1 μ) else (if (μ 4 m1 0) = 4 then (cs_112 i m1 μ) else (if (μ 4 m1 0) = 7 then (cs_113 i m1 μ) else (if (μ 4 m1 0) = 9 then (if (cv_98 i μ) = 0 then μ else (cs_63 i m1 μ)) else (if (μ 4 m1 0) = 11 then (if (cv_98 i μ) = 0 then μ else (cs_64 i m1 μ)) else μ))))))
def ci_100 (i : Nat) (m1 : Nat) (μ : tm_M) : Prop := (((μ 4 m1 0) = 1) → ci_110 i m1 μ) ∧ (((μ 4 m1 0) = 3) → ci_111 i m1 μ) ∧ (((μ 4 m1 0) = 4) → ci_112 i m1 μ) ∧ (((μ 4 m1 0) = 7) → ci_113 i m1 μ) ∧ (((μ 4 m1 0) = 9) → (¬ ((cv_98 i μ) = 0)) → ci_63 i m1 μ) ∧ (((μ 4 m1 0) = 11) → (¬ ((cv_98 i μ) = 0)) → ci_64 i m1 μ)
set_option maxHeartbeats 4000000 in
set_option maxRecDepth 10000 in
theorem tf_100 {i : Nat} {m1 : Nat} (hi : ci_100 i m1 μ) (h : Q none (cs_100 i m1 μ)) : xm_MW (tm_I L xs) (d + 5) 100 [.inr (some (33, i)), .inr (some (4, m1))] μ Q := by
  refine xr_in2 [some (.inr (some (33, i))), some (.inr (some (4, m1)))] rfl rfl ?_
  unfold cs_100 at h
  unfold ci_100 at hi
  refine xr_go 2 (pc' := 4) (ls' := [some (.inr (some (33, i))), some (.inr (some (4, m1)))]) (st' := [.inl (μ 4 m1 0)]) (s' := μ) rfl ?_
  refine xr_ts1 rfl (fun c1 => ?_) (fun j hj c1 => ?_)
  · skip
    have c1_1 : ¬ (((μ 4 m1 0) : Int32) = 1) := fun e => by rw [e] at c1; revert c1; decide
    have c1_3 : ¬ (((μ 4 m1 0) : Int32) = 3) := fun e => by rw [e] at c1; revert c1; decide
    have c1_4 : ¬ (((μ 4 m1 0) : Int32) = 4) := fun e => by rw [e] at c1; revert c1; decide
    have c1_7 : ¬ (((μ 4 m1 0) : Int32) = 7) := fun e => by rw [e] at c1; revert c1; decide
    have c1_9 : ¬ (((μ 4 m1 0) : Int32) = 9) := fun e => by rw [e] at c1; revert c1; decide
    have c1_11 : ¬ (((μ 4 m1 0) : Int32) = 11) := fun e => by rw [e] at c1; revert c1; decide
    try simp only [if_neg c1_1, if_neg c1_3, if_neg c1_4, if_neg c1_7, if_neg c1_9, if_neg c1_11] at h
    exact xr_rt (v := none) rfl h
  · have hj2 : j < 11 := by omega
    match j, hj2, c1 with
    | 0, _, c1 =>
      replace c1 : ((μ 4 m1 0) : Int32) = 1 := c1
      show xr_t _ _ _ 64 _ _ _ _
      refine xr_go 2 (pc' := 66) (ls' := [some (.inr (some (33, i))), some (.inr (some (4, m1)))]) (st' := [.inr (some (4, m1)), .inr (some (33, i))]) (s' := μ) rfl ?_
      refine xr_cl (y' := 110) (as := [.inr (some (33, i)), .inr (some (4, m1))]) (r := []) rfl rfl ?_
      refine tf_110 (d := d + 1) (μ := μ) (i := i) (m1 := m1) (hi.1 c1) ?_
      show xr_t (tm_I L xs) (d + 4) 100 69 [some (.inr (some (33, i))), some (.inr (some (4, m1)))] [] (cs_110 i m1 μ) Q
      generalize gμ1 : (cs_110 i m1 μ) = μ1 at h hi ⊢
      refine xr_go 1 (pc' := 132) (ls' := [some (.inr (some (33, i))), some (.inr (some (4, m1)))]) (st' := []) (s' := μ1) rfl ?_
      try simp only [if_pos c1] at h
      exact xr_rt (v := none) rfl h
    | 1, _, c1 =>
      replace c1 : ((μ 4 m1 0) : Int32) = 2 := c1
      show xr_t _ _ _ 132 _ _ _ _
      have c1_1 : ¬ (((μ 4 m1 0) : Int32) = 1) := by rw [c1]; decide
      have c1_3 : ¬ (((μ 4 m1 0) : Int32) = 3) := by rw [c1]; decide
      have c1_4 : ¬ (((μ 4 m1 0) : Int32) = 4) := by rw [c1]; decide
      have c1_7 : ¬ (((μ 4 m1 0) : Int32) = 7) := by rw [c1]; decide
      have c1_9 : ¬ (((μ 4 m1 0) : Int32) = 9) := by rw [c1]; decide
      have c1_11 : ¬ (((μ 4 m1 0) : Int32) = 11) := by rw [c1]; decide
      try simp only [if_neg c1_1, if_neg c1_3, if_neg c1_4, if_neg c1_7, if_neg c1_9, if_neg c1_11] at h
      exact xr_rt (v := none) rfl h
    | 2, _, c1 =>
      replace c1 : ((μ 4 m1 0) : Int32) = 3 := c1
      show xr_t _ _ _ 72 _ _ _ _
      have c1_1 : ¬ (((μ 4 m1 0) : Int32) = 1) := by rw [c1]; decide
      refine xr_go 2 (pc' := 74) (ls' := [some (.inr (some (33, i))), some (.inr (some (4, m1)))]) (st' := [.inr (some (4, m1)), .inr (some (33, i))]) (s' := μ) rfl ?_
      refine xr_cl (y' := 111) (as := [.inr (some (33, i)), .inr (some (4, m1))]) (r := []) rfl rfl ?_
      refine tf_111 (d := d + 2) (μ := μ) (i := i) (m1 := m1) (hi.2.1 c1) ?_
      show xr_t (tm_I L xs) (d + 4) 100 77 [some (.inr (some (33, i))), some (.inr (some (4, m1)))] [] (cs_111 i m1 μ) Q
      generalize gμ2 : (cs_111 i m1 μ) = μ2 at h hi ⊢
      refine xr_go 1 (pc' := 132) (ls' := [some (.inr (some (33, i))), some (.inr (some (4, m1)))]) (st' := []) (s' := μ2) rfl ?_
      try simp only [if_neg c1_1, if_pos c1] at h
      exact xr_rt (v := none) rfl h
    | 3, _, c1 =>
      replace c1 : ((μ 4 m1 0) : Int32) = 4 := c1
      show xr_t _ _ _ 80 _ _ _ _
      have c1_1 : ¬ (((μ 4 m1 0) : Int32) = 1) := by rw [c1]; decide
      have c1_3 : ¬ (((μ 4 m1 0) : Int32) = 3) := by rw [c1]; decide
      refine xr_go 2 (pc' := 82) (ls' := [some (.inr (some (33, i))), some (.inr (some (4, m1)))]) (st' := [.inr (some (4, m1)), .inr (some (33, i))]) (s' := μ) rfl ?_
      refine xr_cl (y' := 112) (as := [.inr (some (33, i)), .inr (some (4, m1))]) (r := []) rfl rfl ?_
      refine tf_112 (d := d + 0) (μ := μ) (i := i) (m1 := m1) (hi.2.2.1 c1) ?_
      show xr_t (tm_I L xs) (d + 4) 100 85 [some (.inr (some (33, i))), some (.inr (some (4, m1)))] [] (cs_112 i m1 μ) Q
      generalize gμ3 : (cs_112 i m1 μ) = μ3 at h hi ⊢
      refine xr_go 1 (pc' := 132) (ls' := [some (.inr (some (33, i))), some (.inr (some (4, m1)))]) (st' := []) (s' := μ3) rfl ?_
      try simp only [if_neg c1_1, if_neg c1_3, if_pos c1] at h
      exact xr_rt (v := none) rfl h
    | 4, _, c1 =>
      replace c1 : ((μ 4 m1 0) : Int32) = 5 := c1
      show xr_t _ _ _ 132 _ _ _ _
      have c1_1 : ¬ (((μ 4 m1 0) : Int32) = 1) := by rw [c1]; decide
      have c1_3 : ¬ (((μ 4 m1 0) : Int32) = 3) := by rw [c1]; decide
      have c1_4 : ¬ (((μ 4 m1 0) : Int32) = 4) := by rw [c1]; decide
      have c1_7 : ¬ (((μ 4 m1 0) : Int32) = 7) := by rw [c1]; decide
      have c1_9 : ¬ (((μ 4 m1 0) : Int32) = 9) := by rw [c1]; decide
      have c1_11 : ¬ (((μ 4 m1 0) : Int32) = 11) := by rw [c1]; decide
      try simp only [if_neg c1_1, if_neg c1_3, if_neg c1_4, if_neg c1_7, if_neg c1_9, if_neg c1_11] at h
      exact xr_rt (v := none) rfl h
    | 5, _, c1 =>
      replace c1 : ((μ 4 m1 0) : Int32) = 6 := c1
      show xr_t _ _ _ 132 _ _ _ _
      have c1_1 : ¬ (((μ 4 m1 0) : Int32) = 1) := by rw [c1]; decide
      have c1_3 : ¬ (((μ 4 m1 0) : Int32) = 3) := by rw [c1]; decide
      have c1_4 : ¬ (((μ 4 m1 0) : Int32) = 4) := by rw [c1]; decide
      have c1_7 : ¬ (((μ 4 m1 0) : Int32) = 7) := by rw [c1]; decide
      have c1_9 : ¬ (((μ 4 m1 0) : Int32) = 9) := by rw [c1]; decide
      have c1_11 : ¬ (((μ 4 m1 0) : Int32) = 11) := by rw [c1]; decide
      try simp only [if_neg c1_1, if_neg c1_3, if_neg c1_4, if_neg c1_7, if_neg c1_9, if_neg c1_11] at h
      exact xr_rt (v := none) rfl h
    | 6, _, c1 =>
      replace c1 : ((μ 4 m1 0) : Int32) = 7 := c1
      show xr_t _ _ _ 88 _ _ _ _
      have c1_1 : ¬ (((μ 4 m1 0) : Int32) = 1) := by rw [c1]; decide
      have c1_3 : ¬ (((μ 4 m1 0) : Int32) = 3) := by rw [c1]; decide
      have c1_4 : ¬ (((μ 4 m1 0) : Int32) = 4) := by rw [c1]; decide
      refine xr_go 2 (pc' := 90) (ls' := [some (.inr (some (33, i))), some (.inr (some (4, m1)))]) (st' := [.inr (some (4, m1)), .inr (some (33, i))]) (s' := μ) rfl ?_
      refine xr_cl (y' := 113) (as := [.inr (some (33, i)), .inr (some (4, m1))]) (r := []) rfl rfl ?_
      refine tf_113 (d := d + 0) (μ := μ) (i := i) (m1 := m1) (hi.2.2.2.1 c1) ?_
      show xr_t (tm_I L xs) (d + 4) 100 93 [some (.inr (some (33, i))), some (.inr (some (4, m1)))] [] (cs_113 i m1 μ) Q
      generalize gμ4 : (cs_113 i m1 μ) = μ4 at h hi ⊢
      refine xr_go 1 (pc' := 132) (ls' := [some (.inr (some (33, i))), some (.inr (some (4, m1)))]) (st' := []) (s' := μ4) rfl ?_
      try simp only [if_neg c1_1, if_neg c1_3, if_neg c1_4, if_pos c1] at h
      exact xr_rt (v := none) rfl h
    | 7, _, c1 =>
      replace c1 : ((μ 4 m1 0) : Int32) = 8 := c1
      show xr_t _ _ _ 132 _ _ _ _
      have c1_1 : ¬ (((μ 4 m1 0) : Int32) = 1) := by rw [c1]; decide
      have c1_3 : ¬ (((μ 4 m1 0) : Int32) = 3) := by rw [c1]; decide
      have c1_4 : ¬ (((μ 4 m1 0) : Int32) = 4) := by rw [c1]; decide
      have c1_7 : ¬ (((μ 4 m1 0) : Int32) = 7) := by rw [c1]; decide
      have c1_9 : ¬ (((μ 4 m1 0) : Int32) = 9) := by rw [c1]; decide
      have c1_11 : ¬ (((μ 4 m1 0) : Int32) = 11) := by rw [c1]; decide
      try simp only [if_neg c1_1, if_neg c1_3, if_neg c1_4, if_neg c1_7, if_neg c1_9, if_neg c1_11] at h
      exact xr_rt (v := none) rfl h
    | 8, _, c1 =>
      replace c1 : ((μ 4 m1 0) : Int32) = 9 := c1
      show xr_t _ _ _ 96 _ _ _ _
      have c1_1 : ¬ (((μ 4 m1 0) : Int32) = 1) := by rw [c1]; decide
      have c1_3 : ¬ (((μ 4 m1 0) : Int32) = 3) := by rw [c1]; decide
      have c1_4 : ¬ (((μ 4 m1 0) : Int32) = 4) := by rw [c1]; decide
      have c1_7 : ¬ (((μ 4 m1 0) : Int32) = 7) := by rw [c1]; decide
      refine xr_go 1 (pc' := 97) (ls' := [some (.inr (some (33, i))), some (.inr (some (4, m1)))]) (st' := [.inr (some (33, i))]) (s' := μ) rfl ?_
      refine xr_cl (y' := 98) (as := [.inr (some (33, i))]) (r := []) rfl rfl ?_
      refine tf_98 (d := d + 3) (μ := μ) (i := i) ?_
      show xr_t (tm_I L xs) (d + 4) 100 100 [some (.inr (some (33, i))), some (.inr (some (4, m1)))] [.inl (cv_98 i μ)] μ Q
      have z5 : (cv_98 i μ) = 0 ∨ (cv_98 i μ) = 1 := cz_98
      generalize gv5 : (cv_98 i μ) = v5 at h hi z5 ⊢
      refine xr_br 1 (c := v5 = 0) inferInstance (a := 132) (b := 103) (ls' := [some (.inr (some (33, i))), some (.inr (some (4, m1)))]) (st' := []) (s' := μ) rfl (fun c2 => ?_) (fun c2 => ?_)
      · skip
        try simp only [if_neg c1_1, if_neg c1_3, if_neg c1_4, if_neg c1_7, if_pos c1, if_pos c2] at h
        exact xr_rt (v := none) rfl h
      · skip
        refine xr_go 3 (pc' := 108) (ls' := [some (.inr (some (33, i))), some (.inr (some (4, m1)))]) (st' := [.inr (some (4, m1)), .inr (some (34, i))]) (s' := μ) rfl ?_
        refine xr_cl (y' := 63) (as := [.inr (some (34, i)), .inr (some (4, m1))]) (r := []) rfl rfl ?_
        refine tf_63 (d := d + 0) (μ := μ) (i := i) (m1 := m1) (hi.2.2.2.2.1 c1 c2) ?_
        show xr_t (tm_I L xs) (d + 4) 100 111 [some (.inr (some (33, i))), some (.inr (some (4, m1)))] [] (cs_63 i m1 μ) Q
        generalize gμ6 : (cs_63 i m1 μ) = μ6 at h hi ⊢
        refine xr_go 1 (pc' := 132) (ls' := [some (.inr (some (33, i))), some (.inr (some (4, m1)))]) (st' := []) (s' := μ6) rfl ?_
        try simp only [if_neg c1_1, if_neg c1_3, if_neg c1_4, if_neg c1_7, if_pos c1, if_neg c2] at h
        exact xr_rt (v := none) rfl h
    | 9, _, c1 =>
      replace c1 : ((μ 4 m1 0) : Int32) = 10 := c1
      show xr_t _ _ _ 132 _ _ _ _
      have c1_1 : ¬ (((μ 4 m1 0) : Int32) = 1) := by rw [c1]; decide
      have c1_3 : ¬ (((μ 4 m1 0) : Int32) = 3) := by rw [c1]; decide
      have c1_4 : ¬ (((μ 4 m1 0) : Int32) = 4) := by rw [c1]; decide
      have c1_7 : ¬ (((μ 4 m1 0) : Int32) = 7) := by rw [c1]; decide
      have c1_9 : ¬ (((μ 4 m1 0) : Int32) = 9) := by rw [c1]; decide
      have c1_11 : ¬ (((μ 4 m1 0) : Int32) = 11) := by rw [c1]; decide
      try simp only [if_neg c1_1, if_neg c1_3, if_neg c1_4, if_neg c1_7, if_neg c1_9, if_neg c1_11] at h
      exact xr_rt (v := none) rfl h
    | 10, _, c1 =>
      replace c1 : ((μ 4 m1 0) : Int32) = 11 := c1
      show xr_t _ _ _ 114 _ _ _ _
      have c1_1 : ¬ (((μ 4 m1 0) : Int32) = 1) := by rw [c1]; decide
      have c1_3 : ¬ (((μ 4 m1 0) : Int32) = 3) := by rw [c1]; decide
      have c1_4 : ¬ (((μ 4 m1 0) : Int32) = 4) := by rw [c1]; decide
      have c1_7 : ¬ (((μ 4 m1 0) : Int32) = 7) := by rw [c1]; decide
      have c1_9 : ¬ (((μ 4 m1 0) : Int32) = 9) := by rw [c1]; decide
      refine xr_go 1 (pc' := 115) (ls' := [some (.inr (some (33, i))), some (.inr (some (4, m1)))]) (st' := [.inr (some (33, i))]) (s' := μ) rfl ?_
      refine xr_cl (y' := 98) (as := [.inr (some (33, i))]) (r := []) rfl rfl ?_
      refine tf_98 (d := d + 3) (μ := μ) (i := i) ?_
      show xr_t (tm_I L xs) (d + 4) 100 118 [some (.inr (some (33, i))), some (.inr (some (4, m1)))] [.inl (cv_98 i μ)] μ Q
      have z7 : (cv_98 i μ) = 0 ∨ (cv_98 i μ) = 1 := cz_98
      generalize gv7 : (cv_98 i μ) = v7 at h hi z7 ⊢
      refine xr_br 1 (c := v7 = 0) inferInstance (a := 132) (b := 121) (ls' := [some (.inr (some (33, i))), some (.inr (some (4, m1)))]) (st' := []) (s' := μ) rfl (fun c3 => ?_) (fun c3 => ?_)
      · skip
        try simp only [if_neg c1_1, if_neg c1_3, if_neg c1_4, if_neg c1_7, if_neg c1_9, if_pos c1, if_pos c3] at h
        exact xr_rt (v := none) rfl h
      · skip
        refine xr_go 3 (pc' := 126) (ls' := [some (.inr (some (33, i))), some (.inr (some (4, m1)))]) (st' := [.inr (some (4, m1)), .inr (some (34, i))]) (s' := μ) rfl ?_
        refine xr_cl (y' := 64) (as := [.inr (some (34, i)), .inr (some (4, m1))]) (r := []) rfl rfl ?_
        refine tf_64 (d := d + 3) (μ := μ) (i := i) (m1 := m1) (hi.2.2.2.2.2 c1 c3) ?_
        show xr_t (tm_I L xs) (d + 4) 100 129 [some (.inr (some (33, i))), some (.inr (some (4, m1)))] [] (cs_64 i m1 μ) Q
        generalize gμ8 : (cs_64 i m1 μ) = μ8 at h hi ⊢
        refine xr_go 1 (pc' := 132) (ls' := [some (.inr (some (33, i))), some (.inr (some (4, m1)))]) (st' := []) (s' := μ8) rfl ?_
        try simp only [if_neg c1_1, if_neg c1_3, if_neg c1_4, if_neg c1_7, if_neg c1_9, if_pos c1, if_neg c3] at h
        exact xr_rt (v := none) rfl h
-- BootNet$Wire.postCopy(LBootNet$Message;I)V
def cs_119 (m1 : Nat) (a2 : Int32) (μ : tm_M) : tm_M := (cs_74k5 (cv_117 (μ 4 m1 0) (μ 4 m1 1) a2 (μ 4 m1 2) (μ 4 m1 3) (μ 4 m1 4) μ) m1 0 ((cs_117 (μ 4 m1 0) (μ 4 m1 1) a2 (μ 4 m1 2) (μ 4 m1 3) (μ 4 m1 4) μ) 4 m1 6) (cs_117 (μ 4 m1 0) (μ 4 m1 1) a2 (μ 4 m1 2) (μ 4 m1 3) (μ 4 m1 4) μ))
def ci_119 (m1 : Nat) (a2 : Int32) (μ : tm_M) : Prop := (ci_117 (μ 4 m1 0) (μ 4 m1 1) a2 (μ 4 m1 2) (μ 4 m1 3) (μ 4 m1 4) μ) ∧ (ci_74k5 (cv_117 (μ 4 m1 0) (μ 4 m1 1) a2 (μ 4 m1 2) (μ 4 m1 3) (μ 4 m1 4) μ) m1 0 ((cs_117 (μ 4 m1 0) (μ 4 m1 1) a2 (μ 4 m1 2) (μ 4 m1 3) (μ 4 m1 4) μ) 4 m1 6) (cs_117 (μ 4 m1 0) (μ 4 m1 1) a2 (μ 4 m1 2) (μ 4 m1 3) (μ 4 m1 4) μ))
set_option maxHeartbeats 4000000 in
set_option maxRecDepth 10000 in
theorem tf_119 {m1 : Nat} {a2 : Int32} (hi : ci_119 m1 a2 μ) (h : Q none (cs_119 m1 a2 μ)) : xm_MW (tm_I L xs) (d + 2) 119 [.inr (some (2, 0)), .inr (some (4, m1)), .inl a2] μ Q := by
  refine xr_in2 [some (.inr (some (2, 0))), some (.inr (some (4, m1))), some (.inl a2), none] rfl rfl ?_
  unfold cs_119 at h
  unfold ci_119 at hi
  refine xr_go 12 (pc' := 22) (ls' := [some (.inr (some (2, 0))), some (.inr (some (4, m1))), some (.inl a2), none]) (st' := [.inl (μ 4 m1 4), .inl (μ 4 m1 3), .inl (μ 4 m1 2), .inl a2, .inl (μ 4 m1 1), .inl (μ 4 m1 0), .inr (some (2, 0))]) (s' := μ) rfl ?_
  refine xr_cl (y' := 117) (as := [.inr (some (2, 0)), .inl (μ 4 m1 0), .inl (μ 4 m1 1), .inl a2, .inl (μ 4 m1 2), .inl (μ 4 m1 3), .inl (μ 4 m1 4)]) (r := []) rfl rfl ?_
  refine tf_117 (d := d + 0) (μ := μ) (a1 := (μ 4 m1 0)) (a2 := (μ 4 m1 1)) (a3 := a2) (a4 := (μ 4 m1 2)) (a5 := (μ 4 m1 3)) (a6 := (μ 4 m1 4)) (hi.1) ?_
  show xr_t (tm_I L xs) (d + 1) 119 25 [some (.inr (some (2, 0))), some (.inr (some (4, m1))), some (.inl a2), none] [.inr (some (4, (cv_117 (μ 4 m1 0) (μ 4 m1 1) a2 (μ 4 m1 2) (μ 4 m1 3) (μ 4 m1 4) μ)))] (cs_117 (μ 4 m1 0) (μ 4 m1 1) a2 (μ 4 m1 2) (μ 4 m1 3) (μ 4 m1 4) μ) Q
  generalize gv1 : (cv_117 (μ 4 m1 0) (μ 4 m1 1) a2 (μ 4 m1 2) (μ 4 m1 3) (μ 4 m1 4) μ) = v1 at h hi ⊢
  generalize gμ2 : (cs_117 (μ 4 m1 0) (μ 4 m1 1) a2 (μ 4 m1 2) (μ 4 m1 3) (μ 4 m1 4) μ) = μ2 at h hi ⊢
  refine xr_go 7 (pc' := 36) (ls' := [some (.inr (some (2, 0))), some (.inr (some (4, m1))), some (.inl a2), some (.inr (some (4, v1)))]) (st' := [.inl (μ2 4 m1 6), .inl 0, .inr (some (5, m1)), .inr (some (4, v1))]) (s' := μ2) rfl ?_
  refine xr_cl (y' := 74) (as := [.inr (some (4, v1)), .inr (some (5, m1)), .inl 0, .inl (μ2 4 m1 6)]) (r := []) rfl rfl ?_
  refine tf_74k5 (d := d + 0) (μ := μ2) (i := v1) (m1 := m1) (a2 := 0) (a3 := (μ2 4 m1 6)) (hi.2) ?_
  show xr_t (tm_I L xs) (d + 1) 119 39 [some (.inr (some (2, 0))), some (.inr (some (4, m1))), some (.inl a2), some (.inr (some (4, v1)))] [] (cs_74k5 v1 m1 0 (μ2 4 m1 6) μ2) Q
  generalize gμ3 : (cs_74k5 v1 m1 0 (μ2 4 m1 6) μ2) = μ3 at h hi ⊢
  exact xr_rt (v := none) rfl h
-- BootNet.arrive(LBootNet$Message;)V
def cs_18 (m1 : Nat) (μ : tm_M) : tm_M := (if (cv_75 m1 μ) = 0 then (if (μ 4 m1 0) = 6 then (cs_19 m1 μ) else (if (μ 4 m1 5) = 1 then (cs_119 m1 0 μ) else (cs_100 (((μ 4 m1 1) : Int32).toNatClampNeg) m1 μ))) else (if (¬ ((μ 4 m1 5) = 0)) ∨ ((cv_46 (μ 4 m1 1) μ) = 0) then (cs_82 m1 μ) else (cs_119 m1 1 μ)))
def ci_18 (m1 : Nat) (μ : tm_M) : Prop := (((cv_75 m1 μ) = 0) → ((μ 4 m1 0) = 6) → ci_19 m1 μ) ∧ (((cv_75 m1 μ) = 0) → (¬ ((μ 4 m1 0) = 6)) → ((μ 4 m1 5) = 1) → ci_119 m1 0 μ) ∧ (((cv_75 m1 μ) = 0) → (¬ ((μ 4 m1 0) = 6)) → (¬ ((μ 4 m1 5) = 1)) → tm_ix (μ 4 m1 1) 6 = true) ∧ (((cv_75 m1 μ) = 0) → (¬ ((μ 4 m1 0) = 6)) → (¬ ((μ 4 m1 5) = 1)) → ci_100 (((μ 4 m1 1) : Int32).toNatClampNeg) m1 μ) ∧ ((¬ ((cv_75 m1 μ) = 0)) → ((μ 4 m1 5) = 0) → ci_46 (μ 4 m1 1) μ) ∧ ((¬ ((cv_75 m1 μ) = 0)) → ((¬ ((μ 4 m1 5) = 0)) ∨ ((cv_46 (μ 4 m1 1) μ) = 0)) → ci_82 m1 μ) ∧ ((¬ ((cv_75 m1 μ) = 0)) → (¬ ((¬ ((μ 4 m1 5) = 0)) ∨ ((cv_46 (μ 4 m1 1) μ) = 0))) → ci_119 m1 1 μ)
set_option maxHeartbeats 4000000 in
set_option maxRecDepth 10000 in
theorem tf_18 {m1 : Nat} (hi : ci_18 m1 μ) (h : Q none (cs_18 m1 μ)) : xm_MW (tm_I L xs) (d + 7) 18 [.inr (some (0, 0)), .inr (some (4, m1))] μ Q := by
  refine xr_in2 [some (.inr (some (0, 0))), some (.inr (some (4, m1)))] rfl rfl ?_
  unfold cs_18 at h
  unfold ci_18 at hi
  refine xr_go 1 (pc' := 1) (ls' := [some (.inr (some (0, 0))), some (.inr (some (4, m1)))]) (st' := [.inr (some (4, m1))]) (s' := μ) rfl ?_
  refine xr_cl (y' := 75) (as := [.inr (some (4, m1))]) (r := []) rfl rfl ?_
  refine tf_75 (d := d + 5) (μ := μ) (i := m1) ?_
  show xr_t (tm_I L xs) (d + 6) 18 4 [some (.inr (some (0, 0))), some (.inr (some (4, m1)))] [.inl (cv_75 m1 μ)] μ Q
  have z1 : (cv_75 m1 μ) = 0 ∨ (cv_75 m1 μ) = 1 := cz_75
  generalize gv1 : (cv_75 m1 μ) = v1 at h hi z1 ⊢
  refine xr_br 1 (c := v1 = 0) inferInstance (a := 51) (b := 7) (ls' := [some (.inr (some (0, 0))), some (.inr (some (4, m1)))]) (st' := []) (s' := μ) rfl (fun c1 => ?_) (fun c1 => ?_)
  · skip
    refine xr_br 4 (c := (μ 4 m1 0) = 6) inferInstance (a := 60) (b := 68) (ls' := [some (.inr (some (0, 0))), some (.inr (some (4, m1)))]) (st' := []) (s' := μ) rfl (fun c2 => ?_) (fun c2 => ?_)
    · skip
      refine xr_go 2 (pc' := 62) (ls' := [some (.inr (some (0, 0))), some (.inr (some (4, m1)))]) (st' := [.inr (some (4, m1)), .inr (some (0, 0))]) (s' := μ) rfl ?_
      refine xr_cl (y' := 19) (as := [.inr (some (0, 0)), .inr (some (4, m1))]) (r := []) rfl rfl ?_
      refine tf_19 (d := d + 3) (μ := μ) (m1 := m1) (hi.1 c1 c2) ?_
      show xr_t (tm_I L xs) (d + 6) 18 65 [some (.inr (some (0, 0))), some (.inr (some (4, m1)))] [] (cs_19 m1 μ) Q
      generalize gμ5 : (cs_19 m1 μ) = μ5 at h hi ⊢
      refine xr_go 1 (pc' := 101) (ls' := [some (.inr (some (0, 0))), some (.inr (some (4, m1)))]) (st' := []) (s' := μ5) rfl ?_
      try simp only [if_pos c1, if_pos c2] at h
      exact xr_rt (v := none) rfl h
    · skip
      refine xr_br 4 (c := (μ 4 m1 5) = 1) inferInstance (a := 76) (b := 88) (ls' := [some (.inr (some (0, 0))), some (.inr (some (4, m1)))]) (st' := []) (s' := μ) rfl (fun c3 => ?_) (fun c3 => ?_)
      · skip
        refine xr_go 4 (pc' := 82) (ls' := [some (.inr (some (0, 0))), some (.inr (some (4, m1)))]) (st' := [.inl 0, .inr (some (4, m1)), .inr (some (2, 0))]) (s' := μ) rfl ?_
        refine xr_cl (y' := 119) (as := [.inr (some (2, 0)), .inr (some (4, m1)), .inl 0]) (r := []) rfl rfl ?_
        refine tf_119 (d := d + 4) (μ := μ) (m1 := m1) (a2 := 0) (hi.2.1 c1 c2 c3) ?_
        show xr_t (tm_I L xs) (d + 6) 18 85 [some (.inr (some (0, 0))), some (.inr (some (4, m1)))] [] (cs_119 m1 0 μ) Q
        generalize gμ7 : (cs_119 m1 0 μ) = μ7 at h hi ⊢
        refine xr_go 1 (pc' := 101) (ls' := [some (.inr (some (0, 0))), some (.inr (some (4, m1)))]) (st' := []) (s' := μ7) rfl ?_
        try simp only [if_pos c1, if_neg c2, if_pos c3] at h
        exact xr_rt (v := none) rfl h
      · skip
        refine xr_go 4 (pc' := 96) (ls' := [some (.inr (some (0, 0))), some (.inr (some (4, m1)))]) (st' := [.inl (μ 4 m1 1), .inr (some (32, 0))]) (s' := μ) rfl ?_
        refine xr_aal (n := 6) (w := (33, ((μ 4 m1 1) : Int32).toNatClampNeg)) rfl rfl (hi.2.2.1 c1 c2 c3) rfl ?_
        refine xr_go 1 (pc' := 98) (ls' := [some (.inr (some (0, 0))), some (.inr (some (4, m1)))]) (st' := [.inr (some (4, m1)), .inr (some (33, ((μ 4 m1 1) : Int32).toNatClampNeg))]) (s' := μ) rfl ?_
        refine xr_cl (y' := 100) (as := [.inr (some (33, ((μ 4 m1 1) : Int32).toNatClampNeg)), .inr (some (4, m1))]) (r := []) rfl rfl ?_
        refine tf_100 (d := d + 1) (μ := μ) (i := (((μ 4 m1 1) : Int32).toNatClampNeg)) (m1 := m1) (hi.2.2.2.1 c1 c2 c3) ?_
        show xr_t (tm_I L xs) (d + 6) 18 101 [some (.inr (some (0, 0))), some (.inr (some (4, m1)))] [] (cs_100 (((μ 4 m1 1) : Int32).toNatClampNeg) m1 μ) Q
        generalize gμ8 : (cs_100 (((μ 4 m1 1) : Int32).toNatClampNeg) m1 μ) = μ8 at h hi ⊢
        try simp only [if_pos c1, if_neg c2, if_neg c3] at h
        exact xr_rt (v := none) rfl h
  · skip
    suffices hE4 : (((¬ ((μ 4 m1 5) = 0)) ∨ ((cv_46 (μ 4 m1 1) μ) = 0)) → xr_t (tm_I L xs) (d + 6) 18 40 [some (.inr (some (0, 0))), some (.inr (some (4, m1)))] [] μ Q) ∧ (¬ ((¬ ((μ 4 m1 5) = 0)) ∨ ((cv_46 (μ 4 m1 1) μ) = 0)) → xr_t (tm_I L xs) (d + 6) 18 28 [some (.inr (some (0, 0))), some (.inr (some (4, m1)))] [] μ Q) by
      refine xr_br 3 (c := (μ 4 m1 5) = 0) inferInstance (a := 14) (b := 40) (ls' := [some (.inr (some (0, 0))), some (.inr (some (4, m1)))]) (st' := []) (s' := μ) rfl (fun c4 => ?_) (fun c4 => ?_)
      · skip
        refine xr_go 4 (pc' := 22) (ls' := [some (.inr (some (0, 0))), some (.inr (some (4, m1)))]) (st' := [.inl (μ 4 m1 1), .inr (some (6, 0))]) (s' := μ) rfl ?_
        refine xr_cl (y' := 46) (as := [.inr (some (6, 0)), .inl (μ 4 m1 1)]) (r := []) rfl rfl ?_
        refine tf_46 (d := d + 5) (μ := μ) (a1 := (μ 4 m1 1)) (hi.2.2.2.2.1 c1 c4) ?_
        show xr_t (tm_I L xs) (d + 6) 18 25 [some (.inr (some (0, 0))), some (.inr (some (4, m1)))] [.inl (cv_46 (μ 4 m1 1) μ)] μ Q
        refine xr_br 1 (c := (cv_46 (μ 4 m1 1) μ) = 0) inferInstance (a := 40) (b := 28) (ls' := [some (.inr (some (0, 0))), some (.inr (some (4, m1)))]) (st' := []) (s' := μ) rfl (fun c5 => ?_) (fun c5 => ?_)
        · skip
          exact hE4.1 (Or.inr c5)
        · skip
          exact hE4.2 (fun z => z.elim (fun w => w c4) c5)
      · skip
        exact hE4.1 (Or.inl c4)
    refine ⟨fun c6 => ?_, fun c6 => ?_⟩
    · skip
      refine xr_go 3 (pc' := 45) (ls' := [some (.inr (some (0, 0))), some (.inr (some (4, m1)))]) (st' := [.inr (some (4, m1)), .inr (some (19, 0))]) (s' := μ) rfl ?_
      refine xr_cl (y' := 82) (as := [.inr (some (19, 0)), .inr (some (4, m1))]) (r := []) rfl rfl ?_
      refine tf_82 (d := d + 0) (μ := μ) (m1 := m1) (hi.2.2.2.2.2.1 c1 c6) ?_
      show xr_t (tm_I L xs) (d + 6) 18 48 [some (.inr (some (0, 0))), some (.inr (some (4, m1)))] [] (cs_82 m1 μ) Q
      generalize gμ11 : (cs_82 m1 μ) = μ11 at h hi ⊢
      refine xr_go 1 (pc' := 101) (ls' := [some (.inr (some (0, 0))), some (.inr (some (4, m1)))]) (st' := []) (s' := μ11) rfl ?_
      try simp only [if_neg c1, if_pos c6] at h
      exact xr_rt (v := none) rfl h
    · skip
      refine xr_go 4 (pc' := 34) (ls' := [some (.inr (some (0, 0))), some (.inr (some (4, m1)))]) (st' := [.inl 1, .inr (some (4, m1)), .inr (some (2, 0))]) (s' := μ) rfl ?_
      refine xr_cl (y' := 119) (as := [.inr (some (2, 0)), .inr (some (4, m1)), .inl 1]) (r := []) rfl rfl ?_
      refine tf_119 (d := d + 4) (μ := μ) (m1 := m1) (a2 := 1) (hi.2.2.2.2.2.2 c1 c6) ?_
      show xr_t (tm_I L xs) (d + 6) 18 37 [some (.inr (some (0, 0))), some (.inr (some (4, m1)))] [] (cs_119 m1 1 μ) Q
      generalize gμ12 : (cs_119 m1 1 μ) = μ12 at h hi ⊢
      refine xr_go 1 (pc' := 101) (ls' := [some (.inr (some (0, 0))), some (.inr (some (4, m1)))]) (st' := []) (s' := μ12) rfl ?_
      try simp only [if_neg c1, if_neg c6] at h
      exact xr_rt (v := none) rfl h
-- BootNet$Wire.take(I)LBootNet$Message;
def cv_118_11 (a1 : Int32) : Nat → Nat → Int32 → tm_M → Nat
  | 0, _, _, _ => 0
  | n + 1, l2, l3, μ => (if (μ 2 0 1) ≤ l3 then l2 else (cv_118_11 a1 n l2 (l3 + 1) (tm_wr μ 3 0 (((l3 - 1) : Int32).toNatClampNeg) (Int32.ofNat ((μ 3 0 ((l3).toNatClampNeg)) : Int32).toNatClampNeg))))
def cs_118_11 (a1 : Int32) : Nat → Nat → Int32 → tm_M → tm_M
  | 0, _, _, μ => μ
  | n + 1, l2, l3, μ => (if (μ 2 0 1) ≤ l3 then (tm_wr (tm_wr (tm_wr μ 2 0 1 ((μ 2 0 1) - 1)) 3 0 ((((μ 2 0 1) - 1) : Int32).toNatClampNeg) (Int32.ofNat ((μ 2 0 2) : Int32).toNatClampNeg)) 2 0 2 (Int32.ofNat l2)) else (cs_118_11 a1 n l2 (l3 + 1) (tm_wr μ 3 0 (((l3 - 1) : Int32).toNatClampNeg) (Int32.ofNat ((μ 3 0 ((l3).toNatClampNeg)) : Int32).toNatClampNeg))))
def ci_118_11 (a1 : Int32) : Nat → Nat → Int32 → tm_M → Prop
  | 0, _, _, _ => False
  | n + 1, l2, l3, μ => (((μ 2 0 1) ≤ l3) → tm_ix ((μ 2 0 1) - 1) 32 = true) ∧ ((¬ ((μ 2 0 1) ≤ l3)) → tm_ix l3 32 = true) ∧ ((¬ ((μ 2 0 1) ≤ l3)) → tm_ix (l3 - 1) 32 = true) ∧ ((¬ ((μ 2 0 1) ≤ l3)) → ci_118_11 a1 n l2 (l3 + 1) (tm_wr μ 3 0 (((l3 - 1) : Int32).toNatClampNeg) (Int32.ofNat ((μ 3 0 ((l3).toNatClampNeg)) : Int32).toNatClampNeg)))
set_option maxHeartbeats 4000000 in
set_option maxRecDepth 10000 in
theorem tl_118_11 {a1 : Int32} : ∀ (n : Nat) (l2 : Nat) (l3 : Int32) (μ : tm_M), ci_118_11 a1 n l2 l3 μ → Q (some (.inr (some (4, cv_118_11 a1 n l2 l3 μ)))) (cs_118_11 a1 n l2 l3 μ) → xr_t (tm_I L xs) (d + 0) 118 11 [some (.inr (some (2, 0))), some (.inl a1), some (.inr (some (4, l2))), some (.inl l3)] [] μ Q := by
  intro n
  induction n with
  | zero => intro l2 l3 μ hi; exact hi.elim
  | succ n ih =>
    intro l2 l3 μ hi h
    unfold ci_118_11 at hi
    simp only [cv_118_11, cs_118_11] at h
    refine xr_br 4 (c := (μ 2 0 1) ≤ l3) inferInstance (a := 39) (b := 19) (ls' := [some (.inr (some (2, 0))), some (.inl a1), some (.inr (some (4, l2))), some (.inl l3)]) (st' := []) (s' := μ) rfl (fun c1 => ?_) (fun c1 => ?_)
    · skip
      refine xr_go 12 (pc' := 61) (ls' := [some (.inr (some (2, 0))), some (.inl a1), some (.inr (some (4, l2))), some (.inl l3)]) (st' := [.inr (some (4, ((μ 2 0 2) : Int32).toNatClampNeg)), .inl ((μ 2 0 1) - 1), .inr (some (3, 0))]) (s' := (tm_wr μ 2 0 1 ((μ 2 0 1) - 1))) rfl ?_
      refine xr_aas (n := 32) rfl rfl (hi.1 c1) ?_
      refine xr_go 4 (pc' := 68) (ls' := [some (.inr (some (2, 0))), some (.inl a1), some (.inr (some (4, l2))), some (.inl l3)]) (st' := [.inr (some (4, l2))]) (s' := (tm_wr (tm_wr (tm_wr μ 2 0 1 ((μ 2 0 1) - 1)) 3 0 ((((μ 2 0 1) - 1) : Int32).toNatClampNeg) (Int32.ofNat ((μ 2 0 2) : Int32).toNatClampNeg)) 2 0 2 (Int32.ofNat l2))) rfl ?_
      try simp only [if_pos c1] at h
      exact xr_rt (v := some (.inr (some (4, l2)))) rfl h
    · skip
      refine xr_go 8 (pc' := 31) (ls' := [some (.inr (some (2, 0))), some (.inl a1), some (.inr (some (4, l2))), some (.inl l3)]) (st' := [.inl l3, .inr (some (3, 0)), .inl (l3 - 1), .inr (some (3, 0))]) (s' := μ) rfl ?_
      refine xr_aal (n := 32) (w := (4, ((μ 3 0 ((l3).toNatClampNeg)) : Int32).toNatClampNeg)) rfl rfl (hi.2.1 c1) rfl ?_
      refine xr_aas (n := 32) rfl rfl (hi.2.2.1 c1) ?_
      refine xr_go 2 (pc' := 11) (ls' := [some (.inr (some (2, 0))), some (.inl a1), some (.inr (some (4, l2))), some (.inl (l3 + 1))]) (st' := []) (s' := (tm_wr μ 3 0 (((l3 - 1) : Int32).toNatClampNeg) (Int32.ofNat ((μ 3 0 ((l3).toNatClampNeg)) : Int32).toNatClampNeg))) rfl ?_
      try simp only [if_neg c1] at h
      exact ih l2 (l3 + 1) (tm_wr μ 3 0 (((l3 - 1) : Int32).toNatClampNeg) (Int32.ofNat ((μ 3 0 ((l3).toNatClampNeg)) : Int32).toNatClampNeg)) (hi.2.2.2 c1) h
def cv_118 (a1 : Int32) (μ : tm_M) : Nat := (cv_118_11 a1 64 (((μ 3 0 ((a1).toNatClampNeg)) : Int32).toNatClampNeg) (a1 + 1) μ)
def cs_118 (a1 : Int32) (μ : tm_M) : tm_M := (cs_118_11 a1 64 (((μ 3 0 ((a1).toNatClampNeg)) : Int32).toNatClampNeg) (a1 + 1) μ)
def ci_118 (a1 : Int32) (μ : tm_M) : Prop := (tm_ix a1 32 = true) ∧ (ci_118_11 a1 64 (((μ 3 0 ((a1).toNatClampNeg)) : Int32).toNatClampNeg) (a1 + 1) μ)
set_option maxHeartbeats 4000000 in
set_option maxRecDepth 10000 in
theorem tf_118 {a1 : Int32} (hi : ci_118 a1 μ) (h : Q (some (.inr (some (4, cv_118 a1 μ)))) (cs_118 a1 μ)) : xm_MW (tm_I L xs) (d + 1) 118 [.inr (some (2, 0)), .inl a1] μ Q := by
  refine xr_in2 [some (.inr (some (2, 0))), some (.inl a1), none, none] rfl rfl ?_
  unfold cv_118 cs_118 at h
  unfold ci_118 at hi
  refine xr_go 3 (pc' := 5) (ls' := [some (.inr (some (2, 0))), some (.inl a1), none, none]) (st' := [.inl a1, .inr (some (3, 0))]) (s' := μ) rfl ?_
  refine xr_aal (n := 32) (w := (4, ((μ 3 0 ((a1).toNatClampNeg)) : Int32).toNatClampNeg)) rfl rfl (hi.1) rfl ?_
  refine xr_go 5 (pc' := 11) (ls' := [some (.inr (some (2, 0))), some (.inl a1), some (.inr (some (4, ((μ 3 0 ((a1).toNatClampNeg)) : Int32).toNatClampNeg))), some (.inl (a1 + 1))]) (st' := []) (s' := μ) rfl ?_
  exact tl_118_11 64 (((μ 3 0 ((a1).toNatClampNeg)) : Int32).toNatClampNeg) (a1 + 1) μ (hi.2) h
-- BootNet.deliver(I)I
def cv_9 (a1 : Int32) (μ : tm_M) : Int32 := (if (cv_116 a1 μ) = 0 then (-1) else ((cs_18 (cv_118 a1 μ) (cs_118 a1 μ)) 4 (cv_118 a1 μ) 0))
def cs_9 (a1 : Int32) (μ : tm_M) : tm_M := (if (cv_116 a1 μ) = 0 then μ else (cs_18 (cv_118 a1 μ) (cs_118 a1 μ)))
def ci_9 (a1 : Int32) (μ : tm_M) : Prop := ((¬ ((cv_116 a1 μ) = 0)) → ci_118 a1 μ) ∧ ((¬ ((cv_116 a1 μ) = 0)) → ci_18 (cv_118 a1 μ) (cs_118 a1 μ))
set_option maxHeartbeats 4000000 in
set_option maxRecDepth 10000 in
theorem tf_9 {a1 : Int32} (hi : ci_9 a1 μ) (h : Q (some (.inl (cv_9 a1 μ))) (cs_9 a1 μ)) : xm_MW (tm_I L xs) (d + 8) 9 [.inr (some (0, 0)), .inl a1] μ Q := by
  refine xr_in2 [some (.inr (some (0, 0))), some (.inl a1), none] rfl rfl ?_
  unfold cv_9 cs_9 at h
  unfold ci_9 at hi
  refine xr_go 3 (pc' := 5) (ls' := [some (.inr (some (0, 0))), some (.inl a1), none]) (st' := [.inl a1, .inr (some (2, 0))]) (s' := μ) rfl ?_
  refine xr_cl (y' := 116) (as := [.inr (some (2, 0)), .inl a1]) (r := []) rfl rfl ?_
  refine tf_116 (d := d + 6) (μ := μ) (a1 := a1) ?_
  show xr_t (tm_I L xs) (d + 7) 9 8 [some (.inr (some (0, 0))), some (.inl a1), none] [.inl (cv_116 a1 μ)] μ Q
  have z1 : (cv_116 a1 μ) = 0 ∨ (cv_116 a1 μ) = 1 := cz_116
  generalize gv1 : (cv_116 a1 μ) = v1 at h hi z1 ⊢
  refine xr_br 1 (c := v1 = 0) inferInstance (a := 11) (b := 13) (ls' := [some (.inr (some (0, 0))), some (.inl a1), none]) (st' := []) (s' := μ) rfl (fun c1 => ?_) (fun c1 => ?_)
  · skip
    refine xr_go 1 (pc' := 12) (ls' := [some (.inr (some (0, 0))), some (.inl a1), none]) (st' := [.inl (-1)]) (s' := μ) rfl ?_
    try simp only [if_pos c1] at h
    exact xr_rt (v := some (.inl (-1))) rfl h
  · skip
    refine xr_go 3 (pc' := 18) (ls' := [some (.inr (some (0, 0))), some (.inl a1), none]) (st' := [.inl a1, .inr (some (2, 0))]) (s' := μ) rfl ?_
    refine xr_cl (y' := 118) (as := [.inr (some (2, 0)), .inl a1]) (r := []) rfl rfl ?_
    refine tf_118 (d := d + 6) (μ := μ) (a1 := a1) (hi.1 c1) ?_
    show xr_t (tm_I L xs) (d + 7) 9 21 [some (.inr (some (0, 0))), some (.inl a1), none] [.inr (some (4, (cv_118 a1 μ)))] (cs_118 a1 μ) Q
    generalize gv2 : (cv_118 a1 μ) = v2 at h hi ⊢
    generalize gμ3 : (cs_118 a1 μ) = μ3 at h hi ⊢
    refine xr_go 3 (pc' := 24) (ls' := [some (.inr (some (0, 0))), some (.inl a1), some (.inr (some (4, v2)))]) (st' := [.inr (some (4, v2)), .inr (some (0, 0))]) (s' := μ3) rfl ?_
    refine xr_cl (y' := 18) (as := [.inr (some (0, 0)), .inr (some (4, v2))]) (r := []) rfl rfl ?_
    refine tf_18 (d := d + 0) (μ := μ3) (m1 := v2) (hi.2 c1) ?_
    show xr_t (tm_I L xs) (d + 7) 9 27 [some (.inr (some (0, 0))), some (.inl a1), some (.inr (some (4, v2)))] [] (cs_18 v2 μ3) Q
    generalize gμ4 : (cs_18 v2 μ3) = μ4 at h hi ⊢
    refine xr_go 2 (pc' := 31) (ls' := [some (.inr (some (0, 0))), some (.inl a1), some (.inr (some (4, v2)))]) (st' := [.inl (μ4 4 v2 0)]) (s' := μ4) rfl ?_
    try simp only [if_neg c1] at h
    exact xr_rt (v := some (.inl (μ4 4 v2 0))) rfl h
end TF
