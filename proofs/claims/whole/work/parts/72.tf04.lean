/-! Methods of the class as functions. Written by prog/gen_tf.py. -/
section TF
variable {L : Nat} {xs : Nat → Int32} {d : Nat} {μ : tm_M} {Q : Option (xm_V tm_R) → tm_M → Prop}
-- BootNet$AddressBook.offerOnly(III)V
def cs_28_3 (a1 : Int32) (a2 : Int32) (a3 : Int32) : Nat → Int32 → tm_M → tm_M
  | 0, _, μ => μ
  | n + 1, l4, μ => (if (30 : Int32) ≤ l4 then (tm_wr (tm_wr μ 25 0 ((a1).toNatClampNeg) a2) 26 0 ((a1).toNatClampNeg) a3) else (if (μ 25 0 ((l4).toNatClampNeg)) = a2 then (cs_28_3 a1 a2 a3 n (l4 + 1) (tm_wr μ 26 0 ((l4).toNatClampNeg) 0)) else (cs_28_3 a1 a2 a3 n (l4 + 1) μ)))
def ci_28_3 (a1 : Int32) (a2 : Int32) (a3 : Int32) : Nat → Int32 → tm_M → Prop
  | 0, _, _ => False
  | n + 1, l4, μ => (((30 : Int32) ≤ l4) → tm_ix a1 30 = true) ∧ ((¬ ((30 : Int32) ≤ l4)) → tm_ix l4 30 = true) ∧ ((¬ ((30 : Int32) ≤ l4)) → ((μ 25 0 ((l4).toNatClampNeg)) = a2) → ci_28_3 a1 a2 a3 n (l4 + 1) (tm_wr μ 26 0 ((l4).toNatClampNeg) 0)) ∧ ((¬ ((30 : Int32) ≤ l4)) → (¬ ((μ 25 0 ((l4).toNatClampNeg)) = a2)) → ci_28_3 a1 a2 a3 n (l4 + 1) μ)
set_option maxHeartbeats 4000000 in
set_option maxRecDepth 10000 in
theorem tl_28_3 {a1 : Int32} {a2 : Int32} {a3 : Int32} : ∀ (n : Nat) (l4 : Int32) (μ : tm_M), ci_28_3 a1 a2 a3 n l4 μ → Q none (cs_28_3 a1 a2 a3 n l4 μ) → xr_t (tm_I L xs) (d + 0) 28 3 [some (.inr (some (22, 0))), some (.inl a1), some (.inl a2), some (.inl a3), some (.inl l4)] [] μ Q := by
  intro n
  induction n with
  | zero => intro l4 μ hi; exact hi.elim
  | succ n ih =>
    intro l4 μ hi h
    unfold ci_28_3 at hi
    simp only [cs_28_3] at h
    refine xr_br 5 (c := (30 : Int32) ≤ l4) inferInstance (a := 38) (b := 13) (ls' := [some (.inr (some (22, 0))), some (.inl a1), some (.inl a2), some (.inl a3), some (.inl l4)]) (st' := []) (s' := μ) rfl (fun c1 => ?_) (fun c1 => ?_)
    · skip
      refine xr_go 4 (pc' := 44) (ls' := [some (.inr (some (22, 0))), some (.inl a1), some (.inl a2), some (.inl a3), some (.inl l4)]) (st' := [.inl a2, .inl a1, .inr (some (25, 0))]) (s' := μ) rfl ?_
      refine xr_ias (n := 30) rfl rfl (hi.1 c1) ?_
      refine xr_go 4 (pc' := 51) (ls' := [some (.inr (some (22, 0))), some (.inl a1), some (.inl a2), some (.inl a3), some (.inl l4)]) (st' := [.inl a3, .inl a1, .inr (some (26, 0))]) (s' := (tm_wr μ 25 0 ((a1).toNatClampNeg) a2)) rfl ?_
      refine xr_ias (n := 30) rfl rfl (hi.1 c1) ?_
      try simp only [if_pos c1] at h
      exact xr_rt (v := none) rfl h
    · skip
      refine xr_go 3 (pc' := 19) (ls' := [some (.inr (some (22, 0))), some (.inl a1), some (.inl a2), some (.inl a3), some (.inl l4)]) (st' := [.inl l4, .inr (some (25, 0))]) (s' := μ) rfl ?_
      refine xr_ial (n := 30) rfl rfl (hi.2.1 c1) ?_
      refine xr_br 2 (c := (μ 25 0 ((l4).toNatClampNeg)) = a2) inferInstance (a := 24) (b := 32) (ls' := [some (.inr (some (22, 0))), some (.inl a1), some (.inl a2), some (.inl a3), some (.inl l4)]) (st' := []) (s' := μ) rfl (fun c2 => ?_) (fun c2 => ?_)
      · skip
        refine xr_go 4 (pc' := 31) (ls' := [some (.inr (some (22, 0))), some (.inl a1), some (.inl a2), some (.inl a3), some (.inl l4)]) (st' := [.inl 0, .inl l4, .inr (some (26, 0))]) (s' := μ) rfl ?_
        refine xr_ias (n := 30) rfl rfl (hi.2.1 c1) ?_
        refine xr_go 2 (pc' := 3) (ls' := [some (.inr (some (22, 0))), some (.inl a1), some (.inl a2), some (.inl a3), some (.inl (l4 + 1))]) (st' := []) (s' := (tm_wr μ 26 0 ((l4).toNatClampNeg) 0)) rfl ?_
        try simp only [if_neg c1, if_pos c2] at h
        exact ih (l4 + 1) (tm_wr μ 26 0 ((l4).toNatClampNeg) 0) (hi.2.2.1 c1 c2) h
      · skip
        refine xr_go 2 (pc' := 3) (ls' := [some (.inr (some (22, 0))), some (.inl a1), some (.inl a2), some (.inl a3), some (.inl (l4 + 1))]) (st' := []) (s' := μ) rfl ?_
        try simp only [if_neg c1, if_neg c2] at h
        exact ih (l4 + 1) μ (hi.2.2.2 c1 c2) h
def cs_28 (a1 : Int32) (a2 : Int32) (a3 : Int32) (μ : tm_M) : tm_M := (cs_28_3 a1 a2 a3 64 0 μ)
def ci_28 (a1 : Int32) (a2 : Int32) (a3 : Int32) (μ : tm_M) : Prop := (ci_28_3 a1 a2 a3 64 0 μ)
set_option maxHeartbeats 4000000 in
set_option maxRecDepth 10000 in
theorem tf_28 {a1 : Int32} {a2 : Int32} {a3 : Int32} (hi : ci_28 a1 a2 a3 μ) (h : Q none (cs_28 a1 a2 a3 μ)) : xm_MW (tm_I L xs) (d + 1) 28 [.inr (some (22, 0)), .inl a1, .inl a2, .inl a3] μ Q := by
  refine xr_in2 [some (.inr (some (22, 0))), some (.inl a1), some (.inl a2), some (.inl a3), none] rfl rfl ?_
  unfold cs_28 at h
  unfold ci_28 at hi
  refine xr_go 2 (pc' := 3) (ls' := [some (.inr (some (22, 0))), some (.inl a1), some (.inl a2), some (.inl a3), some (.inl 0)]) (st' := []) (s' := μ) rfl ?_
  exact tl_28_3 64 0 μ (hi) h
-- BootNet$Server.reservedChoice(I)I
def cv_87 (a1 : Int32) (μ : tm_M) : Int32 := ((if ((if (cv_42 a1 μ) = 0 then 0 else ((if (cv_26 (cv_42 a1 μ) a1 μ) = 0 then 0 else 1) : Int32)) : Int32) = 0 then 0 else (cv_42 a1 μ)) : Int32)
def ci_87 (a1 : Int32) (μ : tm_M) : Prop := (ci_42 a1 μ) ∧ ((¬ ((cv_42 a1 μ) = 0)) → ci_26 (cv_42 a1 μ) a1 μ)
set_option maxHeartbeats 4000000 in
set_option maxRecDepth 10000 in
theorem tf_87 {a1 : Int32} (hi : ci_87 a1 μ) (h : Q (some (.inl (cv_87 a1 μ))) μ) : xm_MW (tm_I L xs) (d + 3) 87 [.inr (some (19, 0)), .inl a1] μ Q := by
  refine xr_in2 [some (.inr (some (19, 0))), some (.inl a1), none, none] rfl rfl ?_
  unfold cv_87 at h
  unfold ci_87 at hi
  refine xr_go 3 (pc' := 5) (ls' := [some (.inr (some (19, 0))), some (.inl a1), none, none]) (st' := [.inl a1, .inr (some (6, 0))]) (s' := μ) rfl ?_
  refine xr_cl (y' := 42) (as := [.inr (some (6, 0)), .inl a1]) (r := []) rfl rfl ?_
  refine tf_42 (d := d + 1) (μ := μ) (a1 := a1) (hi.1) ?_
  show xr_t (tm_I L xs) (d + 2) 87 8 [some (.inr (some (19, 0))), some (.inl a1), none, none] [.inl (cv_42 a1 μ)] μ Q
  generalize gv1 : (cv_42 a1 μ) = v1 at h hi ⊢
  suffices hj1 : xr_t (tm_I L xs) (d + 2) 87 30 [some (.inr (some (19, 0))), some (.inl a1), some (.inl v1), none] [.inl ((if v1 = 0 then 0 else ((if (cv_26 v1 a1 μ) = 0 then 0 else 1) : Int32)) : Int32)] μ Q by
    refine xr_br 3 (c := v1 = 0) inferInstance (a := 29) (b := 13) (ls' := [some (.inr (some (19, 0))), some (.inl a1), some (.inl v1), none]) (st' := []) (s' := μ) rfl (fun c1 => ?_) (fun c1 => ?_)
    · skip
      refine xr_go 1 (pc' := 30) (ls' := [some (.inr (some (19, 0))), some (.inl a1), some (.inl v1), none]) (st' := [.inl 0]) (s' := μ) rfl ?_
      have ehj1 : ((if v1 = 0 then 0 else ((if (cv_26 v1 a1 μ) = 0 then 0 else 1) : Int32)) : Int32) = 0 := by first | rfl | simp only [if_pos c1]
      rw [ehj1] at hj1
      exact hj1
    · skip
      refine xr_go 4 (pc' := 19) (ls' := [some (.inr (some (19, 0))), some (.inl a1), some (.inl v1), none]) (st' := [.inl a1, .inl v1, .inr (some (22, 0))]) (s' := μ) rfl ?_
      refine xr_cl (y' := 26) (as := [.inr (some (22, 0)), .inl v1, .inl a1]) (r := []) rfl rfl ?_
      refine tf_26 (d := d + 0) (μ := μ) (a1 := v1) (a2 := a1) (hi.2 c1) ?_
      show xr_t (tm_I L xs) (d + 2) 87 22 [some (.inr (some (19, 0))), some (.inl a1), some (.inl v1), none] [.inl (cv_26 v1 a1 μ)] μ Q
      suffices hj2 : xr_t (tm_I L xs) (d + 2) 87 30 [some (.inr (some (19, 0))), some (.inl a1), some (.inl v1), none] [.inl ((if (cv_26 v1 a1 μ) = 0 then 0 else 1) : Int32)] μ Q by
        refine xr_br 1 (c := (cv_26 v1 a1 μ) = 0) inferInstance (a := 29) (b := 25) (ls' := [some (.inr (some (19, 0))), some (.inl a1), some (.inl v1), none]) (st' := []) (s' := μ) rfl (fun c2 => ?_) (fun c2 => ?_)
        · skip
          refine xr_go 1 (pc' := 30) (ls' := [some (.inr (some (19, 0))), some (.inl a1), some (.inl v1), none]) (st' := [.inl 0]) (s' := μ) rfl ?_
          have ehj2 : ((if (cv_26 v1 a1 μ) = 0 then 0 else 1) : Int32) = 0 := by first | rfl | simp only [if_pos c2]
          rw [ehj2] at hj2
          exact hj2
        · skip
          refine xr_go 2 (pc' := 30) (ls' := [some (.inr (some (19, 0))), some (.inl a1), some (.inl v1), none]) (st' := [.inl 1]) (s' := μ) rfl ?_
          have ehj2 : ((if (cv_26 v1 a1 μ) = 0 then 0 else 1) : Int32) = 1 := by first | rfl | simp only [if_neg c2]
          rw [ehj2] at hj2
          exact hj2
      have ehj1 : ((if v1 = 0 then 0 else ((if (cv_26 v1 a1 μ) = 0 then 0 else 1) : Int32)) : Int32) = ((if (cv_26 v1 a1 μ) = 0 then 0 else 1) : Int32) := by first | rfl | simp only [if_neg c1]
      rw [ehj1] at hj1
      exact hj1
  suffices hj3 : xr_t (tm_I L xs) (d + 2) 87 40 [some (.inr (some (19, 0))), some (.inl a1), some (.inl v1), some (.inl ((if v1 = 0 then 0 else ((if (cv_26 v1 a1 μ) = 0 then 0 else 1) : Int32)) : Int32))] [.inl ((if ((if v1 = 0 then 0 else ((if (cv_26 v1 a1 μ) = 0 then 0 else 1) : Int32)) : Int32) = 0 then 0 else v1) : Int32)] μ Q by
    refine xr_br 3 (c := ((if v1 = 0 then 0 else ((if (cv_26 v1 a1 μ) = 0 then 0 else 1) : Int32)) : Int32) = 0) inferInstance (a := 39) (b := 35) (ls' := [some (.inr (some (19, 0))), some (.inl a1), some (.inl v1), some (.inl ((if v1 = 0 then 0 else ((if (cv_26 v1 a1 μ) = 0 then 0 else 1) : Int32)) : Int32))]) (st' := []) (s' := μ) rfl (fun c3 => ?_) (fun c3 => ?_)
    · skip
      refine xr_go 1 (pc' := 40) (ls' := [some (.inr (some (19, 0))), some (.inl a1), some (.inl v1), some (.inl ((if v1 = 0 then 0 else ((if (cv_26 v1 a1 μ) = 0 then 0 else 1) : Int32)) : Int32))]) (st' := [.inl 0]) (s' := μ) rfl ?_
      have ehj3 : ((if ((if v1 = 0 then 0 else ((if (cv_26 v1 a1 μ) = 0 then 0 else 1) : Int32)) : Int32) = 0 then 0 else v1) : Int32) = 0 := by first | rfl | simp only [if_pos c3]
      rw [ehj3] at hj3
      exact hj3
    · skip
      refine xr_go 2 (pc' := 40) (ls' := [some (.inr (some (19, 0))), some (.inl a1), some (.inl v1), some (.inl ((if v1 = 0 then 0 else ((if (cv_26 v1 a1 μ) = 0 then 0 else 1) : Int32)) : Int32))]) (st' := [.inl v1]) (s' := μ) rfl ?_
      have ehj3 : ((if ((if v1 = 0 then 0 else ((if (cv_26 v1 a1 μ) = 0 then 0 else 1) : Int32)) : Int32) = 0 then 0 else v1) : Int32) = v1 := by first | rfl | simp only [if_neg c3]
      rw [ehj3] at hj3
      exact hj3
  exact xr_rt (v := some (.inl ((if ((if v1 = 0 then 0 else ((if (cv_26 v1 a1 μ) = 0 then 0 else 1) : Int32)) : Int32) = 0 then 0 else v1) : Int32))) rfl h
-- BootNet$Server.poolChoice(I)I
def cv_88_31 (a1 : Int32) : Nat → Int32 → Int32 → tm_M → Int32
  | 0, _, _, _ => 0
  | n + 1, l2, l3, μ => (if l2 < l3 then 0 else (if (cv_26 l3 a1 μ) = 0 then (cv_88_31 a1 n l2 (l3 + 1) μ) else l3))
def ci_88_31 (a1 : Int32) : Nat → Int32 → Int32 → tm_M → Prop
  | 0, _, _, _ => False
  | n + 1, l2, l3, μ => ((¬ (l2 < l3)) → ci_26 l3 a1 μ) ∧ ((¬ (l2 < l3)) → ((cv_26 l3 a1 μ) = 0) → ci_88_31 a1 n l2 (l3 + 1) μ)
set_option maxHeartbeats 4000000 in
set_option maxRecDepth 10000 in
theorem tl_88_31 {a1 : Int32} : ∀ (n : Nat) (l2 : Int32) (l3 : Int32) (μ : tm_M), ci_88_31 a1 n l2 l3 μ → Q (some (.inl (cv_88_31 a1 n l2 l3 μ))) μ → xr_t (tm_I L xs) (d + 2) 88 31 [some (.inr (some (19, 0))), some (.inl a1), some (.inl l2), some (.inl l3)] [] μ Q := by
  intro n
  induction n with
  | zero => intro l2 l3 μ hi; exact hi.elim
  | succ n ih =>
    intro l2 l3 μ hi h
    unfold ci_88_31 at hi
    simp only [cv_88_31] at h
    refine xr_br 3 (c := l2 < l3) inferInstance (a := 56) (b := 36) (ls' := [some (.inr (some (19, 0))), some (.inl a1), some (.inl l2), some (.inl l3)]) (st' := []) (s' := μ) rfl (fun c1 => ?_) (fun c1 => ?_)
    · skip
      refine xr_go 1 (pc' := 57) (ls' := [some (.inr (some (19, 0))), some (.inl a1), some (.inl l2), some (.inl l3)]) (st' := [.inl 0]) (s' := μ) rfl ?_
      try simp only [if_pos c1] at h
      exact xr_rt (v := some (.inl 0)) rfl h
    · skip
      refine xr_go 4 (pc' := 42) (ls' := [some (.inr (some (19, 0))), some (.inl a1), some (.inl l2), some (.inl l3)]) (st' := [.inl a1, .inl l3, .inr (some (22, 0))]) (s' := μ) rfl ?_
      refine xr_cl (y' := 26) (as := [.inr (some (22, 0)), .inl l3, .inl a1]) (r := []) rfl rfl ?_
      refine tf_26 (d := d + 0) (μ := μ) (a1 := l3) (a2 := a1) (hi.1 c1) ?_
      show xr_t (tm_I L xs) (d + 2) 88 45 [some (.inr (some (19, 0))), some (.inl a1), some (.inl l2), some (.inl l3)] [.inl (cv_26 l3 a1 μ)] μ Q
      have z1 : (cv_26 l3 a1 μ) = 0 ∨ (cv_26 l3 a1 μ) = 1 := cz_26
      generalize gv1 : (cv_26 l3 a1 μ) = v1 at h hi z1 ⊢
      refine xr_br 1 (c := v1 = 0) inferInstance (a := 50) (b := 48) (ls' := [some (.inr (some (19, 0))), some (.inl a1), some (.inl l2), some (.inl l3)]) (st' := []) (s' := μ) rfl (fun c2 => ?_) (fun c2 => ?_)
      · skip
        refine xr_go 2 (pc' := 31) (ls' := [some (.inr (some (19, 0))), some (.inl a1), some (.inl l2), some (.inl (l3 + 1))]) (st' := []) (s' := μ) rfl ?_
        try simp only [if_neg c1, if_pos c2] at h
        exact ih l2 (l3 + 1) μ (hi.2 c1 c2) h
      · skip
        refine xr_go 1 (pc' := 49) (ls' := [some (.inr (some (19, 0))), some (.inl a1), some (.inl l2), some (.inl l3)]) (st' := [.inl l3]) (s' := μ) rfl ?_
        try simp only [if_neg c1, if_neg c2] at h
        exact xr_rt (v := some (.inl l3)) rfl h
def cv_88 (a1 : Int32) (μ : tm_M) : Int32 := (if (cv_47 a1 μ) = 0 then 0 else (cv_88_31 a1 64 (cv_49 a1 μ) (cv_48 a1 μ) μ))
def ci_88 (a1 : Int32) (μ : tm_M) : Prop := (ci_47 a1 μ) ∧ ((¬ ((cv_47 a1 μ) = 0)) → ci_49 a1 μ) ∧ ((¬ ((cv_47 a1 μ) = 0)) → ci_48 a1 μ) ∧ ((¬ ((cv_47 a1 μ) = 0)) → ci_88_31 a1 64 (cv_49 a1 μ) (cv_48 a1 μ) μ)
set_option maxHeartbeats 4000000 in
set_option maxRecDepth 10000 in
theorem tf_88 {a1 : Int32} (hi : ci_88 a1 μ) (h : Q (some (.inl (cv_88 a1 μ))) μ) : xm_MW (tm_I L xs) (d + 3) 88 [.inr (some (19, 0)), .inl a1] μ Q := by
  refine xr_in2 [some (.inr (some (19, 0))), some (.inl a1), none, none] rfl rfl ?_
  unfold cv_88 at h
  unfold ci_88 at hi
  refine xr_go 3 (pc' := 5) (ls' := [some (.inr (some (19, 0))), some (.inl a1), none, none]) (st' := [.inl a1, .inr (some (6, 0))]) (s' := μ) rfl ?_
  refine xr_cl (y' := 47) (as := [.inr (some (6, 0)), .inl a1]) (r := []) rfl rfl ?_
  refine tf_47 (d := d + 1) (μ := μ) (a1 := a1) (hi.1) ?_
  show xr_t (tm_I L xs) (d + 2) 88 8 [some (.inr (some (19, 0))), some (.inl a1), none, none] [.inl (cv_47 a1 μ)] μ Q
  have z1 : (cv_47 a1 μ) = 0 ∨ (cv_47 a1 μ) = 1 := cz_47
  generalize gv1 : (cv_47 a1 μ) = v1 at h hi z1 ⊢
  refine xr_br 1 (c := v1 = 0) inferInstance (a := 11) (b := 13) (ls' := [some (.inr (some (19, 0))), some (.inl a1), none, none]) (st' := []) (s' := μ) rfl (fun c1 => ?_) (fun c1 => ?_)
  · skip
    refine xr_go 1 (pc' := 12) (ls' := [some (.inr (some (19, 0))), some (.inl a1), none, none]) (st' := [.inl 0]) (s' := μ) rfl ?_
    try simp only [if_pos c1] at h
    exact xr_rt (v := some (.inl 0)) rfl h
  · skip
    refine xr_go 3 (pc' := 18) (ls' := [some (.inr (some (19, 0))), some (.inl a1), none, none]) (st' := [.inl a1, .inr (some (6, 0))]) (s' := μ) rfl ?_
    refine xr_cl (y' := 49) (as := [.inr (some (6, 0)), .inl a1]) (r := []) rfl rfl ?_
    refine tf_49 (d := d + 1) (μ := μ) (a1 := a1) (hi.2.1 c1) ?_
    show xr_t (tm_I L xs) (d + 2) 88 21 [some (.inr (some (19, 0))), some (.inl a1), none, none] [.inl (cv_49 a1 μ)] μ Q
    generalize gv2 : (cv_49 a1 μ) = v2 at h hi ⊢
    refine xr_go 4 (pc' := 27) (ls' := [some (.inr (some (19, 0))), some (.inl a1), some (.inl v2), none]) (st' := [.inl a1, .inr (some (6, 0))]) (s' := μ) rfl ?_
    refine xr_cl (y' := 48) (as := [.inr (some (6, 0)), .inl a1]) (r := []) rfl rfl ?_
    refine tf_48 (d := d + 1) (μ := μ) (a1 := a1) (hi.2.2.1 c1) ?_
    show xr_t (tm_I L xs) (d + 2) 88 30 [some (.inr (some (19, 0))), some (.inl a1), some (.inl v2), none] [.inl (cv_48 a1 μ)] μ Q
    generalize gv3 : (cv_48 a1 μ) = v3 at h hi ⊢
    refine xr_go 1 (pc' := 31) (ls' := [some (.inr (some (19, 0))), some (.inl a1), some (.inl v2), some (.inl v3)]) (st' := []) (s' := μ) rfl ?_
    try simp only [if_neg c1] at h
    exact tl_88_31 64 v2 v3 μ (hi.2.2.2 c1) h
-- BootNet$Server.send(IIIII)LBootNet$Message;
def cv_96 (a1 : Int32) (a2 : Int32) (a3 : Int32) (a4 : Int32) (a5 : Int32) (μ : tm_M) : Nat := (cv_117 a1 a2 ((if (cv_46 a2 μ) = 0 then 0 else 1) : Int32) a3 a4 a5 μ)
def cs_96 (a1 : Int32) (a2 : Int32) (a3 : Int32) (a4 : Int32) (a5 : Int32) (μ : tm_M) : tm_M := (cs_117 a1 a2 ((if (cv_46 a2 μ) = 0 then 0 else 1) : Int32) a3 a4 a5 μ)
def ci_96 (a1 : Int32) (a2 : Int32) (a3 : Int32) (a4 : Int32) (a5 : Int32) (μ : tm_M) : Prop := (ci_46 a2 μ) ∧ (ci_117 a1 a2 ((if (cv_46 a2 μ) = 0 then 0 else 1) : Int32) a3 a4 a5 μ)
set_option maxHeartbeats 4000000 in
set_option maxRecDepth 10000 in
theorem tf_96 {a1 : Int32} {a2 : Int32} {a3 : Int32} {a4 : Int32} {a5 : Int32} (hi : ci_96 a1 a2 a3 a4 a5 μ) (h : Q (some (.inr (some (4, cv_96 a1 a2 a3 a4 a5 μ)))) (cs_96 a1 a2 a3 a4 a5 μ)) : xm_MW (tm_I L xs) (d + 2) 96 [.inr (some (19, 0)), .inl a1, .inl a2, .inl a3, .inl a4, .inl a5] μ Q := by
  refine xr_in2 [some (.inr (some (19, 0))), some (.inl a1), some (.inl a2), some (.inl a3), some (.inl a4), some (.inl a5), none] rfl rfl ?_
  unfold cv_96 cs_96 at h
  unfold ci_96 at hi
  refine xr_go 3 (pc' := 5) (ls' := [some (.inr (some (19, 0))), some (.inl a1), some (.inl a2), some (.inl a3), some (.inl a4), some (.inl a5), none]) (st' := [.inl a2, .inr (some (6, 0))]) (s' := μ) rfl ?_
  refine xr_cl (y' := 46) (as := [.inr (some (6, 0)), .inl a2]) (r := []) rfl rfl ?_
  refine tf_46 (d := d + 0) (μ := μ) (a1 := a2) (hi.1) ?_
  show xr_t (tm_I L xs) (d + 1) 96 8 [some (.inr (some (19, 0))), some (.inl a1), some (.inl a2), some (.inl a3), some (.inl a4), some (.inl a5), none] [.inl (cv_46 a2 μ)] μ Q
  have z1 : (cv_46 a2 μ) = 0 ∨ (cv_46 a2 μ) = 1 := cz_46
  generalize gv1 : (cv_46 a2 μ) = v1 at h hi z1 ⊢
  suffices hj1 : xr_t (tm_I L xs) (d + 1) 96 16 [some (.inr (some (19, 0))), some (.inl a1), some (.inl a2), some (.inl a3), some (.inl a4), some (.inl a5), none] [.inl ((if v1 = 0 then 0 else 1) : Int32)] μ Q by
    refine xr_br 1 (c := v1 = 0) inferInstance (a := 15) (b := 11) (ls' := [some (.inr (some (19, 0))), some (.inl a1), some (.inl a2), some (.inl a3), some (.inl a4), some (.inl a5), none]) (st' := []) (s' := μ) rfl (fun c1 => ?_) (fun c1 => ?_)
    · skip
      refine xr_go 1 (pc' := 16) (ls' := [some (.inr (some (19, 0))), some (.inl a1), some (.inl a2), some (.inl a3), some (.inl a4), some (.inl a5), none]) (st' := [.inl 0]) (s' := μ) rfl ?_
      have ehj1 : ((if v1 = 0 then 0 else 1) : Int32) = 0 := by first | rfl | simp only [if_pos c1]
      rw [ehj1] at hj1
      exact hj1
    · skip
      refine xr_go 2 (pc' := 16) (ls' := [some (.inr (some (19, 0))), some (.inl a1), some (.inl a2), some (.inl a3), some (.inl a4), some (.inl a5), none]) (st' := [.inl 1]) (s' := μ) rfl ?_
      have ehj1 : ((if v1 = 0 then 0 else 1) : Int32) = 1 := by first | rfl | simp only [if_neg c1]
      rw [ehj1] at hj1
      exact hj1
  refine xr_go 9 (pc' := 31) (ls' := [some (.inr (some (19, 0))), some (.inl a1), some (.inl a2), some (.inl a3), some (.inl a4), some (.inl a5), some (.inl ((if v1 = 0 then 0 else 1) : Int32))]) (st' := [.inl a5, .inl a4, .inl a3, .inl ((if v1 = 0 then 0 else 1) : Int32), .inl a2, .inl a1, .inr (some (2, 0))]) (s' := μ) rfl ?_
  refine xr_cl (y' := 117) (as := [.inr (some (2, 0)), .inl a1, .inl a2, .inl ((if v1 = 0 then 0 else 1) : Int32), .inl a3, .inl a4, .inl a5]) (r := []) rfl rfl ?_
  refine tf_117 (d := d + 0) (μ := μ) (a1 := a1) (a2 := a2) (a3 := ((if v1 = 0 then 0 else 1) : Int32)) (a4 := a3) (a5 := a4) (a6 := a5) (hi.2) ?_
  show xr_t (tm_I L xs) (d + 1) 96 34 [some (.inr (some (19, 0))), some (.inl a1), some (.inl a2), some (.inl a3), some (.inl a4), some (.inl a5), some (.inl ((if v1 = 0 then 0 else 1) : Int32))] [.inr (some (4, (cv_117 a1 a2 ((if v1 = 0 then 0 else 1) : Int32) a3 a4 a5 μ)))] (cs_117 a1 a2 ((if v1 = 0 then 0 else 1) : Int32) a3 a4 a5 μ) Q
  generalize gv2 : (cv_117 a1 a2 ((if v1 = 0 then 0 else 1) : Int32) a3 a4 a5 μ) = v2 at h hi ⊢
  generalize gμ3 : (cs_117 a1 a2 ((if v1 = 0 then 0 else 1) : Int32) a3 a4 a5 μ) = μ3 at h hi ⊢
  exact xr_rt (v := some (.inr (some (4, v2)))) rfl h
-- BootNet$Server.onDiscover(LBootNet$Message;)V
def cs_85 (m1 : Nat) (μ : tm_M) : tm_M := (if (cv_86 (μ 4 m1 1) μ) = 0 then (if (cv_87 (μ 4 m1 1) μ) = 0 then (if (cv_88 (μ 4 m1 1) μ) = 0 then μ else (cs_96 1 ((cs_28 (cv_88 (μ 4 m1 1) μ) (μ 4 m1 1) ((μ 1 0 3) + 6) μ) 4 m1 1) ((cs_28 (cv_88 (μ 4 m1 1) μ) (μ 4 m1 1) ((μ 1 0 3) + 6) μ) 4 m1 2) (cv_88 (μ 4 m1 1) μ) 0 (cs_28 (cv_88 (μ 4 m1 1) μ) (μ 4 m1 1) ((μ 1 0 3) + 6) μ))) else (cs_96 1 ((cs_28 (cv_87 (μ 4 m1 1) μ) (μ 4 m1 1) ((μ 1 0 3) + 6) μ) 4 m1 1) ((cs_28 (cv_87 (μ 4 m1 1) μ) (μ 4 m1 1) ((μ 1 0 3) + 6) μ) 4 m1 2) (cv_87 (μ 4 m1 1) μ) 0 (cs_28 (cv_87 (μ 4 m1 1) μ) (μ 4 m1 1) ((μ 1 0 3) + 6) μ))) else (cs_96 1 ((cs_28 (cv_86 (μ 4 m1 1) μ) (μ 4 m1 1) ((μ 1 0 3) + 6) μ) 4 m1 1) ((cs_28 (cv_86 (μ 4 m1 1) μ) (μ 4 m1 1) ((μ 1 0 3) + 6) μ) 4 m1 2) (cv_86 (μ 4 m1 1) μ) 0 (cs_28 (cv_86 (μ 4 m1 1) μ) (μ 4 m1 1) ((μ 1 0 3) + 6) μ)))
def ci_85 (m1 : Nat) (μ : tm_M) : Prop := (ci_86 (μ 4 m1 1) μ) ∧ (((cv_86 (μ 4 m1 1) μ) = 0) → ci_87 (μ 4 m1 1) μ) ∧ (((cv_86 (μ 4 m1 1) μ) = 0) → ((cv_87 (μ 4 m1 1) μ) = 0) → ci_88 (μ 4 m1 1) μ) ∧ (((cv_86 (μ 4 m1 1) μ) = 0) → ((cv_87 (μ 4 m1 1) μ) = 0) → (¬ ((cv_88 (μ 4 m1 1) μ) = 0)) → ci_28 (cv_88 (μ 4 m1 1) μ) (μ 4 m1 1) ((μ 1 0 3) + 6) μ) ∧ (((cv_86 (μ 4 m1 1) μ) = 0) → ((cv_87 (μ 4 m1 1) μ) = 0) → (¬ ((cv_88 (μ 4 m1 1) μ) = 0)) → ci_96 1 ((cs_28 (cv_88 (μ 4 m1 1) μ) (μ 4 m1 1) ((μ 1 0 3) + 6) μ) 4 m1 1) ((cs_28 (cv_88 (μ 4 m1 1) μ) (μ 4 m1 1) ((μ 1 0 3) + 6) μ) 4 m1 2) (cv_88 (μ 4 m1 1) μ) 0 (cs_28 (cv_88 (μ 4 m1 1) μ) (μ 4 m1 1) ((μ 1 0 3) + 6) μ)) ∧ (((cv_86 (μ 4 m1 1) μ) = 0) → (¬ ((cv_87 (μ 4 m1 1) μ) = 0)) → ci_28 (cv_87 (μ 4 m1 1) μ) (μ 4 m1 1) ((μ 1 0 3) + 6) μ) ∧ (((cv_86 (μ 4 m1 1) μ) = 0) → (¬ ((cv_87 (μ 4 m1 1) μ) = 0)) → ci_96 1 ((cs_28 (cv_87 (μ 4 m1 1) μ) (μ 4 m1 1) ((μ 1 0 3) + 6) μ) 4 m1 1) ((cs_28 (cv_87 (μ 4 m1 1) μ) (μ 4 m1 1) ((μ 1 0 3) + 6) μ) 4 m1 2) (cv_87 (μ 4 m1 1) μ) 0 (cs_28 (cv_87 (μ 4 m1 1) μ) (μ 4 m1 1) ((μ 1 0 3) + 6) μ)) ∧ ((¬ ((cv_86 (μ 4 m1 1) μ) = 0)) → ci_28 (cv_86 (μ 4 m1 1) μ) (μ 4 m1 1) ((μ 1 0 3) + 6) μ) ∧ ((¬ ((cv_86 (μ 4 m1 1) μ) = 0)) → ci_96 1 ((cs_28 (cv_86 (μ 4 m1 1) μ) (μ 4 m1 1) ((μ 1 0 3) + 6) μ) 4 m1 1) ((cs_28 (cv_86 (μ 4 m1 1) μ) (μ 4 m1 1) ((μ 1 0 3) + 6) μ) 4 m1 2) (cv_86 (μ 4 m1 1) μ) 0 (cs_28 (cv_86 (μ 4 m1 1) μ) (μ 4 m1 1) ((μ 1 0 3) + 6) μ))
set_option maxHeartbeats 4000000 in
set_option maxRecDepth 10000 in
theorem tf_85 {m1 : Nat} (hi : ci_85 m1 μ) (h : Q none (cs_85 m1 μ)) : xm_MW (tm_I L xs) (d + 4) 85 [.inr (some (19, 0)), .inr (some (4, m1))] μ Q := by
  refine xr_in2 [some (.inr (some (19, 0))), some (.inr (some (4, m1))), none] rfl rfl ?_
  unfold cs_85 at h
  unfold ci_85 at hi
  refine xr_go 3 (pc' := 5) (ls' := [some (.inr (some (19, 0))), some (.inr (some (4, m1))), none]) (st' := [.inl (μ 4 m1 1), .inr (some (19, 0))]) (s' := μ) rfl ?_
  refine xr_cl (y' := 86) (as := [.inr (some (19, 0)), .inl (μ 4 m1 1)]) (r := []) rfl rfl ?_
  refine tf_86 (d := d + 0) (μ := μ) (a1 := (μ 4 m1 1)) (hi.1) ?_
  show xr_t (tm_I L xs) (d + 3) 85 8 [some (.inr (some (19, 0))), some (.inr (some (4, m1))), none] [.inl (cv_86 (μ 4 m1 1) μ)] μ Q
  generalize gv1 : (cv_86 (μ 4 m1 1) μ) = v1 at h hi ⊢
  refine xr_br 3 (c := v1 = 0) inferInstance (a := 13) (b := 22) (ls' := [some (.inr (some (19, 0))), some (.inr (some (4, m1))), some (.inl v1)]) (st' := []) (s' := μ) rfl (fun c1 => ?_) (fun c1 => ?_)
  · skip
    refine xr_go 3 (pc' := 18) (ls' := [some (.inr (some (19, 0))), some (.inr (some (4, m1))), some (.inl v1)]) (st' := [.inl (μ 4 m1 1), .inr (some (19, 0))]) (s' := μ) rfl ?_
    refine xr_cl (y' := 87) (as := [.inr (some (19, 0)), .inl (μ 4 m1 1)]) (r := []) rfl rfl ?_
    refine tf_87 (d := d + 0) (μ := μ) (a1 := (μ 4 m1 1)) (hi.2.1 c1) ?_
    show xr_t (tm_I L xs) (d + 3) 85 21 [some (.inr (some (19, 0))), some (.inr (some (4, m1))), some (.inl v1)] [.inl (cv_87 (μ 4 m1 1) μ)] μ Q
    generalize gv2 : (cv_87 (μ 4 m1 1) μ) = v2 at h hi ⊢
    refine xr_br 3 (c := v2 = 0) inferInstance (a := 26) (b := 35) (ls' := [some (.inr (some (19, 0))), some (.inr (some (4, m1))), some (.inl v2)]) (st' := []) (s' := μ) rfl (fun c2 => ?_) (fun c2 => ?_)
    · skip
      refine xr_go 3 (pc' := 31) (ls' := [some (.inr (some (19, 0))), some (.inr (some (4, m1))), some (.inl v2)]) (st' := [.inl (μ 4 m1 1), .inr (some (19, 0))]) (s' := μ) rfl ?_
      refine xr_cl (y' := 88) (as := [.inr (some (19, 0)), .inl (μ 4 m1 1)]) (r := []) rfl rfl ?_
      refine tf_88 (d := d + 0) (μ := μ) (a1 := (μ 4 m1 1)) (hi.2.2.1 c1 c2) ?_
      show xr_t (tm_I L xs) (d + 3) 85 34 [some (.inr (some (19, 0))), some (.inr (some (4, m1))), some (.inl v2)] [.inl (cv_88 (μ 4 m1 1) μ)] μ Q
      generalize gv3 : (cv_88 (μ 4 m1 1) μ) = v3 at h hi ⊢
      refine xr_br 3 (c := v3 = 0) inferInstance (a := 77) (b := 39) (ls' := [some (.inr (some (19, 0))), some (.inr (some (4, m1))), some (.inl v3)]) (st' := []) (s' := μ) rfl (fun c3 => ?_) (fun c3 => ?_)
      · skip
        try simp only [if_pos c1, if_pos c2, if_pos c3] at h
        exact xr_rt (v := none) rfl h
      · skip
        refine xr_go 10 (pc' := 58) (ls' := [some (.inr (some (19, 0))), some (.inr (some (4, m1))), some (.inl v3)]) (st' := [.inl ((μ 1 0 3) + 6), .inl (μ 4 m1 1), .inl v3, .inr (some (22, 0))]) (s' := μ) rfl ?_
        refine xr_cl (y' := 28) (as := [.inr (some (22, 0)), .inl v3, .inl (μ 4 m1 1), .inl ((μ 1 0 3) + 6)]) (r := []) rfl rfl ?_
        refine tf_28 (d := d + 2) (μ := μ) (a1 := v3) (a2 := (μ 4 m1 1)) (a3 := ((μ 1 0 3) + 6)) (hi.2.2.2.1 c1 c2 c3) ?_
        show xr_t (tm_I L xs) (d + 3) 85 61 [some (.inr (some (19, 0))), some (.inr (some (4, m1))), some (.inl v3)] [] (cs_28 v3 (μ 4 m1 1) ((μ 1 0 3) + 6) μ) Q
        generalize gμ4 : (cs_28 v3 (μ 4 m1 1) ((μ 1 0 3) + 6) μ) = μ4 at h hi ⊢
        refine xr_go 8 (pc' := 73) (ls' := [some (.inr (some (19, 0))), some (.inr (some (4, m1))), some (.inl v3)]) (st' := [.inl 0, .inl v3, .inl (μ4 4 m1 2), .inl (μ4 4 m1 1), .inl 1, .inr (some (19, 0))]) (s' := μ4) rfl ?_
        refine xr_cl (y' := 96) (as := [.inr (some (19, 0)), .inl 1, .inl (μ4 4 m1 1), .inl (μ4 4 m1 2), .inl v3, .inl 0]) (r := []) rfl rfl ?_
        refine tf_96 (d := d + 1) (μ := μ4) (a1 := 1) (a2 := (μ4 4 m1 1)) (a3 := (μ4 4 m1 2)) (a4 := v3) (a5 := 0) (hi.2.2.2.2.1 c1 c2 c3) ?_
        show xr_t (tm_I L xs) (d + 3) 85 76 [some (.inr (some (19, 0))), some (.inr (some (4, m1))), some (.inl v3)] [.inr (some (4, (cv_96 1 (μ4 4 m1 1) (μ4 4 m1 2) v3 0 μ4)))] (cs_96 1 (μ4 4 m1 1) (μ4 4 m1 2) v3 0 μ4) Q
        generalize gv5 : (cv_96 1 (μ4 4 m1 1) (μ4 4 m1 2) v3 0 μ4) = v5 at h hi ⊢
        generalize gμ6 : (cs_96 1 (μ4 4 m1 1) (μ4 4 m1 2) v3 0 μ4) = μ6 at h hi ⊢
        refine xr_go 1 (pc' := 77) (ls' := [some (.inr (some (19, 0))), some (.inr (some (4, m1))), some (.inl v3)]) (st' := []) (s' := μ6) rfl ?_
        try simp only [if_pos c1, if_pos c2, if_neg c3] at h
        exact xr_rt (v := none) rfl h
    · skip
      refine xr_br 2 (c := v2 = 0) inferInstance (a := 77) (b := 39) (ls' := [some (.inr (some (19, 0))), some (.inr (some (4, m1))), some (.inl v2)]) (st' := []) (s' := μ) rfl (fun cx => ?_) (fun cx => ?_)
      · exact absurd cx c2
      refine xr_go 10 (pc' := 58) (ls' := [some (.inr (some (19, 0))), some (.inr (some (4, m1))), some (.inl v2)]) (st' := [.inl ((μ 1 0 3) + 6), .inl (μ 4 m1 1), .inl v2, .inr (some (22, 0))]) (s' := μ) rfl ?_
      refine xr_cl (y' := 28) (as := [.inr (some (22, 0)), .inl v2, .inl (μ 4 m1 1), .inl ((μ 1 0 3) + 6)]) (r := []) rfl rfl ?_
      refine tf_28 (d := d + 2) (μ := μ) (a1 := v2) (a2 := (μ 4 m1 1)) (a3 := ((μ 1 0 3) + 6)) (hi.2.2.2.2.2.1 c1 c2) ?_
      show xr_t (tm_I L xs) (d + 3) 85 61 [some (.inr (some (19, 0))), some (.inr (some (4, m1))), some (.inl v2)] [] (cs_28 v2 (μ 4 m1 1) ((μ 1 0 3) + 6) μ) Q
      generalize gμ7 : (cs_28 v2 (μ 4 m1 1) ((μ 1 0 3) + 6) μ) = μ7 at h hi ⊢
      refine xr_go 8 (pc' := 73) (ls' := [some (.inr (some (19, 0))), some (.inr (some (4, m1))), some (.inl v2)]) (st' := [.inl 0, .inl v2, .inl (μ7 4 m1 2), .inl (μ7 4 m1 1), .inl 1, .inr (some (19, 0))]) (s' := μ7) rfl ?_
      refine xr_cl (y' := 96) (as := [.inr (some (19, 0)), .inl 1, .inl (μ7 4 m1 1), .inl (μ7 4 m1 2), .inl v2, .inl 0]) (r := []) rfl rfl ?_
      refine tf_96 (d := d + 1) (μ := μ7) (a1 := 1) (a2 := (μ7 4 m1 1)) (a3 := (μ7 4 m1 2)) (a4 := v2) (a5 := 0) (hi.2.2.2.2.2.2.1 c1 c2) ?_
      show xr_t (tm_I L xs) (d + 3) 85 76 [some (.inr (some (19, 0))), some (.inr (some (4, m1))), some (.inl v2)] [.inr (some (4, (cv_96 1 (μ7 4 m1 1) (μ7 4 m1 2) v2 0 μ7)))] (cs_96 1 (μ7 4 m1 1) (μ7 4 m1 2) v2 0 μ7) Q
      generalize gv8 : (cv_96 1 (μ7 4 m1 1) (μ7 4 m1 2) v2 0 μ7) = v8 at h hi ⊢
      generalize gμ9 : (cs_96 1 (μ7 4 m1 1) (μ7 4 m1 2) v2 0 μ7) = μ9 at h hi ⊢
      refine xr_go 1 (pc' := 77) (ls' := [some (.inr (some (19, 0))), some (.inr (some (4, m1))), some (.inl v2)]) (st' := []) (s' := μ9) rfl ?_
      try simp only [if_pos c1, if_neg c2] at h
      exact xr_rt (v := none) rfl h
  · skip
    refine xr_br 2 (c := v1 = 0) inferInstance (a := 26) (b := 35) (ls' := [some (.inr (some (19, 0))), some (.inr (some (4, m1))), some (.inl v1)]) (st' := []) (s' := μ) rfl (fun cx => ?_) (fun cx => ?_)
    · exact absurd cx c1
    refine xr_br 2 (c := v1 = 0) inferInstance (a := 77) (b := 39) (ls' := [some (.inr (some (19, 0))), some (.inr (some (4, m1))), some (.inl v1)]) (st' := []) (s' := μ) rfl (fun cx => ?_) (fun cx => ?_)
    · exact absurd cx c1
    refine xr_go 10 (pc' := 58) (ls' := [some (.inr (some (19, 0))), some (.inr (some (4, m1))), some (.inl v1)]) (st' := [.inl ((μ 1 0 3) + 6), .inl (μ 4 m1 1), .inl v1, .inr (some (22, 0))]) (s' := μ) rfl ?_
    refine xr_cl (y' := 28) (as := [.inr (some (22, 0)), .inl v1, .inl (μ 4 m1 1), .inl ((μ 1 0 3) + 6)]) (r := []) rfl rfl ?_
    refine tf_28 (d := d + 2) (μ := μ) (a1 := v1) (a2 := (μ 4 m1 1)) (a3 := ((μ 1 0 3) + 6)) (hi.2.2.2.2.2.2.2.1 c1) ?_
    show xr_t (tm_I L xs) (d + 3) 85 61 [some (.inr (some (19, 0))), some (.inr (some (4, m1))), some (.inl v1)] [] (cs_28 v1 (μ 4 m1 1) ((μ 1 0 3) + 6) μ) Q
    generalize gμ10 : (cs_28 v1 (μ 4 m1 1) ((μ 1 0 3) + 6) μ) = μ10 at h hi ⊢
    refine xr_go 8 (pc' := 73) (ls' := [some (.inr (some (19, 0))), some (.inr (some (4, m1))), some (.inl v1)]) (st' := [.inl 0, .inl v1, .inl (μ10 4 m1 2), .inl (μ10 4 m1 1), .inl 1, .inr (some (19, 0))]) (s' := μ10) rfl ?_
    refine xr_cl (y' := 96) (as := [.inr (some (19, 0)), .inl 1, .inl (μ10 4 m1 1), .inl (μ10 4 m1 2), .inl v1, .inl 0]) (r := []) rfl rfl ?_
    refine tf_96 (d := d + 1) (μ := μ10) (a1 := 1) (a2 := (μ10 4 m1 1)) (a3 := (μ10 4 m1 2)) (a4 := v1) (a5 := 0) (hi.2.2.2.2.2.2.2.2 c1) ?_
    show xr_t (tm_I L xs) (d + 3) 85 76 [some (.inr (some (19, 0))), some (.inr (some (4, m1))), some (.inl v1)] [.inr (some (4, (cv_96 1 (μ10 4 m1 1) (μ10 4 m1 2) v1 0 μ10)))] (cs_96 1 (μ10 4 m1 1) (μ10 4 m1 2) v1 0 μ10) Q
    generalize gv11 : (cv_96 1 (μ10 4 m1 1) (μ10 4 m1 2) v1 0 μ10) = v11 at h hi ⊢
    generalize gμ12 : (cs_96 1 (μ10 4 m1 1) (μ10 4 m1 2) v1 0 μ10) = μ12 at h hi ⊢
    refine xr_go 1 (pc' := 77) (ls' := [some (.inr (some (19, 0))), some (.inr (some (4, m1))), some (.inl v1)]) (st' := []) (s' := μ12) rfl ?_
    try simp only [if_neg c1] at h
    exact xr_rt (v := none) rfl h
-- BootNet$Server.mayHave(II)Z
def cv_90 (a1 : Int32) (a2 : Int32) (μ : tm_M) : Int32 := ((if (cv_36 a1 μ) = 0 then 0 else ((if (cv_25 a1 μ) = 0 then ((if (cv_23 a1 μ) = a2 then 1 else ((if (cv_24 a1 μ) = a2 then 1 else 0) : Int32)) : Int32) else 0) : Int32)) : Int32)
def ci_90 (a1 : Int32) (a2 : Int32) (μ : tm_M) : Prop := ((¬ ((cv_36 a1 μ) = 0)) → ci_25 a1 μ) ∧ ((¬ ((cv_36 a1 μ) = 0)) → ((cv_25 a1 μ) = 0) → ci_23 a1 μ) ∧ ((¬ ((cv_36 a1 μ) = 0)) → ((cv_25 a1 μ) = 0) → (¬ ((cv_23 a1 μ) = a2)) → ci_24 a1 μ)
theorem cz_90 {a1 : Int32} {a2 : Int32} {μ : tm_M} : cv_90 a1 a2 μ = 0 ∨ cv_90 a1 a2 μ = 1 := by
  unfold cv_90
  (repeat' split) <;> first | exact Or.inl rfl | exact Or.inr rfl | exact cz_25 | exact cz_36
set_option maxHeartbeats 4000000 in
set_option maxRecDepth 10000 in
theorem tf_90 {a1 : Int32} {a2 : Int32} (hi : ci_90 a1 a2 μ) (h : Q (some (.inl (cv_90 a1 a2 μ))) μ) : xm_MW (tm_I L xs) (d + 2) 90 [.inr (some (19, 0)), .inl a1, .inl a2] μ Q := by
  refine xr_in2 [some (.inr (some (19, 0))), some (.inl a1), some (.inl a2)] rfl rfl ?_
  unfold cv_90 at h
  unfold ci_90 at hi
  refine xr_go 1 (pc' := 1) (ls' := [some (.inr (some (19, 0))), some (.inl a1), some (.inl a2)]) (st' := [.inl a1]) (s' := μ) rfl ?_
  refine xr_cl (y' := 36) (as := [.inl a1]) (r := []) rfl rfl ?_
  refine tf_36 (d := d + 0) (μ := μ) (a1 := a1) ?_
  show xr_t (tm_I L xs) (d + 1) 90 4 [some (.inr (some (19, 0))), some (.inl a1), some (.inl a2)] [.inl (cv_36 a1 μ)] μ Q
  have z1 : (cv_36 a1 μ) = 0 ∨ (cv_36 a1 μ) = 1 := cz_36
  generalize gv1 : (cv_36 a1 μ) = v1 at h hi z1 ⊢
  suffices hj1 : xr_t (tm_I L xs) (d + 1) 90 47 [some (.inr (some (19, 0))), some (.inl a1), some (.inl a2)] [.inl ((if v1 = 0 then 0 else ((if (cv_25 a1 μ) = 0 then ((if (cv_23 a1 μ) = a2 then 1 else ((if (cv_24 a1 μ) = a2 then 1 else 0) : Int32)) : Int32) else 0) : Int32)) : Int32)] μ Q by
    refine xr_br 1 (c := v1 = 0) inferInstance (a := 46) (b := 7) (ls' := [some (.inr (some (19, 0))), some (.inl a1), some (.inl a2)]) (st' := []) (s' := μ) rfl (fun c1 => ?_) (fun c1 => ?_)
    · skip
      refine xr_go 1 (pc' := 47) (ls' := [some (.inr (some (19, 0))), some (.inl a1), some (.inl a2)]) (st' := [.inl 0]) (s' := μ) rfl ?_
      have ehj1 : ((if v1 = 0 then 0 else ((if (cv_25 a1 μ) = 0 then ((if (cv_23 a1 μ) = a2 then 1 else ((if (cv_24 a1 μ) = a2 then 1 else 0) : Int32)) : Int32) else 0) : Int32)) : Int32) = 0 := by first | rfl | simp only [if_pos c1]
      rw [ehj1] at hj1
      exact hj1
    · skip
      refine xr_go 3 (pc' := 12) (ls' := [some (.inr (some (19, 0))), some (.inl a1), some (.inl a2)]) (st' := [.inl a1, .inr (some (22, 0))]) (s' := μ) rfl ?_
      refine xr_cl (y' := 25) (as := [.inr (some (22, 0)), .inl a1]) (r := []) rfl rfl ?_
      refine tf_25 (d := d + 0) (μ := μ) (a1 := a1) (hi.1 c1) ?_
      show xr_t (tm_I L xs) (d + 1) 90 15 [some (.inr (some (19, 0))), some (.inl a1), some (.inl a2)] [.inl (cv_25 a1 μ)] μ Q
      suffices hj2 : xr_t (tm_I L xs) (d + 1) 90 47 [some (.inr (some (19, 0))), some (.inl a1), some (.inl a2)] [.inl ((if (cv_25 a1 μ) = 0 then ((if (cv_23 a1 μ) = a2 then 1 else ((if (cv_24 a1 μ) = a2 then 1 else 0) : Int32)) : Int32) else 0) : Int32)] μ Q by
        refine xr_br 1 (c := (cv_25 a1 μ) = 0) inferInstance (a := 18) (b := 46) (ls' := [some (.inr (some (19, 0))), some (.inl a1), some (.inl a2)]) (st' := []) (s' := μ) rfl (fun c2 => ?_) (fun c2 => ?_)
        · skip
          refine xr_go 3 (pc' := 23) (ls' := [some (.inr (some (19, 0))), some (.inl a1), some (.inl a2)]) (st' := [.inl a1, .inr (some (22, 0))]) (s' := μ) rfl ?_
          refine xr_cl (y' := 23) (as := [.inr (some (22, 0)), .inl a1]) (r := []) rfl rfl ?_
          refine tf_23 (d := d + 0) (μ := μ) (a1 := a1) (hi.2.1 c1 c2) ?_
          show xr_t (tm_I L xs) (d + 1) 90 26 [some (.inr (some (19, 0))), some (.inl a1), some (.inl a2)] [.inl (cv_23 a1 μ)] μ Q
          suffices hj3 : xr_t (tm_I L xs) (d + 1) 90 47 [some (.inr (some (19, 0))), some (.inl a1), some (.inl a2)] [.inl ((if (cv_23 a1 μ) = a2 then 1 else ((if (cv_24 a1 μ) = a2 then 1 else 0) : Int32)) : Int32)] μ Q by
            refine xr_br 2 (c := (cv_23 a1 μ) = a2) inferInstance (a := 42) (b := 30) (ls' := [some (.inr (some (19, 0))), some (.inl a1), some (.inl a2)]) (st' := []) (s' := μ) rfl (fun c3 => ?_) (fun c3 => ?_)
            · skip
              refine xr_go 2 (pc' := 47) (ls' := [some (.inr (some (19, 0))), some (.inl a1), some (.inl a2)]) (st' := [.inl 1]) (s' := μ) rfl ?_
              have ehj3 : ((if (cv_23 a1 μ) = a2 then 1 else ((if (cv_24 a1 μ) = a2 then 1 else 0) : Int32)) : Int32) = 1 := by first | rfl | simp only [if_pos c3]
              rw [ehj3] at hj3
              exact hj3
            · skip
              refine xr_go 3 (pc' := 35) (ls' := [some (.inr (some (19, 0))), some (.inl a1), some (.inl a2)]) (st' := [.inl a1, .inr (some (22, 0))]) (s' := μ) rfl ?_
              refine xr_cl (y' := 24) (as := [.inr (some (22, 0)), .inl a1]) (r := []) rfl rfl ?_
              refine tf_24 (d := d + 0) (μ := μ) (a1 := a1) (hi.2.2 c1 c2 c3) ?_
              show xr_t (tm_I L xs) (d + 1) 90 38 [some (.inr (some (19, 0))), some (.inl a1), some (.inl a2)] [.inl (cv_24 a1 μ)] μ Q
              suffices hj4 : xr_t (tm_I L xs) (d + 1) 90 47 [some (.inr (some (19, 0))), some (.inl a1), some (.inl a2)] [.inl ((if (cv_24 a1 μ) = a2 then 1 else 0) : Int32)] μ Q by
                refine xr_br 2 (c := (cv_24 a1 μ) = a2) inferInstance (a := 42) (b := 46) (ls' := [some (.inr (some (19, 0))), some (.inl a1), some (.inl a2)]) (st' := []) (s' := μ) rfl (fun c4 => ?_) (fun c4 => ?_)
                · skip
                  refine xr_go 2 (pc' := 47) (ls' := [some (.inr (some (19, 0))), some (.inl a1), some (.inl a2)]) (st' := [.inl 1]) (s' := μ) rfl ?_
                  have ehj4 : ((if (cv_24 a1 μ) = a2 then 1 else 0) : Int32) = 1 := by first | rfl | simp only [if_pos c4]
                  rw [ehj4] at hj4
                  exact hj4
                · skip
                  refine xr_go 1 (pc' := 47) (ls' := [some (.inr (some (19, 0))), some (.inl a1), some (.inl a2)]) (st' := [.inl 0]) (s' := μ) rfl ?_
                  have ehj4 : ((if (cv_24 a1 μ) = a2 then 1 else 0) : Int32) = 0 := by first | rfl | simp only [if_neg c4]
                  rw [ehj4] at hj4
                  exact hj4
              have ehj3 : ((if (cv_23 a1 μ) = a2 then 1 else ((if (cv_24 a1 μ) = a2 then 1 else 0) : Int32)) : Int32) = ((if (cv_24 a1 μ) = a2 then 1 else 0) : Int32) := by first | rfl | simp only [if_neg c3]
              rw [ehj3] at hj3
              exact hj3
          have ehj2 : ((if (cv_25 a1 μ) = 0 then ((if (cv_23 a1 μ) = a2 then 1 else ((if (cv_24 a1 μ) = a2 then 1 else 0) : Int32)) : Int32) else 0) : Int32) = ((if (cv_23 a1 μ) = a2 then 1 else ((if (cv_24 a1 μ) = a2 then 1 else 0) : Int32)) : Int32) := by first | rfl | simp only [if_pos c2]
          rw [ehj2] at hj2
          exact hj2
        · skip
          refine xr_go 1 (pc' := 47) (ls' := [some (.inr (some (19, 0))), some (.inl a1), some (.inl a2)]) (st' := [.inl 0]) (s' := μ) rfl ?_
          have ehj2 : ((if (cv_25 a1 μ) = 0 then ((if (cv_23 a1 μ) = a2 then 1 else ((if (cv_24 a1 μ) = a2 then 1 else 0) : Int32)) : Int32) else 0) : Int32) = 0 := by first | rfl | simp only [if_neg c2]
          rw [ehj2] at hj2
          exact hj2
      have ehj1 : ((if v1 = 0 then 0 else ((if (cv_25 a1 μ) = 0 then ((if (cv_23 a1 μ) = a2 then 1 else ((if (cv_24 a1 μ) = a2 then 1 else 0) : Int32)) : Int32) else 0) : Int32)) : Int32) = ((if (cv_25 a1 μ) = 0 then ((if (cv_23 a1 μ) = a2 then 1 else ((if (cv_24 a1 μ) = a2 then 1 else 0) : Int32)) : Int32) else 0) : Int32) := by first | rfl | simp only [if_neg c1]
      rw [ehj1] at hj1
      exact hj1
  exact xr_zr rfl (fun _ => (by (repeat' split) <;> first | exact Or.inl rfl | exact Or.inr rfl)) h
-- BootNet$Records.dropStale(I)V
def cs_79_4 (a1 : Int32) : Nat → Int32 → Int32 → tm_M → tm_M
  | 0, _, _, μ => μ
  | n + 1, l2, l3, μ => (if (μ 28 0 3) ≤ l3 then (tm_wr μ 28 0 3 l2) else (if ((μ 31 0 ((l3).toNatClampNeg)) ≤ a1) ∨ ((cv_80 l3 μ) = 0) then (cs_79_4 a1 n l2 (l3 + 1) μ) else (cs_79_4 a1 n (l2 + 1) (l3 + 1) (tm_wr (tm_wr (tm_wr μ 29 0 ((l2).toNatClampNeg) (μ 29 0 ((l3).toNatClampNeg))) 30 0 ((l2).toNatClampNeg) (μ 30 0 ((l3).toNatClampNeg))) 31 0 ((l2).toNatClampNeg) (μ 31 0 ((l3).toNatClampNeg))))))
def ci_79_4 (a1 : Int32) : Nat → Int32 → Int32 → tm_M → Prop
  | 0, _, _, _ => False
  | n + 1, l2, l3, μ => ((¬ ((μ 28 0 3) ≤ l3)) → tm_ix l3 16 = true) ∧ ((¬ ((μ 28 0 3) ≤ l3)) → (¬ ((μ 31 0 ((l3).toNatClampNeg)) ≤ a1)) → ci_80 l3 μ) ∧ ((¬ ((μ 28 0 3) ≤ l3)) → (((μ 31 0 ((l3).toNatClampNeg)) ≤ a1) ∨ ((cv_80 l3 μ) = 0)) → ci_79_4 a1 n l2 (l3 + 1) μ) ∧ ((¬ ((μ 28 0 3) ≤ l3)) → (¬ (((μ 31 0 ((l3).toNatClampNeg)) ≤ a1) ∨ ((cv_80 l3 μ) = 0))) → tm_ix l2 16 = true) ∧ ((¬ ((μ 28 0 3) ≤ l3)) → (¬ (((μ 31 0 ((l3).toNatClampNeg)) ≤ a1) ∨ ((cv_80 l3 μ) = 0))) → ci_79_4 a1 n (l2 + 1) (l3 + 1) (tm_wr (tm_wr (tm_wr μ 29 0 ((l2).toNatClampNeg) (μ 29 0 ((l3).toNatClampNeg))) 30 0 ((l2).toNatClampNeg) (μ 30 0 ((l3).toNatClampNeg))) 31 0 ((l2).toNatClampNeg) (μ 31 0 ((l3).toNatClampNeg))))
set_option maxHeartbeats 4000000 in
set_option maxRecDepth 10000 in
theorem tl_79_4 {a1 : Int32} : ∀ (n : Nat) (l2 : Int32) (l3 : Int32) (μ : tm_M), ci_79_4 a1 n l2 l3 μ → Q none (cs_79_4 a1 n l2 l3 μ) → xr_t (tm_I L xs) (d + 1) 79 4 [some (.inr (some (28, 0))), some (.inl a1), some (.inl l2), some (.inl l3)] [] μ Q := by
  intro n
  induction n with
  | zero => intro l2 l3 μ hi; exact hi.elim
  | succ n ih =>
    intro l2 l3 μ hi h
    unfold ci_79_4 at hi
    simp only [cs_79_4] at h
    refine xr_br 4 (c := (μ 28 0 3) ≤ l3) inferInstance (a := 75) (b := 12) (ls' := [some (.inr (some (28, 0))), some (.inl a1), some (.inl l2), some (.inl l3)]) (st' := []) (s' := μ) rfl (fun c1 => ?_) (fun c1 => ?_)
    · skip
      refine xr_go 3 (pc' := 80) (ls' := [some (.inr (some (28, 0))), some (.inl a1), some (.inl l2), some (.inl l3)]) (st' := []) (s' := (tm_wr μ 28 0 3 l2)) rfl ?_
      try simp only [if_pos c1] at h
      exact xr_rt (v := none) rfl h
    · skip
      refine xr_go 3 (pc' := 17) (ls' := [some (.inr (some (28, 0))), some (.inl a1), some (.inl l2), some (.inl l3)]) (st' := [.inl l3, .inr (some (31, 0))]) (s' := μ) rfl ?_
      refine xr_ial (n := 16) rfl rfl (hi.1 c1) ?_
      suffices hE2 : ((((μ 31 0 ((l3).toNatClampNeg)) ≤ a1) ∨ ((cv_80 l3 μ) = 0)) → xr_t (tm_I L xs) (d + 1) 79 69 [some (.inr (some (28, 0))), some (.inl a1), some (.inl l2), some (.inl l3)] [] μ Q) ∧ (¬ (((μ 31 0 ((l3).toNatClampNeg)) ≤ a1) ∨ ((cv_80 l3 μ) = 0)) → xr_t (tm_I L xs) (d + 1) 79 30 [some (.inr (some (28, 0))), some (.inl a1), some (.inl l2), some (.inl l3)] [] μ Q) by
        refine xr_br 2 (c := (μ 31 0 ((l3).toNatClampNeg)) ≤ a1) inferInstance (a := 69) (b := 22) (ls' := [some (.inr (some (28, 0))), some (.inl a1), some (.inl l2), some (.inl l3)]) (st' := []) (s' := μ) rfl (fun c2 => ?_) (fun c2 => ?_)
        · skip
          exact hE2.1 (Or.inl c2)
        · skip
          refine xr_go 2 (pc' := 24) (ls' := [some (.inr (some (28, 0))), some (.inl a1), some (.inl l2), some (.inl l3)]) (st' := [.inl l3, .inr (some (28, 0))]) (s' := μ) rfl ?_
          refine xr_cl (y' := 80) (as := [.inr (some (28, 0)), .inl l3]) (r := []) rfl rfl ?_
          refine tf_80 (d := d + 0) (μ := μ) (a1 := l3) (hi.2.1 c1 c2) ?_
          show xr_t (tm_I L xs) (d + 1) 79 27 [some (.inr (some (28, 0))), some (.inl a1), some (.inl l2), some (.inl l3)] [.inl (cv_80 l3 μ)] μ Q
          refine xr_br 1 (c := (cv_80 l3 μ) = 0) inferInstance (a := 69) (b := 30) (ls' := [some (.inr (some (28, 0))), some (.inl a1), some (.inl l2), some (.inl l3)]) (st' := []) (s' := μ) rfl (fun c3 => ?_) (fun c3 => ?_)
          · skip
            exact hE2.1 (Or.inr c3)
          · skip
            exact hE2.2 (fun z => z.elim c2 c3)
      refine ⟨fun c4 => ?_, fun c4 => ?_⟩
      · skip
        refine xr_go 2 (pc' := 4) (ls' := [some (.inr (some (28, 0))), some (.inl a1), some (.inl l2), some (.inl (l3 + 1))]) (st' := []) (s' := μ) rfl ?_
        try simp only [if_neg c1, if_pos c4] at h
        exact ih l2 (l3 + 1) μ (hi.2.2.1 c1 c4) h
      · skip
        refine xr_go 6 (pc' := 40) (ls' := [some (.inr (some (28, 0))), some (.inl a1), some (.inl l2), some (.inl l3)]) (st' := [.inl l3, .inr (some (29, 0)), .inl l2, .inr (some (29, 0))]) (s' := μ) rfl ?_
        refine xr_ial (n := 16) rfl rfl (hi.1 c1) ?_
        refine xr_ias (n := 16) rfl rfl (hi.2.2.2.1 c1 c4) ?_
        refine xr_go 6 (pc' := 52) (ls' := [some (.inr (some (28, 0))), some (.inl a1), some (.inl l2), some (.inl l3)]) (st' := [.inl l3, .inr (some (30, 0)), .inl l2, .inr (some (30, 0))]) (s' := (tm_wr μ 29 0 ((l2).toNatClampNeg) (μ 29 0 ((l3).toNatClampNeg)))) rfl ?_
        refine xr_ial (n := 16) rfl rfl (hi.1 c1) ?_
        refine xr_ias (n := 16) rfl rfl (hi.2.2.2.1 c1 c4) ?_
        refine xr_go 6 (pc' := 64) (ls' := [some (.inr (some (28, 0))), some (.inl a1), some (.inl l2), some (.inl l3)]) (st' := [.inl l3, .inr (some (31, 0)), .inl l2, .inr (some (31, 0))]) (s' := (tm_wr (tm_wr μ 29 0 ((l2).toNatClampNeg) (μ 29 0 ((l3).toNatClampNeg))) 30 0 ((l2).toNatClampNeg) (μ 30 0 ((l3).toNatClampNeg)))) rfl ?_
        refine xr_ial (n := 16) rfl rfl (hi.1 c1) ?_
        refine xr_ias (n := 16) rfl rfl (hi.2.2.2.1 c1 c4) ?_
        refine xr_go 3 (pc' := 4) (ls' := [some (.inr (some (28, 0))), some (.inl a1), some (.inl (l2 + 1)), some (.inl (l3 + 1))]) (st' := []) (s' := (tm_wr (tm_wr (tm_wr μ 29 0 ((l2).toNatClampNeg) (μ 29 0 ((l3).toNatClampNeg))) 30 0 ((l2).toNatClampNeg) (μ 30 0 ((l3).toNatClampNeg))) 31 0 ((l2).toNatClampNeg) (μ 31 0 ((l3).toNatClampNeg)))) rfl ?_
        try simp only [if_neg c1, if_neg c4] at h
        exact ih (l2 + 1) (l3 + 1) (tm_wr (tm_wr (tm_wr μ 29 0 ((l2).toNatClampNeg) (μ 29 0 ((l3).toNatClampNeg))) 30 0 ((l2).toNatClampNeg) (μ 30 0 ((l3).toNatClampNeg))) 31 0 ((l2).toNatClampNeg) (μ 31 0 ((l3).toNatClampNeg))) (hi.2.2.2.2 c1 c4) h
def cs_79 (a1 : Int32) (μ : tm_M) : tm_M := (cs_79_4 a1 64 0 0 μ)
def ci_79 (a1 : Int32) (μ : tm_M) : Prop := (ci_79_4 a1 64 0 0 μ)
set_option maxHeartbeats 4000000 in
set_option maxRecDepth 10000 in
theorem tf_79 {a1 : Int32} (hi : ci_79 a1 μ) (h : Q none (cs_79 a1 μ)) : xm_MW (tm_I L xs) (d + 2) 79 [.inr (some (28, 0)), .inl a1] μ Q := by
  refine xr_in2 [some (.inr (some (28, 0))), some (.inl a1), none, none] rfl rfl ?_
  unfold cs_79 at h
  unfold ci_79 at hi
  refine xr_go 4 (pc' := 4) (ls' := [some (.inr (some (28, 0))), some (.inl a1), some (.inl 0), some (.inl 0)]) (st' := []) (s' := μ) rfl ?_
  exact tl_79_4 64 0 0 μ (hi) h
-- BootNet$Records.add(IIII)Z
def cv_78 (a1 : Int32) (a2 : Int32) (a3 : Int32) (a4 : Int32) (μ : tm_M) : Int32 := (if (μ 28 0 3) < 16 then 1 else (if ((cs_79 a4 μ) 28 0 3) < 16 then 1 else 0))
def cs_78 (a1 : Int32) (a2 : Int32) (a3 : Int32) (a4 : Int32) (μ : tm_M) : tm_M := (if (μ 28 0 3) < 16 then (tm_wr (tm_wr (tm_wr (tm_wr μ 29 0 (((μ 28 0 3) : Int32).toNatClampNeg) a1) 30 0 (((μ 28 0 3) : Int32).toNatClampNeg) a2) 31 0 (((μ 28 0 3) : Int32).toNatClampNeg) a3) 28 0 3 ((μ 28 0 3) + 1)) else (if ((cs_79 a4 μ) 28 0 3) < 16 then (tm_wr (tm_wr (tm_wr (tm_wr (cs_79 a4 μ) 29 0 ((((cs_79 a4 μ) 28 0 3) : Int32).toNatClampNeg) a1) 30 0 ((((cs_79 a4 μ) 28 0 3) : Int32).toNatClampNeg) a2) 31 0 ((((cs_79 a4 μ) 28 0 3) : Int32).toNatClampNeg) a3) 28 0 3 (((cs_79 a4 μ) 28 0 3) + 1)) else (cs_79 a4 μ)))
def ci_78 (a1 : Int32) (a2 : Int32) (a3 : Int32) (a4 : Int32) (μ : tm_M) : Prop := (((μ 28 0 3) < 16) → tm_ix (μ 28 0 3) 16 = true) ∧ ((¬ ((μ 28 0 3) < 16)) → ci_79 a4 μ) ∧ ((¬ ((μ 28 0 3) < 16)) → (((cs_79 a4 μ) 28 0 3) < 16) → tm_ix ((cs_79 a4 μ) 28 0 3) 16 = true)
theorem cz_78 {a1 : Int32} {a2 : Int32} {a3 : Int32} {a4 : Int32} {μ : tm_M} : cv_78 a1 a2 a3 a4 μ = 0 ∨ cv_78 a1 a2 a3 a4 μ = 1 := by
  unfold cv_78
  (repeat' split) <;> first | exact Or.inl rfl | exact Or.inr rfl
set_option maxHeartbeats 4000000 in
set_option maxRecDepth 10000 in
theorem tf_78 {a1 : Int32} {a2 : Int32} {a3 : Int32} {a4 : Int32} (hi : ci_78 a1 a2 a3 a4 μ) (h : Q (some (.inl (cv_78 a1 a2 a3 a4 μ))) (cs_78 a1 a2 a3 a4 μ)) : xm_MW (tm_I L xs) (d + 3) 78 [.inr (some (28, 0)), .inl a1, .inl a2, .inl a3, .inl a4] μ Q := by
  refine xr_in2 [some (.inr (some (28, 0))), some (.inl a1), some (.inl a2), some (.inl a3), some (.inl a4)] rfl rfl ?_
  unfold cv_78 cs_78 at h
  unfold ci_78 at hi
  refine xr_br 4 (c := (μ 28 0 3) < 16) inferInstance (a := 15) (b := 9) (ls' := [some (.inr (some (28, 0))), some (.inl a1), some (.inl a2), some (.inl a3), some (.inl a4)]) (st' := []) (s' := μ) rfl (fun c1 => ?_) (fun c1 => ?_)
  · skip
    refine xr_br 4 (c := (μ 28 0 3) < 16) inferInstance (a := 26) (b := 24) (ls' := [some (.inr (some (28, 0))), some (.inl a1), some (.inl a2), some (.inl a3), some (.inl a4)]) (st' := []) (s' := μ) rfl (fun cx => ?_) (fun cx => ?_)
    rotate_left
    · exact absurd c1 cx
    refine xr_go 5 (pc' := 35) (ls' := [some (.inr (some (28, 0))), some (.inl a1), some (.inl a2), some (.inl a3), some (.inl a4)]) (st' := [.inl a1, .inl (μ 28 0 3), .inr (some (29, 0))]) (s' := μ) rfl ?_
    refine xr_ias (n := 16) rfl rfl (hi.1 c1) ?_
    refine xr_go 5 (pc' := 45) (ls' := [some (.inr (some (28, 0))), some (.inl a1), some (.inl a2), some (.inl a3), some (.inl a4)]) (st' := [.inl a2, .inl (μ 28 0 3), .inr (some (30, 0))]) (s' := (tm_wr μ 29 0 (((μ 28 0 3) : Int32).toNatClampNeg) a1)) rfl ?_
    refine xr_ias (n := 16) rfl rfl (hi.1 c1) ?_
    refine xr_go 5 (pc' := 55) (ls' := [some (.inr (some (28, 0))), some (.inl a1), some (.inl a2), some (.inl a3), some (.inl a4)]) (st' := [.inl a3, .inl (μ 28 0 3), .inr (some (31, 0))]) (s' := (tm_wr (tm_wr μ 29 0 (((μ 28 0 3) : Int32).toNatClampNeg) a1) 30 0 (((μ 28 0 3) : Int32).toNatClampNeg) a2)) rfl ?_
    refine xr_ias (n := 16) rfl rfl (hi.1 c1) ?_
    refine xr_go 7 (pc' := 67) (ls' := [some (.inr (some (28, 0))), some (.inl a1), some (.inl a2), some (.inl a3), some (.inl a4)]) (st' := [.inl 1]) (s' := (tm_wr (tm_wr (tm_wr (tm_wr μ 29 0 (((μ 28 0 3) : Int32).toNatClampNeg) a1) 30 0 (((μ 28 0 3) : Int32).toNatClampNeg) a2) 31 0 (((μ 28 0 3) : Int32).toNatClampNeg) a3) 28 0 3 ((μ 28 0 3) + 1))) rfl ?_
    try simp only [if_pos c1] at h
    exact xr_rt (v := some (.inl 1)) rfl h
  · skip
    refine xr_go 2 (pc' := 12) (ls' := [some (.inr (some (28, 0))), some (.inl a1), some (.inl a2), some (.inl a3), some (.inl a4)]) (st' := [.inl a4, .inr (some (28, 0))]) (s' := μ) rfl ?_
    refine xr_cl (y' := 79) (as := [.inr (some (28, 0)), .inl a4]) (r := []) rfl rfl ?_
    refine tf_79 (d := d + 0) (μ := μ) (a1 := a4) (hi.2.1 c1) ?_
    show xr_t (tm_I L xs) (d + 2) 78 15 [some (.inr (some (28, 0))), some (.inl a1), some (.inl a2), some (.inl a3), some (.inl a4)] [] (cs_79 a4 μ) Q
    generalize gμ1 : (cs_79 a4 μ) = μ1 at h hi ⊢
    refine xr_br 4 (c := (μ1 28 0 3) < 16) inferInstance (a := 26) (b := 24) (ls' := [some (.inr (some (28, 0))), some (.inl a1), some (.inl a2), some (.inl a3), some (.inl a4)]) (st' := []) (s' := μ1) rfl (fun c2 => ?_) (fun c2 => ?_)
    · skip
      refine xr_go 5 (pc' := 35) (ls' := [some (.inr (some (28, 0))), some (.inl a1), some (.inl a2), some (.inl a3), some (.inl a4)]) (st' := [.inl a1, .inl (μ1 28 0 3), .inr (some (29, 0))]) (s' := μ1) rfl ?_
      refine xr_ias (n := 16) rfl rfl (hi.2.2 c1 c2) ?_
      refine xr_go 5 (pc' := 45) (ls' := [some (.inr (some (28, 0))), some (.inl a1), some (.inl a2), some (.inl a3), some (.inl a4)]) (st' := [.inl a2, .inl (μ1 28 0 3), .inr (some (30, 0))]) (s' := (tm_wr μ1 29 0 (((μ1 28 0 3) : Int32).toNatClampNeg) a1)) rfl ?_
      refine xr_ias (n := 16) rfl rfl (hi.2.2 c1 c2) ?_
      refine xr_go 5 (pc' := 55) (ls' := [some (.inr (some (28, 0))), some (.inl a1), some (.inl a2), some (.inl a3), some (.inl a4)]) (st' := [.inl a3, .inl (μ1 28 0 3), .inr (some (31, 0))]) (s' := (tm_wr (tm_wr μ1 29 0 (((μ1 28 0 3) : Int32).toNatClampNeg) a1) 30 0 (((μ1 28 0 3) : Int32).toNatClampNeg) a2)) rfl ?_
      refine xr_ias (n := 16) rfl rfl (hi.2.2 c1 c2) ?_
      refine xr_go 7 (pc' := 67) (ls' := [some (.inr (some (28, 0))), some (.inl a1), some (.inl a2), some (.inl a3), some (.inl a4)]) (st' := [.inl 1]) (s' := (tm_wr (tm_wr (tm_wr (tm_wr μ1 29 0 (((μ1 28 0 3) : Int32).toNatClampNeg) a1) 30 0 (((μ1 28 0 3) : Int32).toNatClampNeg) a2) 31 0 (((μ1 28 0 3) : Int32).toNatClampNeg) a3) 28 0 3 ((μ1 28 0 3) + 1))) rfl ?_
      try simp only [if_neg c1, if_pos c2] at h
      exact xr_rt (v := some (.inl 1)) rfl h
    · skip
      refine xr_go 1 (pc' := 25) (ls' := [some (.inr (some (28, 0))), some (.inl a1), some (.inl a2), some (.inl a3), some (.inl a4)]) (st' := [.inl 0]) (s' := μ1) rfl ?_
      try simp only [if_neg c1, if_neg c2] at h
      exact xr_rt (v := some (.inl 0)) rfl h
-- BootNet$Server.recordLease(II)Z
def cv_91 (a1 : Int32) (a2 : Int32) (μ : tm_M) : Int32 := (if (cv_78 a1 a2 ((μ 1 0 3) + (μ 1 0 0)) (μ 1 0 3) μ) = 0 then 0 else 1)
def cs_91 (a1 : Int32) (a2 : Int32) (μ : tm_M) : tm_M := (if (cv_78 a1 a2 ((μ 1 0 3) + (μ 1 0 0)) (μ 1 0 3) μ) = 0 then (cs_78 a1 a2 ((μ 1 0 3) + (μ 1 0 0)) (μ 1 0 3) μ) else (cs_27 a1 a2 ((μ 1 0 3) + (μ 1 0 0)) (cs_78 a1 a2 ((μ 1 0 3) + (μ 1 0 0)) (μ 1 0 3) μ)))
def ci_91 (a1 : Int32) (a2 : Int32) (μ : tm_M) : Prop := (ci_78 a1 a2 ((μ 1 0 3) + (μ 1 0 0)) (μ 1 0 3) μ) ∧ ((¬ ((cv_78 a1 a2 ((μ 1 0 3) + (μ 1 0 0)) (μ 1 0 3) μ) = 0)) → ci_27 a1 a2 ((μ 1 0 3) + (μ 1 0 0)) (cs_78 a1 a2 ((μ 1 0 3) + (μ 1 0 0)) (μ 1 0 3) μ))
theorem cz_91 {a1 : Int32} {a2 : Int32} {μ : tm_M} : cv_91 a1 a2 μ = 0 ∨ cv_91 a1 a2 μ = 1 := by
  unfold cv_91
  (repeat' split) <;> first | exact Or.inl rfl | exact Or.inr rfl | exact cz_78
set_option maxHeartbeats 4000000 in
set_option maxRecDepth 10000 in
theorem tf_91 {a1 : Int32} {a2 : Int32} (hi : ci_91 a1 a2 μ) (h : Q (some (.inl (cv_91 a1 a2 μ))) (cs_91 a1 a2 μ)) : xm_MW (tm_I L xs) (d + 4) 91 [.inr (some (19, 0)), .inl a1, .inl a2] μ Q := by
  refine xr_in2 [some (.inr (some (19, 0))), some (.inl a1), some (.inl a2), none] rfl rfl ?_
  unfold cv_91 cs_91 at h
  unfold ci_91 at hi
  refine xr_go 16 (pc' := 30) (ls' := [some (.inr (some (19, 0))), some (.inl a1), some (.inl a2), some (.inl ((μ 1 0 3) + (μ 1 0 0)))]) (st' := [.inl (μ 1 0 3), .inl ((μ 1 0 3) + (μ 1 0 0)), .inl a2, .inl a1, .inr (some (28, 0))]) (s' := μ) rfl ?_
  refine xr_cl (y' := 78) (as := [.inr (some (28, 0)), .inl a1, .inl a2, .inl ((μ 1 0 3) + (μ 1 0 0)), .inl (μ 1 0 3)]) (r := []) rfl rfl ?_
  refine tf_78 (d := d + 0) (μ := μ) (a1 := a1) (a2 := a2) (a3 := ((μ 1 0 3) + (μ 1 0 0))) (a4 := (μ 1 0 3)) (hi.1) ?_
  show xr_t (tm_I L xs) (d + 3) 91 33 [some (.inr (some (19, 0))), some (.inl a1), some (.inl a2), some (.inl ((μ 1 0 3) + (μ 1 0 0)))] [.inl (cv_78 a1 a2 ((μ 1 0 3) + (μ 1 0 0)) (μ 1 0 3) μ)] (cs_78 a1 a2 ((μ 1 0 3) + (μ 1 0 0)) (μ 1 0 3) μ) Q
  have z1 : (cv_78 a1 a2 ((μ 1 0 3) + (μ 1 0 0)) (μ 1 0 3) μ) = 0 ∨ (cv_78 a1 a2 ((μ 1 0 3) + (μ 1 0 0)) (μ 1 0 3) μ) = 1 := cz_78
  generalize gv1 : (cv_78 a1 a2 ((μ 1 0 3) + (μ 1 0 0)) (μ 1 0 3) μ) = v1 at h hi z1 ⊢
  generalize gμ2 : (cs_78 a1 a2 ((μ 1 0 3) + (μ 1 0 0)) (μ 1 0 3) μ) = μ2 at h hi ⊢
  refine xr_br 1 (c := v1 = 0) inferInstance (a := 36) (b := 38) (ls' := [some (.inr (some (19, 0))), some (.inl a1), some (.inl a2), some (.inl ((μ 1 0 3) + (μ 1 0 0)))]) (st' := []) (s' := μ2) rfl (fun c1 => ?_) (fun c1 => ?_)
  · skip
    refine xr_go 1 (pc' := 37) (ls' := [some (.inr (some (19, 0))), some (.inl a1), some (.inl a2), some (.inl ((μ 1 0 3) + (μ 1 0 0)))]) (st' := [.inl 0]) (s' := μ2) rfl ?_
    try simp only [if_pos c1] at h
    exact xr_rt (v := some (.inl 0)) rfl h
  · skip
    refine xr_go 5 (pc' := 45) (ls' := [some (.inr (some (19, 0))), some (.inl a1), some (.inl a2), some (.inl ((μ 1 0 3) + (μ 1 0 0)))]) (st' := [.inl ((μ 1 0 3) + (μ 1 0 0)), .inl a2, .inl a1, .inr (some (22, 0))]) (s' := μ2) rfl ?_
    refine xr_cl (y' := 27) (as := [.inr (some (22, 0)), .inl a1, .inl a2, .inl ((μ 1 0 3) + (μ 1 0 0))]) (r := []) rfl rfl ?_
    refine tf_27 (d := d + 2) (μ := μ2) (a1 := a1) (a2 := a2) (a3 := ((μ 1 0 3) + (μ 1 0 0))) (hi.2 c1) ?_
    show xr_t (tm_I L xs) (d + 3) 91 48 [some (.inr (some (19, 0))), some (.inl a1), some (.inl a2), some (.inl ((μ 1 0 3) + (μ 1 0 0)))] [] (cs_27 a1 a2 ((μ 1 0 3) + (μ 1 0 0)) μ2) Q
    generalize gμ3 : (cs_27 a1 a2 ((μ 1 0 3) + (μ 1 0 0)) μ2) = μ3 at h hi ⊢
    refine xr_go 1 (pc' := 49) (ls' := [some (.inr (some (19, 0))), some (.inl a1), some (.inl a2), some (.inl ((μ 1 0 3) + (μ 1 0 0)))]) (st' := [.inl 1]) (s' := μ3) rfl ?_
    try simp only [if_neg c1] at h
    exact xr_rt (v := some (.inl 1)) rfl h
-- BootNet$Server.onRequest(LBootNet$Message;)V
def cs_89 (m1 : Nat) (μ : tm_M) : tm_M := (if (cv_90 (μ 4 m1 3) (μ 4 m1 1) μ) = 0 then (cs_96 4 (μ 4 m1 1) (μ 4 m1 2) (μ 4 m1 3) 0 μ) else (if (cv_91 (μ 4 m1 3) (μ 4 m1 1) μ) = 0 then (cs_96 4 ((cs_91 (μ 4 m1 3) (μ 4 m1 1) μ) 4 m1 1) ((cs_91 (μ 4 m1 3) (μ 4 m1 1) μ) 4 m1 2) ((cs_91 (μ 4 m1 3) (μ 4 m1 1) μ) 4 m1 3) 0 (cs_91 (μ 4 m1 3) (μ 4 m1 1) μ)) else (cs_96 3 ((cs_29 ((cs_91 (μ 4 m1 3) (μ 4 m1 1) μ) 4 m1 3) (cs_91 (μ 4 m1 3) (μ 4 m1 1) μ)) 4 m1 1) ((cs_29 ((cs_91 (μ 4 m1 3) (μ 4 m1 1) μ) 4 m1 3) (cs_91 (μ 4 m1 3) (μ 4 m1 1) μ)) 4 m1 2) ((cs_29 ((cs_91 (μ 4 m1 3) (μ 4 m1 1) μ) 4 m1 3) (cs_91 (μ 4 m1 3) (μ 4 m1 1) μ)) 4 m1 3) 0 (cs_29 ((cs_91 (μ 4 m1 3) (μ 4 m1 1) μ) 4 m1 3) (cs_91 (μ 4 m1 3) (μ 4 m1 1) μ)))))
def ci_89 (m1 : Nat) (μ : tm_M) : Prop := (ci_90 (μ 4 m1 3) (μ 4 m1 1) μ) ∧ (((cv_90 (μ 4 m1 3) (μ 4 m1 1) μ) = 0) → ci_96 4 (μ 4 m1 1) (μ 4 m1 2) (μ 4 m1 3) 0 μ) ∧ ((¬ ((cv_90 (μ 4 m1 3) (μ 4 m1 1) μ) = 0)) → ci_91 (μ 4 m1 3) (μ 4 m1 1) μ) ∧ ((¬ ((cv_90 (μ 4 m1 3) (μ 4 m1 1) μ) = 0)) → ((cv_91 (μ 4 m1 3) (μ 4 m1 1) μ) = 0) → ci_96 4 ((cs_91 (μ 4 m1 3) (μ 4 m1 1) μ) 4 m1 1) ((cs_91 (μ 4 m1 3) (μ 4 m1 1) μ) 4 m1 2) ((cs_91 (μ 4 m1 3) (μ 4 m1 1) μ) 4 m1 3) 0 (cs_91 (μ 4 m1 3) (μ 4 m1 1) μ)) ∧ ((¬ ((cv_90 (μ 4 m1 3) (μ 4 m1 1) μ) = 0)) → (¬ ((cv_91 (μ 4 m1 3) (μ 4 m1 1) μ) = 0)) → ci_29 ((cs_91 (μ 4 m1 3) (μ 4 m1 1) μ) 4 m1 3) (cs_91 (μ 4 m1 3) (μ 4 m1 1) μ)) ∧ ((¬ ((cv_90 (μ 4 m1 3) (μ 4 m1 1) μ) = 0)) → (¬ ((cv_91 (μ 4 m1 3) (μ 4 m1 1) μ) = 0)) → ci_96 3 ((cs_29 ((cs_91 (μ 4 m1 3) (μ 4 m1 1) μ) 4 m1 3) (cs_91 (μ 4 m1 3) (μ 4 m1 1) μ)) 4 m1 1) ((cs_29 ((cs_91 (μ 4 m1 3) (μ 4 m1 1) μ) 4 m1 3) (cs_91 (μ 4 m1 3) (μ 4 m1 1) μ)) 4 m1 2) ((cs_29 ((cs_91 (μ 4 m1 3) (μ 4 m1 1) μ) 4 m1 3) (cs_91 (μ 4 m1 3) (μ 4 m1 1) μ)) 4 m1 3) 0 (cs_29 ((cs_91 (μ 4 m1 3) (μ 4 m1 1) μ) 4 m1 3) (cs_91 (μ 4 m1 3) (μ 4 m1 1) μ)))
set_option maxHeartbeats 4000000 in
set_option maxRecDepth 10000 in
theorem tf_89 {m1 : Nat} (hi : ci_89 m1 μ) (h : Q none (cs_89 m1 μ)) : xm_MW (tm_I L xs) (d + 5) 89 [.inr (some (19, 0)), .inr (some (4, m1))] μ Q := by
  refine xr_in2 [some (.inr (some (19, 0))), some (.inr (some (4, m1)))] rfl rfl ?_
  unfold cs_89 at h
  unfold ci_89 at hi
  refine xr_go 5 (pc' := 9) (ls' := [some (.inr (some (19, 0))), some (.inr (some (4, m1)))]) (st' := [.inl (μ 4 m1 1), .inl (μ 4 m1 3), .inr (some (19, 0))]) (s' := μ) rfl ?_
  refine xr_cl (y' := 90) (as := [.inr (some (19, 0)), .inl (μ 4 m1 3), .inl (μ 4 m1 1)]) (r := []) rfl rfl ?_
  refine tf_90 (d := d + 2) (μ := μ) (a1 := (μ 4 m1 3)) (a2 := (μ 4 m1 1)) (hi.1) ?_
  show xr_t (tm_I L xs) (d + 4) 89 12 [some (.inr (some (19, 0))), some (.inr (some (4, m1)))] [.inl (cv_90 (μ 4 m1 3) (μ 4 m1 1) μ)] μ Q
  have z1 : (cv_90 (μ 4 m1 3) (μ 4 m1 1) μ) = 0 ∨ (cv_90 (μ 4 m1 3) (μ 4 m1 1) μ) = 1 := cz_90
  generalize gv1 : (cv_90 (μ 4 m1 3) (μ 4 m1 1) μ) = v1 at h hi z1 ⊢
  refine xr_br 1 (c := v1 = 0) inferInstance (a := 63) (b := 15) (ls' := [some (.inr (some (19, 0))), some (.inr (some (4, m1)))]) (st' := []) (s' := μ) rfl (fun c1 => ?_) (fun c1 => ?_)
  · skip
    refine xr_go 9 (pc' := 78) (ls' := [some (.inr (some (19, 0))), some (.inr (some (4, m1)))]) (st' := [.inl 0, .inl (μ 4 m1 3), .inl (μ 4 m1 2), .inl (μ 4 m1 1), .inl 4, .inr (some (19, 0))]) (s' := μ) rfl ?_
    refine xr_cl (y' := 96) (as := [.inr (some (19, 0)), .inl 4, .inl (μ 4 m1 1), .inl (μ 4 m1 2), .inl (μ 4 m1 3), .inl 0]) (r := []) rfl rfl ?_
    refine tf_96 (d := d + 2) (μ := μ) (a1 := 4) (a2 := (μ 4 m1 1)) (a3 := (μ 4 m1 2)) (a4 := (μ 4 m1 3)) (a5 := 0) (hi.2.1 c1) ?_
    show xr_t (tm_I L xs) (d + 4) 89 81 [some (.inr (some (19, 0))), some (.inr (some (4, m1)))] [.inr (some (4, (cv_96 4 (μ 4 m1 1) (μ 4 m1 2) (μ 4 m1 3) 0 μ)))] (cs_96 4 (μ 4 m1 1) (μ 4 m1 2) (μ 4 m1 3) 0 μ) Q
    generalize gv3 : (cv_96 4 (μ 4 m1 1) (μ 4 m1 2) (μ 4 m1 3) 0 μ) = v3 at h hi ⊢
    generalize gμ4 : (cs_96 4 (μ 4 m1 1) (μ 4 m1 2) (μ 4 m1 3) 0 μ) = μ4 at h hi ⊢
    refine xr_go 1 (pc' := 82) (ls' := [some (.inr (some (19, 0))), some (.inr (some (4, m1)))]) (st' := []) (s' := μ4) rfl ?_
    try simp only [if_pos c1] at h
    exact xr_rt (v := none) rfl h
  · skip
    refine xr_go 5 (pc' := 24) (ls' := [some (.inr (some (19, 0))), some (.inr (some (4, m1)))]) (st' := [.inl (μ 4 m1 1), .inl (μ 4 m1 3), .inr (some (19, 0))]) (s' := μ) rfl ?_
    refine xr_cl (y' := 91) (as := [.inr (some (19, 0)), .inl (μ 4 m1 3), .inl (μ 4 m1 1)]) (r := []) rfl rfl ?_
    refine tf_91 (d := d + 0) (μ := μ) (a1 := (μ 4 m1 3)) (a2 := (μ 4 m1 1)) (hi.2.2.1 c1) ?_
    show xr_t (tm_I L xs) (d + 4) 89 27 [some (.inr (some (19, 0))), some (.inr (some (4, m1)))] [.inl (cv_91 (μ 4 m1 3) (μ 4 m1 1) μ)] (cs_91 (μ 4 m1 3) (μ 4 m1 1) μ) Q
    have z5 : (cv_91 (μ 4 m1 3) (μ 4 m1 1) μ) = 0 ∨ (cv_91 (μ 4 m1 3) (μ 4 m1 1) μ) = 1 := cz_91
    generalize gv5 : (cv_91 (μ 4 m1 3) (μ 4 m1 1) μ) = v5 at h hi z5 ⊢
    generalize gμ6 : (cs_91 (μ 4 m1 3) (μ 4 m1 1) μ) = μ6 at h hi ⊢
    refine xr_br 1 (c := v5 = 0) inferInstance (a := 63) (b := 30) (ls' := [some (.inr (some (19, 0))), some (.inr (some (4, m1)))]) (st' := []) (s' := μ6) rfl (fun c2 => ?_) (fun c2 => ?_)
    · skip
      refine xr_go 9 (pc' := 78) (ls' := [some (.inr (some (19, 0))), some (.inr (some (4, m1)))]) (st' := [.inl 0, .inl (μ6 4 m1 3), .inl (μ6 4 m1 2), .inl (μ6 4 m1 1), .inl 4, .inr (some (19, 0))]) (s' := μ6) rfl ?_
      refine xr_cl (y' := 96) (as := [.inr (some (19, 0)), .inl 4, .inl (μ6 4 m1 1), .inl (μ6 4 m1 2), .inl (μ6 4 m1 3), .inl 0]) (r := []) rfl rfl ?_
      refine tf_96 (d := d + 2) (μ := μ6) (a1 := 4) (a2 := (μ6 4 m1 1)) (a3 := (μ6 4 m1 2)) (a4 := (μ6 4 m1 3)) (a5 := 0) (hi.2.2.2.1 c1 c2) ?_
      show xr_t (tm_I L xs) (d + 4) 89 81 [some (.inr (some (19, 0))), some (.inr (some (4, m1)))] [.inr (some (4, (cv_96 4 (μ6 4 m1 1) (μ6 4 m1 2) (μ6 4 m1 3) 0 μ6)))] (cs_96 4 (μ6 4 m1 1) (μ6 4 m1 2) (μ6 4 m1 3) 0 μ6) Q
      generalize gv8 : (cv_96 4 (μ6 4 m1 1) (μ6 4 m1 2) (μ6 4 m1 3) 0 μ6) = v8 at h hi ⊢
      generalize gμ9 : (cs_96 4 (μ6 4 m1 1) (μ6 4 m1 2) (μ6 4 m1 3) 0 μ6) = μ9 at h hi ⊢
      refine xr_go 1 (pc' := 82) (ls' := [some (.inr (some (19, 0))), some (.inr (some (4, m1)))]) (st' := []) (s' := μ9) rfl ?_
      try simp only [if_neg c1, if_pos c2] at h
      exact xr_rt (v := none) rfl h
    · skip
      refine xr_go 4 (pc' := 38) (ls' := [some (.inr (some (19, 0))), some (.inr (some (4, m1)))]) (st' := [.inl (μ6 4 m1 3), .inr (some (22, 0))]) (s' := μ6) rfl ?_
      refine xr_cl (y' := 29) (as := [.inr (some (22, 0)), .inl (μ6 4 m1 3)]) (r := []) rfl rfl ?_
      refine tf_29 (d := d + 3) (μ := μ6) (a1 := (μ6 4 m1 3)) (hi.2.2.2.2.1 c1 c2) ?_
      show xr_t (tm_I L xs) (d + 4) 89 41 [some (.inr (some (19, 0))), some (.inr (some (4, m1)))] [] (cs_29 (μ6 4 m1 3) μ6) Q
      generalize gμ10 : (cs_29 (μ6 4 m1 3) μ6) = μ10 at h hi ⊢
      refine xr_go 9 (pc' := 56) (ls' := [some (.inr (some (19, 0))), some (.inr (some (4, m1)))]) (st' := [.inl 0, .inl (μ10 4 m1 3), .inl (μ10 4 m1 2), .inl (μ10 4 m1 1), .inl 3, .inr (some (19, 0))]) (s' := μ10) rfl ?_
      refine xr_cl (y' := 96) (as := [.inr (some (19, 0)), .inl 3, .inl (μ10 4 m1 1), .inl (μ10 4 m1 2), .inl (μ10 4 m1 3), .inl 0]) (r := []) rfl rfl ?_
      refine tf_96 (d := d + 2) (μ := μ10) (a1 := 3) (a2 := (μ10 4 m1 1)) (a3 := (μ10 4 m1 2)) (a4 := (μ10 4 m1 3)) (a5 := 0) (hi.2.2.2.2.2 c1 c2) ?_
      show xr_t (tm_I L xs) (d + 4) 89 59 [some (.inr (some (19, 0))), some (.inr (some (4, m1)))] [.inr (some (4, (cv_96 3 (μ10 4 m1 1) (μ10 4 m1 2) (μ10 4 m1 3) 0 μ10)))] (cs_96 3 (μ10 4 m1 1) (μ10 4 m1 2) (μ10 4 m1 3) 0 μ10) Q
      generalize gv11 : (cv_96 3 (μ10 4 m1 1) (μ10 4 m1 2) (μ10 4 m1 3) 0 μ10) = v11 at h hi ⊢
      generalize gμ12 : (cs_96 3 (μ10 4 m1 1) (μ10 4 m1 2) (μ10 4 m1 3) 0 μ10) = μ12 at h hi ⊢
      refine xr_go 2 (pc' := 82) (ls' := [some (.inr (some (19, 0))), some (.inr (some (4, m1)))]) (st' := []) (s' := μ12) rfl ?_
      try simp only [if_neg c1, if_neg c2] at h
      exact xr_rt (v := none) rfl h
-- BootNet$Server.onDecline(LBootNet$Message;)V
def cs_92 (m1 : Nat) (μ : tm_M) : tm_M := (if ((cv_36 (μ 4 m1 3) μ) = 0) ∨ (¬ ((cv_23 (μ 4 m1 3) μ) = (μ 4 m1 1))) then μ else (cs_30 (μ 4 m1 3) ((μ 1 0 3) + (μ 1 0 0)) μ))
def ci_92 (m1 : Nat) (μ : tm_M) : Prop := ((¬ ((cv_36 (μ 4 m1 3) μ) = 0)) → ci_23 (μ 4 m1 3) μ) ∧ ((¬ (((cv_36 (μ 4 m1 3) μ) = 0) ∨ (¬ ((cv_23 (μ 4 m1 3) μ) = (μ 4 m1 1))))) → ci_30 (μ 4 m1 3) ((μ 1 0 3) + (μ 1 0 0)) μ)
set_option maxHeartbeats 4000000 in
set_option maxRecDepth 10000 in
theorem tf_92 {m1 : Nat} (hi : ci_92 m1 μ) (h : Q none (cs_92 m1 μ)) : xm_MW (tm_I L xs) (d + 2) 92 [.inr (some (19, 0)), .inr (some (4, m1))] μ Q := by
  refine xr_in2 [some (.inr (some (19, 0))), some (.inr (some (4, m1)))] rfl rfl ?_
  unfold cs_92 at h
  unfold ci_92 at hi
  refine xr_go 2 (pc' := 4) (ls' := [some (.inr (some (19, 0))), some (.inr (some (4, m1)))]) (st' := [.inl (μ 4 m1 3)]) (s' := μ) rfl ?_
  refine xr_cl (y' := 36) (as := [.inl (μ 4 m1 3)]) (r := []) rfl rfl ?_
  refine tf_36 (d := d + 0) (μ := μ) (a1 := (μ 4 m1 3)) ?_
  show xr_t (tm_I L xs) (d + 1) 92 7 [some (.inr (some (19, 0))), some (.inr (some (4, m1)))] [.inl (cv_36 (μ 4 m1 3) μ)] μ Q
  have z1 : (cv_36 (μ 4 m1 3) μ) = 0 ∨ (cv_36 (μ 4 m1 3) μ) = 1 := cz_36
  generalize gv1 : (cv_36 (μ 4 m1 3) μ) = v1 at h hi z1 ⊢
  suffices hE1 : (((v1 = 0) ∨ (¬ ((cv_23 (μ 4 m1 3) μ) = (μ 4 m1 1)))) → xr_t (tm_I L xs) (d + 1) 92 54 [some (.inr (some (19, 0))), some (.inr (some (4, m1)))] [] μ Q) ∧ (¬ ((v1 = 0) ∨ (¬ ((cv_23 (μ 4 m1 3) μ) = (μ 4 m1 1)))) → xr_t (tm_I L xs) (d + 1) 92 28 [some (.inr (some (19, 0))), some (.inr (some (4, m1)))] [] μ Q) by
    refine xr_br 1 (c := v1 = 0) inferInstance (a := 54) (b := 10) (ls' := [some (.inr (some (19, 0))), some (.inr (some (4, m1)))]) (st' := []) (s' := μ) rfl (fun c1 => ?_) (fun c1 => ?_)
    · skip
      exact hE1.1 (Or.inl c1)
    · skip
      refine xr_go 4 (pc' := 18) (ls' := [some (.inr (some (19, 0))), some (.inr (some (4, m1)))]) (st' := [.inl (μ 4 m1 3), .inr (some (22, 0))]) (s' := μ) rfl ?_
      refine xr_cl (y' := 23) (as := [.inr (some (22, 0)), .inl (μ 4 m1 3)]) (r := []) rfl rfl ?_
      refine tf_23 (d := d + 0) (μ := μ) (a1 := (μ 4 m1 3)) (hi.1 c1) ?_
      show xr_t (tm_I L xs) (d + 1) 92 21 [some (.inr (some (19, 0))), some (.inr (some (4, m1)))] [.inl (cv_23 (μ 4 m1 3) μ)] μ Q
      refine xr_br 3 (c := (cv_23 (μ 4 m1 3) μ) = (μ 4 m1 1)) inferInstance (a := 28) (b := 54) (ls' := [some (.inr (some (19, 0))), some (.inr (some (4, m1)))]) (st' := []) (s' := μ) rfl (fun c2 => ?_) (fun c2 => ?_)
      · skip
        exact hE1.2 (fun z => z.elim c1 (fun z => z c2))
      · skip
        exact hE1.1 (Or.inr c2)
  refine ⟨fun c3 => ?_, fun c3 => ?_⟩
  · skip
    try simp only [if_pos c3] at h
    exact xr_rt (v := none) rfl h
  · skip
    refine xr_go 11 (pc' := 51) (ls' := [some (.inr (some (19, 0))), some (.inr (some (4, m1)))]) (st' := [.inl ((μ 1 0 3) + (μ 1 0 0)), .inl (μ 4 m1 3), .inr (some (22, 0))]) (s' := μ) rfl ?_
    refine xr_cl (y' := 30) (as := [.inr (some (22, 0)), .inl (μ 4 m1 3), .inl ((μ 1 0 3) + (μ 1 0 0))]) (r := []) rfl rfl ?_
    refine tf_30 (d := d + 0) (μ := μ) (a1 := (μ 4 m1 3)) (a2 := ((μ 1 0 3) + (μ 1 0 0))) (hi.2 c3) ?_
    show xr_t (tm_I L xs) (d + 1) 92 54 [some (.inr (some (19, 0))), some (.inr (some (4, m1)))] [] (cs_30 (μ 4 m1 3) ((μ 1 0 3) + (μ 1 0 0)) μ) Q
    generalize gμ2 : (cs_30 (μ 4 m1 3) ((μ 1 0 3) + (μ 1 0 0)) μ) = μ2 at h hi ⊢
    try simp only [if_neg c3] at h
    exact xr_rt (v := none) rfl h
-- BootNet$Library.copyBlock(IIILBootNet$Message;)V
def cs_56 (a1 : Int32) (a2 : Int32) (a3 : Int32) (m4 : Nat) (μ : tm_M) : tm_M := (cs_74k14 m4 ((a1).toNatClampNeg) ((if (μ 15 0 ((a1).toNatClampNeg)) < ((a2 - 1) * a3) then (μ 15 0 ((a1).toNatClampNeg)) else ((a2 - 1) * a3)) : Int32) ((if ((μ 15 0 ((a1).toNatClampNeg)) - ((if (μ 15 0 ((a1).toNatClampNeg)) < ((a2 - 1) * a3) then (μ 15 0 ((a1).toNatClampNeg)) else ((a2 - 1) * a3)) : Int32)) < a3 then ((μ 15 0 ((a1).toNatClampNeg)) - ((if (μ 15 0 ((a1).toNatClampNeg)) < ((a2 - 1) * a3) then (μ 15 0 ((a1).toNatClampNeg)) else ((a2 - 1) * a3)) : Int32)) else a3) : Int32) μ)
def ci_56 (a1 : Int32) (a2 : Int32) (a3 : Int32) (m4 : Nat) (μ : tm_M) : Prop := (tm_ix a1 4 = true) ∧ (ci_74k14 m4 ((a1).toNatClampNeg) ((if (μ 15 0 ((a1).toNatClampNeg)) < ((a2 - 1) * a3) then (μ 15 0 ((a1).toNatClampNeg)) else ((a2 - 1) * a3)) : Int32) ((if ((μ 15 0 ((a1).toNatClampNeg)) - ((if (μ 15 0 ((a1).toNatClampNeg)) < ((a2 - 1) * a3) then (μ 15 0 ((a1).toNatClampNeg)) else ((a2 - 1) * a3)) : Int32)) < a3 then ((μ 15 0 ((a1).toNatClampNeg)) - ((if (μ 15 0 ((a1).toNatClampNeg)) < ((a2 - 1) * a3) then (μ 15 0 ((a1).toNatClampNeg)) else ((a2 - 1) * a3)) : Int32)) else a3) : Int32) μ)
set_option maxHeartbeats 4000000 in
set_option maxRecDepth 10000 in
theorem tf_56 {a1 : Int32} {a2 : Int32} {a3 : Int32} {m4 : Nat} (hi : ci_56 a1 a2 a3 m4 μ) (h : Q none (cs_56 a1 a2 a3 m4 μ)) : xm_MW (tm_I L xs) (d + 2) 56 [.inr (some (12, 0)), .inl a1, .inl a2, .inl a3, .inr (some (4, m4))] μ Q := by
  refine xr_in2 [some (.inr (some (12, 0))), some (.inl a1), some (.inl a2), some (.inl a3), some (.inr (some (4, m4))), none] rfl rfl ?_
  unfold cs_56 at h
  unfold ci_56 at hi
  refine xr_go 8 (pc' := 10) (ls' := [some (.inr (some (12, 0))), some (.inl a1), some (.inl a2), some (.inl a3), some (.inr (some (4, m4))), none]) (st' := [.inl a1, .inr (some (15, 0)), .inl ((a2 - 1) * a3)]) (s' := μ) rfl ?_
  refine xr_ial (n := 4) rfl rfl (hi.1) ?_
  refine xr_go 6 (pc' := 23) (ls' := [some (.inr (some (12, 0))), some (.inl a1), some (.inl a2), some (.inl a3), some (.inr (some (4, m4))), some (.inl ((if (μ 15 0 ((a1).toNatClampNeg)) < ((a2 - 1) * a3) then (μ 15 0 ((a1).toNatClampNeg)) else ((a2 - 1) * a3)) : Int32))]) (st' := [.inl a1, .inr (some (13, 0)), .inr (some (4, m4))]) (s' := μ) rfl ?_
  refine xr_aal (n := 4) (w := (14, (a1).toNatClampNeg)) rfl rfl (hi.1) rfl ?_
  refine xr_go 5 (pc' := 32) (ls' := [some (.inr (some (12, 0))), some (.inl a1), some (.inl a2), some (.inl a3), some (.inr (some (4, m4))), some (.inl ((if (μ 15 0 ((a1).toNatClampNeg)) < ((a2 - 1) * a3) then (μ 15 0 ((a1).toNatClampNeg)) else ((a2 - 1) * a3)) : Int32))]) (st' := [.inl a1, .inr (some (15, 0)), .inl a3, .inl ((if (μ 15 0 ((a1).toNatClampNeg)) < ((a2 - 1) * a3) then (μ 15 0 ((a1).toNatClampNeg)) else ((a2 - 1) * a3)) : Int32), .inr (some (14, (a1).toNatClampNeg)), .inr (some (4, m4))]) (s' := μ) rfl ?_
  refine xr_ial (n := 4) rfl rfl (hi.1) ?_
  refine xr_go 3 (pc' := 39) (ls' := [some (.inr (some (12, 0))), some (.inl a1), some (.inl a2), some (.inl a3), some (.inr (some (4, m4))), some (.inl ((if (μ 15 0 ((a1).toNatClampNeg)) < ((a2 - 1) * a3) then (μ 15 0 ((a1).toNatClampNeg)) else ((a2 - 1) * a3)) : Int32))]) (st' := [.inl ((if ((μ 15 0 ((a1).toNatClampNeg)) - ((if (μ 15 0 ((a1).toNatClampNeg)) < ((a2 - 1) * a3) then (μ 15 0 ((a1).toNatClampNeg)) else ((a2 - 1) * a3)) : Int32)) < a3 then ((μ 15 0 ((a1).toNatClampNeg)) - ((if (μ 15 0 ((a1).toNatClampNeg)) < ((a2 - 1) * a3) then (μ 15 0 ((a1).toNatClampNeg)) else ((a2 - 1) * a3)) : Int32)) else a3) : Int32), .inl ((if (μ 15 0 ((a1).toNatClampNeg)) < ((a2 - 1) * a3) then (μ 15 0 ((a1).toNatClampNeg)) else ((a2 - 1) * a3)) : Int32), .inr (some (14, (a1).toNatClampNeg)), .inr (some (4, m4))]) (s' := μ) rfl ?_
  refine xr_cl (y' := 74) (as := [.inr (some (4, m4)), .inr (some (14, (a1).toNatClampNeg)), .inl ((if (μ 15 0 ((a1).toNatClampNeg)) < ((a2 - 1) * a3) then (μ 15 0 ((a1).toNatClampNeg)) else ((a2 - 1) * a3)) : Int32), .inl ((if ((μ 15 0 ((a1).toNatClampNeg)) - ((if (μ 15 0 ((a1).toNatClampNeg)) < ((a2 - 1) * a3) then (μ 15 0 ((a1).toNatClampNeg)) else ((a2 - 1) * a3)) : Int32)) < a3 then ((μ 15 0 ((a1).toNatClampNeg)) - ((if (μ 15 0 ((a1).toNatClampNeg)) < ((a2 - 1) * a3) then (μ 15 0 ((a1).toNatClampNeg)) else ((a2 - 1) * a3)) : Int32)) else a3) : Int32)]) (r := []) rfl rfl ?_
  refine tf_74k14 (d := d + 0) (μ := μ) (i := m4) (m1 := ((a1).toNatClampNeg)) (a2 := ((if (μ 15 0 ((a1).toNatClampNeg)) < ((a2 - 1) * a3) then (μ 15 0 ((a1).toNatClampNeg)) else ((a2 - 1) * a3)) : Int32)) (a3 := ((if ((μ 15 0 ((a1).toNatClampNeg)) - ((if (μ 15 0 ((a1).toNatClampNeg)) < ((a2 - 1) * a3) then (μ 15 0 ((a1).toNatClampNeg)) else ((a2 - 1) * a3)) : Int32)) < a3 then ((μ 15 0 ((a1).toNatClampNeg)) - ((if (μ 15 0 ((a1).toNatClampNeg)) < ((a2 - 1) * a3) then (μ 15 0 ((a1).toNatClampNeg)) else ((a2 - 1) * a3)) : Int32)) else a3) : Int32)) (hi.2) ?_
  show xr_t (tm_I L xs) (d + 1) 56 42 [some (.inr (some (12, 0))), some (.inl a1), some (.inl a2), some (.inl a3), some (.inr (some (4, m4))), some (.inl ((if (μ 15 0 ((a1).toNatClampNeg)) < ((a2 - 1) * a3) then (μ 15 0 ((a1).toNatClampNeg)) else ((a2 - 1) * a3)) : Int32))] [] (cs_74k14 m4 ((a1).toNatClampNeg) ((if (μ 15 0 ((a1).toNatClampNeg)) < ((a2 - 1) * a3) then (μ 15 0 ((a1).toNatClampNeg)) else ((a2 - 1) * a3)) : Int32) ((if ((μ 15 0 ((a1).toNatClampNeg)) - ((if (μ 15 0 ((a1).toNatClampNeg)) < ((a2 - 1) * a3) then (μ 15 0 ((a1).toNatClampNeg)) else ((a2 - 1) * a3)) : Int32)) < a3 then ((μ 15 0 ((a1).toNatClampNeg)) - ((if (μ 15 0 ((a1).toNatClampNeg)) < ((a2 - 1) * a3) then (μ 15 0 ((a1).toNatClampNeg)) else ((a2 - 1) * a3)) : Int32)) else a3) : Int32) μ) Q
  generalize gμ1 : (cs_74k14 m4 ((a1).toNatClampNeg) ((if (μ 15 0 ((a1).toNatClampNeg)) < ((a2 - 1) * a3) then (μ 15 0 ((a1).toNatClampNeg)) else ((a2 - 1) * a3)) : Int32) ((if ((μ 15 0 ((a1).toNatClampNeg)) - ((if (μ 15 0 ((a1).toNatClampNeg)) < ((a2 - 1) * a3) then (μ 15 0 ((a1).toNatClampNeg)) else ((a2 - 1) * a3)) : Int32)) < a3 then ((μ 15 0 ((a1).toNatClampNeg)) - ((if (μ 15 0 ((a1).toNatClampNeg)) < ((a2 - 1) * a3) then (μ 15 0 ((a1).toNatClampNeg)) else ((a2 - 1) * a3)) : Int32)) else a3) : Int32) μ) = μ1 at h hi ⊢
  exact xr_rt (v := none) rfl h
-- BootNet$Server.sendBlock(ILBootNet$Transfer;)V
def cs_95 (a1 : Int32) (m2 : Nat) (μ : tm_M) : tm_M := (tm_wr (tm_wr (cs_56 ((cs_96 9 a1 0 (μ 21 m2 1) (μ 21 m2 2) μ) 21 m2 1) ((cs_96 9 a1 0 (μ 21 m2 1) (μ 21 m2 2) μ) 21 m2 2) ((cs_96 9 a1 0 (μ 21 m2 1) (μ 21 m2 2) μ) 1 0 2) (cv_96 9 a1 0 (μ 21 m2 1) (μ 21 m2 2) μ) (cs_96 9 a1 0 (μ 21 m2 1) (μ 21 m2 2) μ)) 21 m2 5 ((cs_56 ((cs_96 9 a1 0 (μ 21 m2 1) (μ 21 m2 2) μ) 21 m2 1) ((cs_96 9 a1 0 (μ 21 m2 1) (μ 21 m2 2) μ) 21 m2 2) ((cs_96 9 a1 0 (μ 21 m2 1) (μ 21 m2 2) μ) 1 0 2) (cv_96 9 a1 0 (μ 21 m2 1) (μ 21 m2 2) μ) (cs_96 9 a1 0 (μ 21 m2 1) (μ 21 m2 2) μ)) 4 (cv_96 9 a1 0 (μ 21 m2 1) (μ 21 m2 2) μ) 6)) 21 m2 4 (((cs_56 ((cs_96 9 a1 0 (μ 21 m2 1) (μ 21 m2 2) μ) 21 m2 1) ((cs_96 9 a1 0 (μ 21 m2 1) (μ 21 m2 2) μ) 21 m2 2) ((cs_96 9 a1 0 (μ 21 m2 1) (μ 21 m2 2) μ) 1 0 2) (cv_96 9 a1 0 (μ 21 m2 1) (μ 21 m2 2) μ) (cs_96 9 a1 0 (μ 21 m2 1) (μ 21 m2 2) μ)) 1 0 3) + 3))
def ci_95 (a1 : Int32) (m2 : Nat) (μ : tm_M) : Prop := (ci_96 9 a1 0 (μ 21 m2 1) (μ 21 m2 2) μ) ∧ (ci_56 ((cs_96 9 a1 0 (μ 21 m2 1) (μ 21 m2 2) μ) 21 m2 1) ((cs_96 9 a1 0 (μ 21 m2 1) (μ 21 m2 2) μ) 21 m2 2) ((cs_96 9 a1 0 (μ 21 m2 1) (μ 21 m2 2) μ) 1 0 2) (cv_96 9 a1 0 (μ 21 m2 1) (μ 21 m2 2) μ) (cs_96 9 a1 0 (μ 21 m2 1) (μ 21 m2 2) μ))
set_option maxHeartbeats 4000000 in
set_option maxRecDepth 10000 in
theorem tf_95 {a1 : Int32} {m2 : Nat} (hi : ci_95 a1 m2 μ) (h : Q none (cs_95 a1 m2 μ)) : xm_MW (tm_I L xs) (d + 3) 95 [.inr (some (19, 0)), .inl a1, .inr (some (21, m2))] μ Q := by
  refine xr_in2 [some (.inr (some (19, 0))), some (.inl a1), some (.inr (some (21, m2))), none] rfl rfl ?_
  unfold cs_95 at h
  unfold ci_95 at hi
  refine xr_go 8 (pc' := 13) (ls' := [some (.inr (some (19, 0))), some (.inl a1), some (.inr (some (21, m2))), none]) (st' := [.inl (μ 21 m2 2), .inl (μ 21 m2 1), .inl 0, .inl a1, .inl 9, .inr (some (19, 0))]) (s' := μ) rfl ?_
  refine xr_cl (y' := 96) (as := [.inr (some (19, 0)), .inl 9, .inl a1, .inl 0, .inl (μ 21 m2 1), .inl (μ 21 m2 2)]) (r := []) rfl rfl ?_
  refine tf_96 (d := d + 0) (μ := μ) (a1 := 9) (a2 := a1) (a3 := 0) (a4 := (μ 21 m2 1)) (a5 := (μ 21 m2 2)) (hi.1) ?_
  show xr_t (tm_I L xs) (d + 2) 95 16 [some (.inr (some (19, 0))), some (.inl a1), some (.inr (some (21, m2))), none] [.inr (some (4, (cv_96 9 a1 0 (μ 21 m2 1) (μ 21 m2 2) μ)))] (cs_96 9 a1 0 (μ 21 m2 1) (μ 21 m2 2) μ) Q
  generalize gv1 : (cv_96 9 a1 0 (μ 21 m2 1) (μ 21 m2 2) μ) = v1 at h hi ⊢
  generalize gμ2 : (cs_96 9 a1 0 (μ 21 m2 1) (μ 21 m2 2) μ) = μ2 at h hi ⊢
  refine xr_go 11 (pc' := 37) (ls' := [some (.inr (some (19, 0))), some (.inl a1), some (.inr (some (21, m2))), some (.inr (some (4, v1)))]) (st' := [.inr (some (4, v1)), .inl (μ2 1 0 2), .inl (μ2 21 m2 2), .inl (μ2 21 m2 1), .inr (some (12, 0))]) (s' := μ2) rfl ?_
  refine xr_cl (y' := 56) (as := [.inr (some (12, 0)), .inl (μ2 21 m2 1), .inl (μ2 21 m2 2), .inl (μ2 1 0 2), .inr (some (4, v1))]) (r := []) rfl rfl ?_
  refine tf_56 (d := d + 0) (μ := μ2) (a1 := (μ2 21 m2 1)) (a2 := (μ2 21 m2 2)) (a3 := (μ2 1 0 2)) (m4 := v1) (hi.2) ?_
  show xr_t (tm_I L xs) (d + 2) 95 40 [some (.inr (some (19, 0))), some (.inl a1), some (.inr (some (21, m2))), some (.inr (some (4, v1)))] [] (cs_56 (μ2 21 m2 1) (μ2 21 m2 2) (μ2 1 0 2) v1 μ2) Q
  generalize gμ3 : (cs_56 (μ2 21 m2 1) (μ2 21 m2 2) (μ2 1 0 2) v1 μ2) = μ3 at h hi ⊢
  refine xr_go 11 (pc' := 61) (ls' := [some (.inr (some (19, 0))), some (.inl a1), some (.inr (some (21, m2))), some (.inr (some (4, v1)))]) (st' := []) (s' := (tm_wr (tm_wr μ3 21 m2 5 (μ3 4 v1 6)) 21 m2 4 ((μ3 1 0 3) + 3))) rfl ?_
  exact xr_rt (v := none) rfl h
-- BootNet$Server.onRead(LBootNet$Message;)V
def cs_93 (m1 : Nat) (μ : tm_M) : tm_M := (if (cv_55 (μ 4 m1 3) μ) = 0 then (cs_96 11 (μ 4 m1 1) 0 (μ 4 m1 3) 0 μ) else (cs_95 (μ 4 m1 1) (((μ 4 m1 1) : Int32).toNatClampNeg) (tm_wr (tm_wr (tm_wr (tm_wr μ 21 (((μ 4 m1 1) : Int32).toNatClampNeg) 0 1) 21 (((μ 4 m1 1) : Int32).toNatClampNeg) 1 (μ 4 m1 3)) 21 (((μ 4 m1 1) : Int32).toNatClampNeg) 2 1) 21 (((μ 4 m1 1) : Int32).toNatClampNeg) 3 1)))
def ci_93 (m1 : Nat) (μ : tm_M) : Prop := (ci_55 (μ 4 m1 3) μ) ∧ (((cv_55 (μ 4 m1 3) μ) = 0) → ci_96 11 (μ 4 m1 1) 0 (μ 4 m1 3) 0 μ) ∧ ((¬ ((cv_55 (μ 4 m1 3) μ) = 0)) → tm_ix (μ 4 m1 1) 6 = true) ∧ ((¬ ((cv_55 (μ 4 m1 3) μ) = 0)) → ci_95 (μ 4 m1 1) (((μ 4 m1 1) : Int32).toNatClampNeg) (tm_wr (tm_wr (tm_wr (tm_wr μ 21 (((μ 4 m1 1) : Int32).toNatClampNeg) 0 1) 21 (((μ 4 m1 1) : Int32).toNatClampNeg) 1 (μ 4 m1 3)) 21 (((μ 4 m1 1) : Int32).toNatClampNeg) 2 1) 21 (((μ 4 m1 1) : Int32).toNatClampNeg) 3 1))
set_option maxHeartbeats 4000000 in
set_option maxRecDepth 10000 in
theorem tf_93 {m1 : Nat} (hi : ci_93 m1 μ) (h : Q none (cs_93 m1 μ)) : xm_MW (tm_I L xs) (d + 4) 93 [.inr (some (19, 0)), .inr (some (4, m1))] μ Q := by
  refine xr_in2 [some (.inr (some (19, 0))), some (.inr (some (4, m1))), none] rfl rfl ?_
  unfold cs_93 at h
  unfold ci_93 at hi
  refine xr_go 4 (pc' := 8) (ls' := [some (.inr (some (19, 0))), some (.inr (some (4, m1))), none]) (st' := [.inl (μ 4 m1 3), .inr (some (12, 0))]) (s' := μ) rfl ?_
  refine xr_cl (y' := 55) (as := [.inr (some (12, 0)), .inl (μ 4 m1 3)]) (r := []) rfl rfl ?_
  refine tf_55 (d := d + 1) (μ := μ) (a1 := (μ 4 m1 3)) (hi.1) ?_
  show xr_t (tm_I L xs) (d + 3) 93 11 [some (.inr (some (19, 0))), some (.inr (some (4, m1))), none] [.inl (cv_55 (μ 4 m1 3) μ)] μ Q
  have z1 : (cv_55 (μ 4 m1 3) μ) = 0 ∨ (cv_55 (μ 4 m1 3) μ) = 1 := cz_55
  generalize gv1 : (cv_55 (μ 4 m1 3) μ) = v1 at h hi z1 ⊢
  refine xr_br 1 (c := v1 = 0) inferInstance (a := 14) (b := 32) (ls' := [some (.inr (some (19, 0))), some (.inr (some (4, m1))), none]) (st' := []) (s' := μ) rfl (fun c1 => ?_) (fun c1 => ?_)
  · skip
    refine xr_go 8 (pc' := 27) (ls' := [some (.inr (some (19, 0))), some (.inr (some (4, m1))), none]) (st' := [.inl 0, .inl (μ 4 m1 3), .inl 0, .inl (μ 4 m1 1), .inl 11, .inr (some (19, 0))]) (s' := μ) rfl ?_
    refine xr_cl (y' := 96) (as := [.inr (some (19, 0)), .inl 11, .inl (μ 4 m1 1), .inl 0, .inl (μ 4 m1 3), .inl 0]) (r := []) rfl rfl ?_
    refine tf_96 (d := d + 1) (μ := μ) (a1 := 11) (a2 := (μ 4 m1 1)) (a3 := 0) (a4 := (μ 4 m1 3)) (a5 := 0) (hi.2.1 c1) ?_
    show xr_t (tm_I L xs) (d + 3) 93 30 [some (.inr (some (19, 0))), some (.inr (some (4, m1))), none] [.inr (some (4, (cv_96 11 (μ 4 m1 1) 0 (μ 4 m1 3) 0 μ)))] (cs_96 11 (μ 4 m1 1) 0 (μ 4 m1 3) 0 μ) Q
    generalize gv2 : (cv_96 11 (μ 4 m1 1) 0 (μ 4 m1 3) 0 μ) = v2 at h hi ⊢
    generalize gμ3 : (cs_96 11 (μ 4 m1 1) 0 (μ 4 m1 3) 0 μ) = μ3 at h hi ⊢
    refine xr_go 1 (pc' := 31) (ls' := [some (.inr (some (19, 0))), some (.inr (some (4, m1))), none]) (st' := []) (s' := μ3) rfl ?_
    try simp only [if_pos c1] at h
    exact xr_rt (v := none) rfl h
  · skip
    refine xr_go 4 (pc' := 40) (ls' := [some (.inr (some (19, 0))), some (.inr (some (4, m1))), none]) (st' := [.inl (μ 4 m1 1), .inr (some (20, 0))]) (s' := μ) rfl ?_
    refine xr_aal (n := 6) (w := (21, ((μ 4 m1 1) : Int32).toNatClampNeg)) rfl rfl (hi.2.2.1 c1) rfl ?_
    refine xr_go 18 (pc' := 71) (ls' := [some (.inr (some (19, 0))), some (.inr (some (4, m1))), some (.inr (some (21, ((μ 4 m1 1) : Int32).toNatClampNeg)))]) (st' := [.inr (some (21, ((μ 4 m1 1) : Int32).toNatClampNeg)), .inl (μ 4 m1 1), .inr (some (19, 0))]) (s' := (tm_wr (tm_wr (tm_wr (tm_wr μ 21 (((μ 4 m1 1) : Int32).toNatClampNeg) 0 1) 21 (((μ 4 m1 1) : Int32).toNatClampNeg) 1 (μ 4 m1 3)) 21 (((μ 4 m1 1) : Int32).toNatClampNeg) 2 1) 21 (((μ 4 m1 1) : Int32).toNatClampNeg) 3 1)) rfl ?_
    refine xr_cl (y' := 95) (as := [.inr (some (19, 0)), .inl (μ 4 m1 1), .inr (some (21, ((μ 4 m1 1) : Int32).toNatClampNeg))]) (r := []) rfl rfl ?_
    refine tf_95 (d := d + 0) (μ := (tm_wr (tm_wr (tm_wr (tm_wr μ 21 (((μ 4 m1 1) : Int32).toNatClampNeg) 0 1) 21 (((μ 4 m1 1) : Int32).toNatClampNeg) 1 (μ 4 m1 3)) 21 (((μ 4 m1 1) : Int32).toNatClampNeg) 2 1) 21 (((μ 4 m1 1) : Int32).toNatClampNeg) 3 1)) (a1 := (μ 4 m1 1)) (m2 := (((μ 4 m1 1) : Int32).toNatClampNeg)) (hi.2.2.2 c1) ?_
    show xr_t (tm_I L xs) (d + 3) 93 74 [some (.inr (some (19, 0))), some (.inr (some (4, m1))), some (.inr (some (21, ((μ 4 m1 1) : Int32).toNatClampNeg)))] [] (cs_95 (μ 4 m1 1) (((μ 4 m1 1) : Int32).toNatClampNeg) (tm_wr (tm_wr (tm_wr (tm_wr μ 21 (((μ 4 m1 1) : Int32).toNatClampNeg) 0 1) 21 (((μ 4 m1 1) : Int32).toNatClampNeg) 1 (μ 4 m1 3)) 21 (((μ 4 m1 1) : Int32).toNatClampNeg) 2 1) 21 (((μ 4 m1 1) : Int32).toNatClampNeg) 3 1)) Q
    generalize gμ4 : (cs_95 (μ 4 m1 1) (((μ 4 m1 1) : Int32).toNatClampNeg) (tm_wr (tm_wr (tm_wr (tm_wr μ 21 (((μ 4 m1 1) : Int32).toNatClampNeg) 0 1) 21 (((μ 4 m1 1) : Int32).toNatClampNeg) 1 (μ 4 m1 3)) 21 (((μ 4 m1 1) : Int32).toNatClampNeg) 2 1) 21 (((μ 4 m1 1) : Int32).toNatClampNeg) 3 1)) = μ4 at h hi ⊢
    try simp only [if_neg c1] at h
    exact xr_rt (v := none) rfl h
-- BootNet$Server.onGot(LBootNet$Message;)V
def cs_94 (m1 : Nat) (μ : tm_M) : tm_M := (if ((μ 21 (((μ 4 m1 1) : Int32).toNatClampNeg) 0) = 0) ∨ ((¬ ((μ 21 (((μ 4 m1 1) : Int32).toNatClampNeg) 1) = (μ 4 m1 3))) ∨ (¬ ((μ 21 (((μ 4 m1 1) : Int32).toNatClampNeg) 2) = (μ 4 m1 4)))) then μ else (if (μ 1 0 2) ≤ (μ 21 (((μ 4 m1 1) : Int32).toNatClampNeg) 5) then (cs_95 (μ 4 m1 1) (((μ 4 m1 1) : Int32).toNatClampNeg) (tm_wr (tm_wr μ 21 (((μ 4 m1 1) : Int32).toNatClampNeg) 2 ((μ 21 (((μ 4 m1 1) : Int32).toNatClampNeg) 2) + 1)) 21 (((μ 4 m1 1) : Int32).toNatClampNeg) 3 1)) else (tm_wr μ 21 (((μ 4 m1 1) : Int32).toNatClampNeg) 0 0)))
def ci_94 (m1 : Nat) (μ : tm_M) : Prop := (tm_ix (μ 4 m1 1) 6 = true) ∧ ((¬ (((μ 21 (((μ 4 m1 1) : Int32).toNatClampNeg) 0) = 0) ∨ ((¬ ((μ 21 (((μ 4 m1 1) : Int32).toNatClampNeg) 1) = (μ 4 m1 3))) ∨ (¬ ((μ 21 (((μ 4 m1 1) : Int32).toNatClampNeg) 2) = (μ 4 m1 4)))))) → ((μ 1 0 2) ≤ (μ 21 (((μ 4 m1 1) : Int32).toNatClampNeg) 5)) → ci_95 (μ 4 m1 1) (((μ 4 m1 1) : Int32).toNatClampNeg) (tm_wr (tm_wr μ 21 (((μ 4 m1 1) : Int32).toNatClampNeg) 2 ((μ 21 (((μ 4 m1 1) : Int32).toNatClampNeg) 2) + 1)) 21 (((μ 4 m1 1) : Int32).toNatClampNeg) 3 1))
set_option maxHeartbeats 4000000 in
set_option maxRecDepth 10000 in
theorem tf_94 {m1 : Nat} (hi : ci_94 m1 μ) (h : Q none (cs_94 m1 μ)) : xm_MW (tm_I L xs) (d + 4) 94 [.inr (some (19, 0)), .inr (some (4, m1))] μ Q := by
  refine xr_in2 [some (.inr (some (19, 0))), some (.inr (some (4, m1))), none] rfl rfl ?_
  unfold cs_94 at h
  unfold ci_94 at hi
  refine xr_go 4 (pc' := 8) (ls' := [some (.inr (some (19, 0))), some (.inr (some (4, m1))), none]) (st' := [.inl (μ 4 m1 1), .inr (some (20, 0))]) (s' := μ) rfl ?_
  refine xr_aal (n := 6) (w := (21, ((μ 4 m1 1) : Int32).toNatClampNeg)) rfl rfl (hi.1) rfl ?_
  suffices hE1 : ((((μ 21 (((μ 4 m1 1) : Int32).toNatClampNeg) 0) = 0) ∨ ((¬ ((μ 21 (((μ 4 m1 1) : Int32).toNatClampNeg) 1) = (μ 4 m1 3))) ∨ (¬ ((μ 21 (((μ 4 m1 1) : Int32).toNatClampNeg) 2) = (μ 4 m1 4))))) → xr_t (tm_I L xs) (d + 3) 94 39 [some (.inr (some (19, 0))), some (.inr (some (4, m1))), some (.inr (some (21, ((μ 4 m1 1) : Int32).toNatClampNeg)))] [] μ Q) ∧ (¬ (((μ 21 (((μ 4 m1 1) : Int32).toNatClampNeg) 0) = 0) ∨ ((¬ ((μ 21 (((μ 4 m1 1) : Int32).toNatClampNeg) 1) = (μ 4 m1 3))) ∨ (¬ ((μ 21 (((μ 4 m1 1) : Int32).toNatClampNeg) 2) = (μ 4 m1 4))))) → xr_t (tm_I L xs) (d + 3) 94 40 [some (.inr (some (19, 0))), some (.inr (some (4, m1))), some (.inr (some (21, ((μ 4 m1 1) : Int32).toNatClampNeg)))] [] μ Q) by
    refine xr_br 4 (c := (μ 21 (((μ 4 m1 1) : Int32).toNatClampNeg) 0) = 0) inferInstance (a := 39) (b := 17) (ls' := [some (.inr (some (19, 0))), some (.inr (some (4, m1))), some (.inr (some (21, ((μ 4 m1 1) : Int32).toNatClampNeg)))]) (st' := []) (s' := μ) rfl (fun c1 => ?_) (fun c1 => ?_)
    · skip
      exact hE1.1 (Or.inl c1)
    · skip
      refine xr_br 5 (c := (μ 21 (((μ 4 m1 1) : Int32).toNatClampNeg) 1) = (μ 4 m1 3)) inferInstance (a := 28) (b := 39) (ls' := [some (.inr (some (19, 0))), some (.inr (some (4, m1))), some (.inr (some (21, ((μ 4 m1 1) : Int32).toNatClampNeg)))]) (st' := []) (s' := μ) rfl (fun c2 => ?_) (fun c2 => ?_)
      · skip
        refine xr_br 5 (c := (μ 21 (((μ 4 m1 1) : Int32).toNatClampNeg) 2) = (μ 4 m1 4)) inferInstance (a := 40) (b := 39) (ls' := [some (.inr (some (19, 0))), some (.inr (some (4, m1))), some (.inr (some (21, ((μ 4 m1 1) : Int32).toNatClampNeg)))]) (st' := []) (s' := μ) rfl (fun c3 => ?_) (fun c3 => ?_)
        · skip
          exact hE1.2 (fun z => z.elim c1 (fun z => z.elim (fun w => w c2) (fun z => z c3)))
        · skip
          exact hE1.1 (Or.inr (Or.inr c3))
      · skip
        exact hE1.1 (Or.inr (Or.inl c2))
  refine ⟨fun c4 => ?_, fun c4 => ?_⟩
  · skip
    try simp only [if_pos c4] at h
    exact xr_rt (v := none) rfl h
  · skip
    refine xr_br 6 (c := (μ 1 0 2) ≤ (μ 21 (((μ 4 m1 1) : Int32).toNatClampNeg) 5)) inferInstance (a := 62) (b := 54) (ls' := [some (.inr (some (19, 0))), some (.inr (some (4, m1))), some (.inr (some (21, ((μ 4 m1 1) : Int32).toNatClampNeg)))]) (st' := []) (s' := μ) rfl (fun c5 => ?_) (fun c5 => ?_)
    · skip
      refine xr_go 13 (pc' := 83) (ls' := [some (.inr (some (19, 0))), some (.inr (some (4, m1))), some (.inr (some (21, ((μ 4 m1 1) : Int32).toNatClampNeg)))]) (st' := [.inr (some (21, ((μ 4 m1 1) : Int32).toNatClampNeg)), .inl (μ 4 m1 1), .inr (some (19, 0))]) (s' := (tm_wr (tm_wr μ 21 (((μ 4 m1 1) : Int32).toNatClampNeg) 2 ((μ 21 (((μ 4 m1 1) : Int32).toNatClampNeg) 2) + 1)) 21 (((μ 4 m1 1) : Int32).toNatClampNeg) 3 1)) rfl ?_
      refine xr_cl (y' := 95) (as := [.inr (some (19, 0)), .inl (μ 4 m1 1), .inr (some (21, ((μ 4 m1 1) : Int32).toNatClampNeg))]) (r := []) rfl rfl ?_
      refine tf_95 (d := d + 0) (μ := (tm_wr (tm_wr μ 21 (((μ 4 m1 1) : Int32).toNatClampNeg) 2 ((μ 21 (((μ 4 m1 1) : Int32).toNatClampNeg) 2) + 1)) 21 (((μ 4 m1 1) : Int32).toNatClampNeg) 3 1)) (a1 := (μ 4 m1 1)) (m2 := (((μ 4 m1 1) : Int32).toNatClampNeg)) (hi.2 c4 c5) ?_
      show xr_t (tm_I L xs) (d + 3) 94 86 [some (.inr (some (19, 0))), some (.inr (some (4, m1))), some (.inr (some (21, ((μ 4 m1 1) : Int32).toNatClampNeg)))] [] (cs_95 (μ 4 m1 1) (((μ 4 m1 1) : Int32).toNatClampNeg) (tm_wr (tm_wr μ 21 (((μ 4 m1 1) : Int32).toNatClampNeg) 2 ((μ 21 (((μ 4 m1 1) : Int32).toNatClampNeg) 2) + 1)) 21 (((μ 4 m1 1) : Int32).toNatClampNeg) 3 1)) Q
      generalize gμ2 : (cs_95 (μ 4 m1 1) (((μ 4 m1 1) : Int32).toNatClampNeg) (tm_wr (tm_wr μ 21 (((μ 4 m1 1) : Int32).toNatClampNeg) 2 ((μ 21 (((μ 4 m1 1) : Int32).toNatClampNeg) 2) + 1)) 21 (((μ 4 m1 1) : Int32).toNatClampNeg) 3 1)) = μ2 at h hi ⊢
      try simp only [if_neg c4, if_pos c5] at h
      exact xr_rt (v := none) rfl h
    · skip
      refine xr_go 4 (pc' := 86) (ls' := [some (.inr (some (19, 0))), some (.inr (some (4, m1))), some (.inr (some (21, ((μ 4 m1 1) : Int32).toNatClampNeg)))]) (st' := []) (s' := (tm_wr μ 21 (((μ 4 m1 1) : Int32).toNatClampNeg) 0 0)) rfl ?_
      try simp only [if_neg c4, if_neg c5] at h
      exact xr_rt (v := none) rfl h
-- BootNet$Server.receive(LBootNet$Message;)V
def cs_82 (m1 : Nat) (μ : tm_M) : tm_M := (if (μ 4 m1 0) = 0 then (cs_85 m1 μ) else (if (μ 4 m1 0) = 2 then (cs_89 m1 μ) else (if (μ 4 m1 0) = 5 then (cs_92 m1 μ) else (if (μ 4 m1 0) = 8 then (cs_93 m1 μ) else (if (μ 4 m1 0) = 10 then (cs_94 m1 μ) else μ)))))
def ci_82 (m1 : Nat) (μ : tm_M) : Prop := (((μ 4 m1 0) = 0) → ci_85 m1 μ) ∧ (((μ 4 m1 0) = 2) → ci_89 m1 μ) ∧ (((μ 4 m1 0) = 5) → ci_92 m1 μ) ∧ (((μ 4 m1 0) = 8) → ci_93 m1 μ) ∧ (((μ 4 m1 0) = 10) → ci_94 m1 μ)
set_option maxHeartbeats 4000000 in
set_option maxRecDepth 10000 in
theorem tf_82 {m1 : Nat} (hi : ci_82 m1 μ) (h : Q none (cs_82 m1 μ)) : xm_MW (tm_I L xs) (d + 6) 82 [.inr (some (19, 0)), .inr (some (4, m1))] μ Q := by
  refine xr_in2 [some (.inr (some (19, 0))), some (.inr (some (4, m1)))] rfl rfl ?_
  unfold cs_82 at h
  unfold ci_82 at hi
  refine xr_go 2 (pc' := 4) (ls' := [some (.inr (some (19, 0))), some (.inr (some (4, m1)))]) (st' := [.inl (μ 4 m1 0)]) (s' := μ) rfl ?_
  refine xr_ts rfl (fun c1 => ?_) (fun j hj c1 => ?_)
  · skip
    have c1_0 : ¬ (((μ 4 m1 0) : Int32) = 0) := fun e => by rw [e] at c1; revert c1; decide
    have c1_2 : ¬ (((μ 4 m1 0) : Int32) = 2) := fun e => by rw [e] at c1; revert c1; decide
    have c1_5 : ¬ (((μ 4 m1 0) : Int32) = 5) := fun e => by rw [e] at c1; revert c1; decide
    have c1_8 : ¬ (((μ 4 m1 0) : Int32) = 8) := fun e => by rw [e] at c1; revert c1; decide
    have c1_10 : ¬ (((μ 4 m1 0) : Int32) = 10) := fun e => by rw [e] at c1; revert c1; decide
    try simp only [if_neg c1_0, if_neg c1_2, if_neg c1_5, if_neg c1_8, if_neg c1_10] at h
    exact xr_rt (v := none) rfl h
  · have hj2 : j < 11 := by omega
    match j, hj2, c1 with
    | 0, _, c1 =>
      replace c1 : ((μ 4 m1 0) : Int32) = 0 := c1
      show xr_t _ _ _ 64 _ _ _ _
      refine xr_go 2 (pc' := 66) (ls' := [some (.inr (some (19, 0))), some (.inr (some (4, m1)))]) (st' := [.inr (some (4, m1)), .inr (some (19, 0))]) (s' := μ) rfl ?_
      refine xr_cl (y' := 85) (as := [.inr (some (19, 0)), .inr (some (4, m1))]) (r := []) rfl rfl ?_
      refine tf_85 (d := d + 1) (μ := μ) (m1 := m1) (hi.1 c1) ?_
      show xr_t (tm_I L xs) (d + 5) 82 69 [some (.inr (some (19, 0))), some (.inr (some (4, m1)))] [] (cs_85 m1 μ) Q
      generalize gμ1 : (cs_85 m1 μ) = μ1 at h hi ⊢
      refine xr_go 1 (pc' := 104) (ls' := [some (.inr (some (19, 0))), some (.inr (some (4, m1)))]) (st' := []) (s' := μ1) rfl ?_
      try simp only [if_pos c1] at h
      exact xr_rt (v := none) rfl h
    | 1, _, c1 =>
      replace c1 : ((μ 4 m1 0) : Int32) = 1 := c1
      show xr_t _ _ _ 104 _ _ _ _
      have c1_0 : ¬ (((μ 4 m1 0) : Int32) = 0) := by rw [c1]; decide
      have c1_2 : ¬ (((μ 4 m1 0) : Int32) = 2) := by rw [c1]; decide
      have c1_5 : ¬ (((μ 4 m1 0) : Int32) = 5) := by rw [c1]; decide
      have c1_8 : ¬ (((μ 4 m1 0) : Int32) = 8) := by rw [c1]; decide
      have c1_10 : ¬ (((μ 4 m1 0) : Int32) = 10) := by rw [c1]; decide
      try simp only [if_neg c1_0, if_neg c1_2, if_neg c1_5, if_neg c1_8, if_neg c1_10] at h
      exact xr_rt (v := none) rfl h
    | 2, _, c1 =>
      replace c1 : ((μ 4 m1 0) : Int32) = 2 := c1
      show xr_t _ _ _ 72 _ _ _ _
      have c1_0 : ¬ (((μ 4 m1 0) : Int32) = 0) := by rw [c1]; decide
      refine xr_go 2 (pc' := 74) (ls' := [some (.inr (some (19, 0))), some (.inr (some (4, m1)))]) (st' := [.inr (some (4, m1)), .inr (some (19, 0))]) (s' := μ) rfl ?_
      refine xr_cl (y' := 89) (as := [.inr (some (19, 0)), .inr (some (4, m1))]) (r := []) rfl rfl ?_
      refine tf_89 (d := d + 0) (μ := μ) (m1 := m1) (hi.2.1 c1) ?_
      show xr_t (tm_I L xs) (d + 5) 82 77 [some (.inr (some (19, 0))), some (.inr (some (4, m1)))] [] (cs_89 m1 μ) Q
      generalize gμ2 : (cs_89 m1 μ) = μ2 at h hi ⊢
      refine xr_go 1 (pc' := 104) (ls' := [some (.inr (some (19, 0))), some (.inr (some (4, m1)))]) (st' := []) (s' := μ2) rfl ?_
      try simp only [if_neg c1_0, if_pos c1] at h
      exact xr_rt (v := none) rfl h
    | 3, _, c1 =>
      replace c1 : ((μ 4 m1 0) : Int32) = 3 := c1
      show xr_t _ _ _ 104 _ _ _ _
      have c1_0 : ¬ (((μ 4 m1 0) : Int32) = 0) := by rw [c1]; decide
      have c1_2 : ¬ (((μ 4 m1 0) : Int32) = 2) := by rw [c1]; decide
      have c1_5 : ¬ (((μ 4 m1 0) : Int32) = 5) := by rw [c1]; decide
      have c1_8 : ¬ (((μ 4 m1 0) : Int32) = 8) := by rw [c1]; decide
      have c1_10 : ¬ (((μ 4 m1 0) : Int32) = 10) := by rw [c1]; decide
      try simp only [if_neg c1_0, if_neg c1_2, if_neg c1_5, if_neg c1_8, if_neg c1_10] at h
      exact xr_rt (v := none) rfl h
    | 4, _, c1 =>
      replace c1 : ((μ 4 m1 0) : Int32) = 4 := c1
      show xr_t _ _ _ 104 _ _ _ _
      have c1_0 : ¬ (((μ 4 m1 0) : Int32) = 0) := by rw [c1]; decide
      have c1_2 : ¬ (((μ 4 m1 0) : Int32) = 2) := by rw [c1]; decide
      have c1_5 : ¬ (((μ 4 m1 0) : Int32) = 5) := by rw [c1]; decide
      have c1_8 : ¬ (((μ 4 m1 0) : Int32) = 8) := by rw [c1]; decide
      have c1_10 : ¬ (((μ 4 m1 0) : Int32) = 10) := by rw [c1]; decide
      try simp only [if_neg c1_0, if_neg c1_2, if_neg c1_5, if_neg c1_8, if_neg c1_10] at h
      exact xr_rt (v := none) rfl h
    | 5, _, c1 =>
      replace c1 : ((μ 4 m1 0) : Int32) = 5 := c1
      show xr_t _ _ _ 80 _ _ _ _
      have c1_0 : ¬ (((μ 4 m1 0) : Int32) = 0) := by rw [c1]; decide
      have c1_2 : ¬ (((μ 4 m1 0) : Int32) = 2) := by rw [c1]; decide
      refine xr_go 2 (pc' := 82) (ls' := [some (.inr (some (19, 0))), some (.inr (some (4, m1)))]) (st' := [.inr (some (4, m1)), .inr (some (19, 0))]) (s' := μ) rfl ?_
      refine xr_cl (y' := 92) (as := [.inr (some (19, 0)), .inr (some (4, m1))]) (r := []) rfl rfl ?_
      refine tf_92 (d := d + 3) (μ := μ) (m1 := m1) (hi.2.2.1 c1) ?_
      show xr_t (tm_I L xs) (d + 5) 82 85 [some (.inr (some (19, 0))), some (.inr (some (4, m1)))] [] (cs_92 m1 μ) Q
      generalize gμ3 : (cs_92 m1 μ) = μ3 at h hi ⊢
      refine xr_go 1 (pc' := 104) (ls' := [some (.inr (some (19, 0))), some (.inr (some (4, m1)))]) (st' := []) (s' := μ3) rfl ?_
      try simp only [if_neg c1_0, if_neg c1_2, if_pos c1] at h
      exact xr_rt (v := none) rfl h
    | 6, _, c1 =>
      replace c1 : ((μ 4 m1 0) : Int32) = 6 := c1
      show xr_t _ _ _ 104 _ _ _ _
      have c1_0 : ¬ (((μ 4 m1 0) : Int32) = 0) := by rw [c1]; decide
      have c1_2 : ¬ (((μ 4 m1 0) : Int32) = 2) := by rw [c1]; decide
      have c1_5 : ¬ (((μ 4 m1 0) : Int32) = 5) := by rw [c1]; decide
      have c1_8 : ¬ (((μ 4 m1 0) : Int32) = 8) := by rw [c1]; decide
      have c1_10 : ¬ (((μ 4 m1 0) : Int32) = 10) := by rw [c1]; decide
      try simp only [if_neg c1_0, if_neg c1_2, if_neg c1_5, if_neg c1_8, if_neg c1_10] at h
      exact xr_rt (v := none) rfl h
    | 7, _, c1 =>
      replace c1 : ((μ 4 m1 0) : Int32) = 7 := c1
      show xr_t _ _ _ 104 _ _ _ _
      have c1_0 : ¬ (((μ 4 m1 0) : Int32) = 0) := by rw [c1]; decide
      have c1_2 : ¬ (((μ 4 m1 0) : Int32) = 2) := by rw [c1]; decide
      have c1_5 : ¬ (((μ 4 m1 0) : Int32) = 5) := by rw [c1]; decide
      have c1_8 : ¬ (((μ 4 m1 0) : Int32) = 8) := by rw [c1]; decide
      have c1_10 : ¬ (((μ 4 m1 0) : Int32) = 10) := by rw [c1]; decide
      try simp only [if_neg c1_0, if_neg c1_2, if_neg c1_5, if_neg c1_8, if_neg c1_10] at h
      exact xr_rt (v := none) rfl h
    | 8, _, c1 =>
      replace c1 : ((μ 4 m1 0) : Int32) = 8 := c1
      show xr_t _ _ _ 88 _ _ _ _
      have c1_0 : ¬ (((μ 4 m1 0) : Int32) = 0) := by rw [c1]; decide
      have c1_2 : ¬ (((μ 4 m1 0) : Int32) = 2) := by rw [c1]; decide
      have c1_5 : ¬ (((μ 4 m1 0) : Int32) = 5) := by rw [c1]; decide
      refine xr_go 2 (pc' := 90) (ls' := [some (.inr (some (19, 0))), some (.inr (some (4, m1)))]) (st' := [.inr (some (4, m1)), .inr (some (19, 0))]) (s' := μ) rfl ?_
      refine xr_cl (y' := 93) (as := [.inr (some (19, 0)), .inr (some (4, m1))]) (r := []) rfl rfl ?_
      refine tf_93 (d := d + 1) (μ := μ) (m1 := m1) (hi.2.2.2.1 c1) ?_
      show xr_t (tm_I L xs) (d + 5) 82 93 [some (.inr (some (19, 0))), some (.inr (some (4, m1)))] [] (cs_93 m1 μ) Q
      generalize gμ4 : (cs_93 m1 μ) = μ4 at h hi ⊢
      refine xr_go 1 (pc' := 104) (ls' := [some (.inr (some (19, 0))), some (.inr (some (4, m1)))]) (st' := []) (s' := μ4) rfl ?_
      try simp only [if_neg c1_0, if_neg c1_2, if_neg c1_5, if_pos c1] at h
      exact xr_rt (v := none) rfl h
    | 9, _, c1 =>
      replace c1 : ((μ 4 m1 0) : Int32) = 9 := c1
      show xr_t _ _ _ 104 _ _ _ _
      have c1_0 : ¬ (((μ 4 m1 0) : Int32) = 0) := by rw [c1]; decide
      have c1_2 : ¬ (((μ 4 m1 0) : Int32) = 2) := by rw [c1]; decide
      have c1_5 : ¬ (((μ 4 m1 0) : Int32) = 5) := by rw [c1]; decide
      have c1_8 : ¬ (((μ 4 m1 0) : Int32) = 8) := by rw [c1]; decide
      have c1_10 : ¬ (((μ 4 m1 0) : Int32) = 10) := by rw [c1]; decide
      try simp only [if_neg c1_0, if_neg c1_2, if_neg c1_5, if_neg c1_8, if_neg c1_10] at h
      exact xr_rt (v := none) rfl h
    | 10, _, c1 =>
      replace c1 : ((μ 4 m1 0) : Int32) = 10 := c1
      show xr_t _ _ _ 96 _ _ _ _
      have c1_0 : ¬ (((μ 4 m1 0) : Int32) = 0) := by rw [c1]; decide
      have c1_2 : ¬ (((μ 4 m1 0) : Int32) = 2) := by rw [c1]; decide
      have c1_5 : ¬ (((μ 4 m1 0) : Int32) = 5) := by rw [c1]; decide
      have c1_8 : ¬ (((μ 4 m1 0) : Int32) = 8) := by rw [c1]; decide
      refine xr_go 2 (pc' := 98) (ls' := [some (.inr (some (19, 0))), some (.inr (some (4, m1)))]) (st' := [.inr (some (4, m1)), .inr (some (19, 0))]) (s' := μ) rfl ?_
      refine xr_cl (y' := 94) (as := [.inr (some (19, 0)), .inr (some (4, m1))]) (r := []) rfl rfl ?_
      refine tf_94 (d := d + 1) (μ := μ) (m1 := m1) (hi.2.2.2.2 c1) ?_
      show xr_t (tm_I L xs) (d + 5) 82 101 [some (.inr (some (19, 0))), some (.inr (some (4, m1)))] [] (cs_94 m1 μ) Q
      generalize gμ5 : (cs_94 m1 μ) = μ5 at h hi ⊢
      refine xr_go 1 (pc' := 104) (ls' := [some (.inr (some (19, 0))), some (.inr (some (4, m1)))]) (st' := []) (s' := μ5) rfl ?_
      try simp only [if_neg c1_0, if_neg c1_2, if_neg c1_5, if_neg c1_8, if_pos c1] at h
      exact xr_rt (v := none) rfl h
end TF
