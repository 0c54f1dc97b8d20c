/-! Loops of the class as functions. Written by prog/gen_tf.py. -/
section TF
variable {L : Nat} {xs : Nat → Int32} {d : Nat} {μ : tm_M} {Q : Option (xm_V tm_R) → tm_M → Prop}
-- BootNet$Layout.reservedAddress(I)I
def cv_42_2 (a1 : Int32) : Nat → Int32 → tm_M → Int32
  | 0, _, _ => 0
  | n + 1, l2, μ => (if (30 : Int32) ≤ l2 then 0 else (if (μ 10 0 ((l2).toNatClampNeg)) = a1 then l2 else (cv_42_2 a1 n (l2 + 1) μ)))
def ci_42_2 (a1 : Int32) : Nat → Int32 → tm_M → Prop
  | 0, _, _ => False
  | n + 1, l2, μ => ((¬ ((30 : Int32) ≤ l2)) → tm_ix l2 30 = true) ∧ ((¬ ((30 : Int32) ≤ l2)) → (¬ ((μ 10 0 ((l2).toNatClampNeg)) = a1)) → ci_42_2 a1 n (l2 + 1) μ)
set_option maxHeartbeats 4000000 in
set_option maxRecDepth 10000 in
theorem tl_42_2 {a1 : Int32} : ∀ (n : Nat) (l2 : Int32) (μ : tm_M), ci_42_2 a1 n l2 μ → Q (some (.inl (cv_42_2 a1 n l2 μ))) μ → xr_t (tm_I L xs) (d + 0) 42 2 [some (.inr (some (6, 0))), some (.inl a1), some (.inl l2)] [] μ Q := by
  intro n
  induction n with
  | zero => intro l2 μ hi; exact hi.elim
  | succ n ih =>
    intro l2 μ hi h
    unfold ci_42_2 at hi
    simp only [cv_42_2] at h
    refine xr_br 3 (c := (30 : Int32) ≤ l2) inferInstance (a := 26) (b := 8) (ls' := [some (.inr (some (6, 0))), some (.inl a1), some (.inl l2)]) (st' := []) (s' := μ) rfl (fun c1 => ?_) (fun c1 => ?_)
    · skip
      refine xr_go 1 (pc' := 27) (ls' := [some (.inr (some (6, 0))), some (.inl a1), some (.inl l2)]) (st' := [.inl 0]) (s' := μ) rfl ?_
      try simp only [if_pos c1] at h
      exact xr_rt (v := some (.inl 0)) rfl h
    · skip
      refine xr_go 3 (pc' := 13) (ls' := [some (.inr (some (6, 0))), some (.inl a1), some (.inl l2)]) (st' := [.inl l2, .inr (some (10, 0))]) (s' := μ) rfl ?_
      refine xr_ial (n := 30) rfl rfl (hi.1 c1) ?_
      refine xr_br 2 (c := (μ 10 0 ((l2).toNatClampNeg)) = a1) inferInstance (a := 18) (b := 20) (ls' := [some (.inr (some (6, 0))), some (.inl a1), some (.inl l2)]) (st' := []) (s' := μ) rfl (fun c2 => ?_) (fun c2 => ?_)
      · skip
        refine xr_go 1 (pc' := 19) (ls' := [some (.inr (some (6, 0))), some (.inl a1), some (.inl l2)]) (st' := [.inl l2]) (s' := μ) rfl ?_
        try simp only [if_neg c1, if_pos c2] at h
        exact xr_rt (v := some (.inl l2)) rfl h
      · skip
        refine xr_go 2 (pc' := 2) (ls' := [some (.inr (some (6, 0))), some (.inl a1), some (.inl (l2 + 1))]) (st' := []) (s' := μ) rfl ?_
        try simp only [if_neg c1, if_neg c2] at h
        exact ih (l2 + 1) μ (hi.2 c1 c2) h
def cv_42 (a1 : Int32) (μ : tm_M) : Int32 := (cv_42_2 a1 64 1 μ)
def ci_42 (a1 : Int32) (μ : tm_M) : Prop := (ci_42_2 a1 64 1 μ)
set_option maxHeartbeats 4000000 in
set_option maxRecDepth 10000 in
theorem tf_42 {a1 : Int32} (hi : ci_42 a1 μ) (h : Q (some (.inl (cv_42 a1 μ))) μ) : xm_MW (tm_I L xs) (d + 1) 42 [.inr (some (6, 0)), .inl a1] μ Q := by
  refine xr_in2 [some (.inr (some (6, 0))), some (.inl a1), none] rfl rfl ?_
  unfold cv_42 at h
  unfold ci_42 at hi
  refine xr_go 2 (pc' := 2) (ls' := [some (.inr (some (6, 0))), some (.inl a1), some (.inl 1)]) (st' := []) (s' := μ) rfl ?_
  exact tl_42_2 64 1 μ (hi) h
-- BootNet.isHeldByAnother(II)Z
def cv_20_2 (a1 : Int32) (a2 : Int32) : Nat → Int32 → tm_M → Int32
  | 0, _, _ => 0
  | n + 1, l3, μ => (if (μ 6 0 5) ≤ l3 then 0 else (if (l3 = a2) ∨ (((cv_98 ((l3).toNatClampNeg) μ) = 0) ∨ (¬ ((μ 33 ((l3).toNatClampNeg) 5) = a1))) then (cv_20_2 a1 a2 n (l3 + 1) μ) else 1))
def ci_20_2 (a1 : Int32) (a2 : Int32) : Nat → Int32 → tm_M → Prop
  | 0, _, _ => False
  | n + 1, l3, μ => ((¬ ((μ 6 0 5) ≤ l3)) → (¬ (l3 = a2)) → tm_ix l3 6 = true) ∧ ((¬ ((μ 6 0 5) ≤ l3)) → ((l3 = a2) ∨ (((cv_98 ((l3).toNatClampNeg) μ) = 0) ∨ (¬ ((μ 33 ((l3).toNatClampNeg) 5) = a1)))) → ci_20_2 a1 a2 n (l3 + 1) μ)
set_option maxHeartbeats 4000000 in
set_option maxRecDepth 10000 in
theorem tl_20_2 {a1 : Int32} {a2 : Int32} : ∀ (n : Nat) (l3 : Int32) (μ : tm_M), ci_20_2 a1 a2 n l3 μ → Q (some (.inl (cv_20_2 a1 a2 n l3 μ))) μ → xr_t (tm_I L xs) (d + 1) 20 2 [some (.inr (some (0, 0))), some (.inl a1), some (.inl a2), some (.inl l3)] [] μ Q := by
  intro n
  induction n with
  | zero => intro l3 μ hi; exact hi.elim
  | succ n ih =>
    intro l3 μ hi h
    unfold ci_20_2 at hi
    simp only [cv_20_2] at h
    refine xr_br 5 (c := (μ 6 0 5) ≤ l3) inferInstance (a := 51) (b := 13) (ls' := [some (.inr (some (0, 0))), some (.inl a1), some (.inl a2), some (.inl l3)]) (st' := []) (s' := μ) rfl (fun c1 => ?_) (fun c1 => ?_)
    · skip
      refine xr_go 1 (pc' := 52) (ls' := [some (.inr (some (0, 0))), some (.inl a1), some (.inl a2), some (.inl l3)]) (st' := [.inl 0]) (s' := μ) rfl ?_
      try simp only [if_pos c1] at h
      exact xr_rt (v := some (.inl 0)) rfl h
    · skip
      suffices hE2 : (((l3 = a2) ∨ (((cv_98 ((l3).toNatClampNeg) μ) = 0) ∨ (¬ ((μ 33 ((l3).toNatClampNeg) 5) = a1)))) → xr_t (tm_I L xs) (d + 1) 20 45 [some (.inr (some (0, 0))), some (.inl a1), some (.inl a2), some (.inl l3)] [] μ Q) ∧ (¬ ((l3 = a2) ∨ (((cv_98 ((l3).toNatClampNeg) μ) = 0) ∨ (¬ ((μ 33 ((l3).toNatClampNeg) 5) = a1)))) → xr_t (tm_I L xs) (d + 1) 20 43 [some (.inr (some (0, 0))), some (.inl a1), some (.inl a2), some (.inl l3)] [] μ Q) by
        refine xr_br 3 (c := l3 = a2) inferInstance (a := 45) (b := 18) (ls' := [some (.inr (some (0, 0))), some (.inl a1), some (.inl a2), some (.inl l3)]) (st' := []) (s' := μ) rfl (fun c2 => ?_) (fun c2 => ?_)
        · skip
          exact hE2.1 (Or.inl c2)
        · skip
          refine xr_go 3 (pc' := 23) (ls' := [some (.inr (some (0, 0))), some (.inl a1), some (.inl a2), some (.inl l3)]) (st' := [.inl l3, .inr (some (32, 0))]) (s' := μ) rfl ?_
          refine xr_aal (n := 6) (w := (33, (l3).toNatClampNeg)) rfl rfl (hi.1 c1 c2) rfl ?_
          refine xr_cl (y' := 98) (as := [.inr (some (33, (l3).toNatClampNeg))]) (r := []) rfl rfl ?_
          refine tf_98 (d := d + 0) (μ := μ) (i := ((l3).toNatClampNeg)) ?_
          show xr_t (tm_I L xs) (d + 1) 20 27 [some (.inr (some (0, 0))), some (.inl a1), some (.inl a2), some (.inl l3)] [.inl (cv_98 ((l3).toNatClampNeg) μ)] μ Q
          refine xr_br 1 (c := (cv_98 ((l3).toNatClampNeg) μ) = 0) inferInstance (a := 45) (b := 30) (ls' := [some (.inr (some (0, 0))), some (.inl a1), some (.inl a2), some (.inl l3)]) (st' := []) (s' := μ) rfl (fun c3 => ?_) (fun c3 => ?_)
          · skip
            exact hE2.1 (Or.inr (Or.inl c3))
          · skip
            refine xr_go 3 (pc' := 35) (ls' := [some (.inr (some (0, 0))), some (.inl a1), some (.inl a2), some (.inl l3)]) (st' := [.inl l3, .inr (some (32, 0))]) (s' := μ) rfl ?_
            refine xr_aal (n := 6) (w := (33, (l3).toNatClampNeg)) rfl rfl (hi.1 c1 c2) rfl ?_
            refine xr_br 3 (c := (μ 33 ((l3).toNatClampNeg) 5) = a1) inferInstance (a := 43) (b := 45) (ls' := [some (.inr (some (0, 0))), some (.inl a1), some (.inl a2), some (.inl l3)]) (st' := []) (s' := μ) rfl (fun c4 => ?_) (fun c4 => ?_)
            · skip
              exact hE2.2 (fun z => z.elim c2 (fun z => z.elim c3 (fun z => z c4)))
            · skip
              exact hE2.1 (Or.inr (Or.inr c4))
      refine ⟨fun c5 => ?_, fun c5 => ?_⟩
      · skip
        refine xr_go 2 (pc' := 2) (ls' := [some (.inr (some (0, 0))), some (.inl a1), some (.inl a2), some (.inl (l3 + 1))]) (st' := []) (s' := μ) rfl ?_
        try simp only [if_neg c1, if_pos c5] at h
        exact ih (l3 + 1) μ (hi.2 c1 c5) h
      · skip
        refine xr_go 1 (pc' := 44) (ls' := [some (.inr (some (0, 0))), some (.inl a1), some (.inl a2), some (.inl l3)]) (st' := [.inl 1]) (s' := μ) rfl ?_
        try simp only [if_neg c1, if_neg c5] at h
        exact xr_rt (v := some (.inl 1)) rfl h
def cv_20 (a1 : Int32) (a2 : Int32) (μ : tm_M) : Int32 := (cv_20_2 a1 a2 64 0 μ)
def ci_20 (a1 : Int32) (a2 : Int32) (μ : tm_M) : Prop := (ci_20_2 a1 a2 64 0 μ)
set_option maxHeartbeats 4000000 in
set_option maxRecDepth 10000 in
theorem tf_20 {a1 : Int32} {a2 : Int32} (hi : ci_20 a1 a2 μ) (h : Q (some (.inl (cv_20 a1 a2 μ))) μ) : xm_MW (tm_I L xs) (d + 2) 20 [.inr (some (0, 0)), .inl a1, .inl a2] μ Q := by
  refine xr_in2 [some (.inr (some (0, 0))), some (.inl a1), some (.inl a2), none] rfl rfl ?_
  unfold cv_20 at h
  unfold ci_20 at hi
  refine xr_go 2 (pc' := 2) (ls' := [some (.inr (some (0, 0))), some (.inl a1), some (.inl a2), some (.inl 0)]) (st' := []) (s' := μ) rfl ?_
  exact tl_20_2 64 0 μ (hi) h
-- BootNet$Library.bytesBefore(I)I
def cv_58_4 (a1 : Int32) : Nat → Int32 → Int32 → tm_M → Int32
  | 0, _, _, _ => 0
  | n + 1, l2, l3, μ => (if a1 ≤ l3 then l2 else (cv_58_4 a1 n (l2 + (μ 17 0 ((l3).toNatClampNeg))) (l3 + 1) μ))
def ci_58_4 (a1 : Int32) : Nat → Int32 → Int32 → tm_M → Prop
  | 0, _, _, _ => False
  | n + 1, l2, l3, μ => ((¬ (a1 ≤ l3)) → tm_ix l3 4 = true) ∧ ((¬ (a1 ≤ l3)) → ci_58_4 a1 n (l2 + (μ 17 0 ((l3).toNatClampNeg))) (l3 + 1) μ)
set_option maxHeartbeats 4000000 in
set_option maxRecDepth 10000 in
theorem tl_58_4 {a1 : Int32} : ∀ (n : Nat) (l2 : Int32) (l3 : Int32) (μ : tm_M), ci_58_4 a1 n l2 l3 μ → Q (some (.inl (cv_58_4 a1 n l2 l3 μ))) μ → xr_t (tm_I L xs) (d + 0) 58 4 [some (.inr (some (12, 0))), some (.inl a1), some (.inl l2), some (.inl l3)] [] μ Q := by
  intro n
  induction n with
  | zero => intro l2 l3 μ hi; exact hi.elim
  | succ n ih =>
    intro l2 l3 μ hi h
    unfold ci_58_4 at hi
    simp only [cv_58_4] at h
    refine xr_br 3 (c := a1 ≤ l3) inferInstance (a := 24) (b := 9) (ls' := [some (.inr (some (12, 0))), some (.inl a1), some (.inl l2), some (.inl l3)]) (st' := []) (s' := μ) rfl (fun c1 => ?_) (fun c1 => ?_)
    · skip
      refine xr_go 1 (pc' := 25) (ls' := [some (.inr (some (12, 0))), some (.inl a1), some (.inl l2), some (.inl l3)]) (st' := [.inl l2]) (s' := μ) rfl ?_
      try simp only [if_pos c1] at h
      exact xr_rt (v := some (.inl l2)) rfl h
    · skip
      refine xr_go 4 (pc' := 15) (ls' := [some (.inr (some (12, 0))), some (.inl a1), some (.inl l2), some (.inl l3)]) (st' := [.inl l3, .inr (some (17, 0)), .inl l2]) (s' := μ) rfl ?_
      refine xr_ial (n := 4) rfl rfl (hi.1 c1) ?_
      refine xr_go 4 (pc' := 4) (ls' := [some (.inr (some (12, 0))), some (.inl a1), some (.inl (l2 + (μ 17 0 ((l3).toNatClampNeg)))), some (.inl (l3 + 1))]) (st' := []) (s' := μ) rfl ?_
      try simp only [if_neg c1] at h
      exact ih (l2 + (μ 17 0 ((l3).toNatClampNeg))) (l3 + 1) μ (hi.2 c1) h
def cv_58 (a1 : Int32) (μ : tm_M) : Int32 := (cv_58_4 a1 64 0 0 μ)
def ci_58 (a1 : Int32) (μ : tm_M) : Prop := (ci_58_4 a1 64 0 0 μ)
set_option maxHeartbeats 4000000 in
set_option maxRecDepth 10000 in
theorem tf_58 {a1 : Int32} (hi : ci_58 a1 μ) (h : Q (some (.inl (cv_58 a1 μ))) μ) : xm_MW (tm_I L xs) (d + 1) 58 [.inr (some (12, 0)), .inl a1] μ Q := by
  refine xr_in2 [some (.inr (some (12, 0))), some (.inl a1), none, none] rfl rfl ?_
  unfold cv_58 at h
  unfold ci_58 at hi
  refine xr_go 4 (pc' := 4) (ls' := [some (.inr (some (12, 0))), some (.inl a1), some (.inl 0), some (.inl 0)]) (st' := []) (s' := μ) rfl ?_
  exact tl_58_4 64 0 0 μ (hi) h
-- BootNet$Records.isLatestOfAddress(I)Z
def cv_80_4 (a1 : Int32) : Nat → Int32 → tm_M → Int32
  | 0, _, _ => 0
  | n + 1, l2, μ => (if (μ 28 0 3) ≤ l2 then 1 else (if (μ 29 0 ((l2).toNatClampNeg)) = (μ 29 0 ((a1).toNatClampNeg)) then 0 else (cv_80_4 a1 n (l2 + 1) μ)))
def ci_80_4 (a1 : Int32) : Nat → Int32 → tm_M → Prop
  | 0, _, _ => False
  | n + 1, l2, μ => ((¬ ((μ 28 0 3) ≤ l2)) → tm_ix l2 16 = true) ∧ ((¬ ((μ 28 0 3) ≤ l2)) → tm_ix a1 16 = true) ∧ ((¬ ((μ 28 0 3) ≤ l2)) → (¬ ((μ 29 0 ((l2).toNatClampNeg)) = (μ 29 0 ((a1).toNatClampNeg)))) → ci_80_4 a1 n (l2 + 1) μ)
set_option maxHeartbeats 4000000 in
set_option maxRecDepth 10000 in
theorem tl_80_4 {a1 : Int32} : ∀ (n : Nat) (l2 : Int32) (μ : tm_M), ci_80_4 a1 n l2 μ → Q (some (.inl (cv_80_4 a1 n l2 μ))) μ → xr_t (tm_I L xs) (d + 0) 80 4 [some (.inr (some (28, 0))), some (.inl a1), some (.inl l2)] [] μ Q := by
  intro n
  induction n with
  | zero => intro l2 μ hi; exact hi.elim
  | succ n ih =>
    intro l2 μ hi h
    unfold ci_80_4 at hi
    simp only [cv_80_4] at h
    refine xr_br 4 (c := (μ 28 0 3) ≤ l2) inferInstance (a := 35) (b := 12) (ls' := [some (.inr (some (28, 0))), some (.inl a1), some (.inl l2)]) (st' := []) (s' := μ) rfl (fun c1 => ?_) (fun c1 => ?_)
    · skip
      refine xr_go 1 (pc' := 36) (ls' := [some (.inr (some (28, 0))), some (.inl a1), some (.inl l2)]) (st' := [.inl 1]) (s' := μ) rfl ?_
      try simp only [if_pos c1] at h
      exact xr_rt (v := some (.inl 1)) rfl h
    · skip
      refine xr_go 3 (pc' := 17) (ls' := [some (.inr (some (28, 0))), some (.inl a1), some (.inl l2)]) (st' := [.inl l2, .inr (some (29, 0))]) (s' := μ) rfl ?_
      refine xr_ial (n := 16) rfl rfl (hi.1 c1) ?_
      refine xr_go 3 (pc' := 23) (ls' := [some (.inr (some (28, 0))), some (.inl a1), some (.inl l2)]) (st' := [.inl a1, .inr (some (29, 0)), .inl (μ 29 0 ((l2).toNatClampNeg))]) (s' := μ) rfl ?_
      refine xr_ial (n := 16) rfl rfl (hi.2.1 c1) ?_
      refine xr_br 1 (c := (μ 29 0 ((l2).toNatClampNeg)) = (μ 29 0 ((a1).toNatClampNeg))) inferInstance (a := 27) (b := 29) (ls' := [some (.inr (some (28, 0))), some (.inl a1), some (.inl l2)]) (st' := []) (s' := μ) rfl (fun c2 => ?_) (fun c2 => ?_)
      · skip
        refine xr_go 1 (pc' := 28) (ls' := [some (.inr (some (28, 0))), some (.inl a1), some (.inl l2)]) (st' := [.inl 0]) (s' := μ) rfl ?_
        try simp only [if_neg c1, if_pos c2] at h
        exact xr_rt (v := some (.inl 0)) rfl h
      · skip
        refine xr_go 2 (pc' := 4) (ls' := [some (.inr (some (28, 0))), some (.inl a1), some (.inl (l2 + 1))]) (st' := []) (s' := μ) rfl ?_
        try simp only [if_neg c1, if_neg c2] at h
        exact ih (l2 + 1) μ (hi.2.2 c1 c2) h
def cv_80 (a1 : Int32) (μ : tm_M) : Int32 := (cv_80_4 a1 64 (a1 + 1) μ)
def ci_80 (a1 : Int32) (μ : tm_M) : Prop := (ci_80_4 a1 64 (a1 + 1) μ)
set_option maxHeartbeats 4000000 in
set_option maxRecDepth 10000 in
theorem tf_80 {a1 : Int32} (hi : ci_80 a1 μ) (h : Q (some (.inl (cv_80 a1 μ))) μ) : xm_MW (tm_I L xs) (d + 1) 80 [.inr (some (28, 0)), .inl a1] μ Q := by
  refine xr_in2 [some (.inr (some (28, 0))), some (.inl a1), none] rfl rfl ?_
  unfold cv_80 at h
  unfold ci_80 at hi
  refine xr_go 4 (pc' := 4) (ls' := [some (.inr (some (28, 0))), some (.inl a1), some (.inl (a1 + 1))]) (st' := []) (s' := μ) rfl ?_
  exact tl_80_4 64 (a1 + 1) μ (hi) h
-- BootNet$Server.leasedChoice(I)I
def cv_86_2 (a1 : Int32) : Nat → Int32 → tm_M → Int32
  | 0, _, _ => 0
  | n + 1, l2, μ => (if (30 : Int32) ≤ l2 then 0 else (if (¬ ((cv_23 l2 μ) = a1)) ∨ ((cv_26 l2 a1 μ) = 0) then (cv_86_2 a1 n (l2 + 1) μ) else l2))
def ci_86_2 (a1 : Int32) : Nat → Int32 → tm_M → Prop
  | 0, _, _ => False
  | n + 1, l2, μ => ((¬ ((30 : Int32) ≤ l2)) → ci_23 l2 μ) ∧ ((¬ ((30 : Int32) ≤ l2)) → ((cv_23 l2 μ) = a1) → ci_26 l2 a1 μ) ∧ ((¬ ((30 : Int32) ≤ l2)) → ((¬ ((cv_23 l2 μ) = a1)) ∨ ((cv_26 l2 a1 μ) = 0)) → ci_86_2 a1 n (l2 + 1) μ)
set_option maxHeartbeats 4000000 in
set_option maxRecDepth 10000 in
theorem tl_86_2 {a1 : Int32} : ∀ (n : Nat) (l2 : Int32) (μ : tm_M), ci_86_2 a1 n l2 μ → Q (some (.inl (cv_86_2 a1 n l2 μ))) μ → xr_t (tm_I L xs) (d + 2) 86 2 [some (.inr (some (19, 0))), some (.inl a1), some (.inl l2)] [] μ Q := by
  intro n
  induction n with
  | zero => intro l2 μ hi; exact hi.elim
  | succ n ih =>
    intro l2 μ hi h
    unfold ci_86_2 at hi
    simp only [cv_86_2] at h
    refine xr_br 3 (c := (30 : Int32) ≤ l2) inferInstance (a := 40) (b := 8) (ls' := [some (.inr (some (19, 0))), some (.inl a1), some (.inl l2)]) (st' := []) (s' := μ) rfl (fun c1 => ?_) (fun c1 => ?_)
    · skip
      refine xr_go 1 (pc' := 41) (ls' := [some (.inr (some (19, 0))), some (.inl a1), some (.inl l2)]) (st' := [.inl 0]) (s' := μ) rfl ?_
      try simp only [if_pos c1] at h
      exact xr_rt (v := some (.inl 0)) rfl h
    · skip
      refine xr_go 3 (pc' := 13) (ls' := [some (.inr (some (19, 0))), some (.inl a1), some (.inl l2)]) (st' := [.inl l2, .inr (some (22, 0))]) (s' := μ) rfl ?_
      refine xr_cl (y' := 23) (as := [.inr (some (22, 0)), .inl l2]) (r := []) rfl rfl ?_
      refine tf_23 (d := d + 1) (μ := μ) (a1 := l2) (hi.1 c1) ?_
      show xr_t (tm_I L xs) (d + 2) 86 16 [some (.inr (some (19, 0))), some (.inl a1), some (.inl l2)] [.inl (cv_23 l2 μ)] μ Q
      generalize gv1 : (cv_23 l2 μ) = v1 at h hi ⊢
      suffices hE2 : (((¬ (v1 = a1)) ∨ ((cv_26 l2 a1 μ) = 0)) → xr_t (tm_I L xs) (d + 2) 86 34 [some (.inr (some (19, 0))), some (.inl a1), some (.inl l2)] [] μ Q) ∧ (¬ ((¬ (v1 = a1)) ∨ ((cv_26 l2 a1 μ) = 0)) → xr_t (tm_I L xs) (d + 2) 86 32 [some (.inr (some (19, 0))), some (.inl a1), some (.inl l2)] [] μ Q) by
        refine xr_br 2 (c := v1 = a1) inferInstance (a := 20) (b := 34) (ls' := [some (.inr (some (19, 0))), some (.inl a1), some (.inl l2)]) (st' := []) (s' := μ) rfl (fun c2 => ?_) (fun c2 => ?_)
        · skip
          refine xr_go 4 (pc' := 26) (ls' := [some (.inr (some (19, 0))), some (.inl a1), some (.inl l2)]) (st' := [.inl a1, .inl l2, .inr (some (22, 0))]) (s' := μ) rfl ?_
          refine xr_cl (y' := 26) (as := [.inr (some (22, 0)), .inl l2, .inl a1]) (r := []) rfl rfl ?_
          refine tf_26 (d := d + 0) (μ := μ) (a1 := l2) (a2 := a1) (hi.2.1 c1 c2) ?_
          show xr_t (tm_I L xs) (d + 2) 86 29 [some (.inr (some (19, 0))), some (.inl a1), some (.inl l2)] [.inl (cv_26 l2 a1 μ)] μ Q
          refine xr_br 1 (c := (cv_26 l2 a1 μ) = 0) inferInstance (a := 34) (b := 32) (ls' := [some (.inr (some (19, 0))), some (.inl a1), some (.inl l2)]) (st' := []) (s' := μ) rfl (fun c3 => ?_) (fun c3 => ?_)
          · skip
            exact hE2.1 (Or.inr c3)
          · skip
            exact hE2.2 (fun z => z.elim (fun w => w c2) c3)
        · skip
          exact hE2.1 (Or.inl c2)
      refine ⟨fun c4 => ?_, fun c4 => ?_⟩
      · skip
        refine xr_go 2 (pc' := 2) (ls' := [some (.inr (some (19, 0))), some (.inl a1), some (.inl (l2 + 1))]) (st' := []) (s' := μ) rfl ?_
        try simp only [if_neg c1, if_pos c4] at h
        exact ih (l2 + 1) μ (hi.2.2 c1 c4) h
      · skip
        refine xr_go 1 (pc' := 33) (ls' := [some (.inr (some (19, 0))), some (.inl a1), some (.inl l2)]) (st' := [.inl l2]) (s' := μ) rfl ?_
        try simp only [if_neg c1, if_neg c4] at h
        exact xr_rt (v := some (.inl l2)) rfl h
def cv_86 (a1 : Int32) (μ : tm_M) : Int32 := (cv_86_2 a1 64 1 μ)
def ci_86 (a1 : Int32) (μ : tm_M) : Prop := (ci_86_2 a1 64 1 μ)
set_option maxHeartbeats 4000000 in
set_option maxRecDepth 10000 in
theorem tf_86 {a1 : Int32} (hi : ci_86 a1 μ) (h : Q (some (.inl (cv_86 a1 μ))) μ) : xm_MW (tm_I L xs) (d + 3) 86 [.inr (some (19, 0)), .inl a1] μ Q := by
  refine xr_in2 [some (.inr (some (19, 0))), some (.inl a1), none] rfl rfl ?_
  unfold cv_86 at h
  unfold ci_86 at hi
  refine xr_go 2 (pc' := 2) (ls' := [some (.inr (some (19, 0))), some (.inl a1), some (.inl 1)]) (st' := []) (s' := μ) rfl ?_
  exact tl_86_2 64 1 μ (hi) h
-- BootNet$Library.checkOfRow([III)I
def cx_52k14_21_l3 (m1 : Nat) (a2 : Int32) (a3 : Int32) : Nat → Int32 → Int32 → Int32 → tm_M → Int32
  | 0, _, _, _, _ => 0
  | n + 1, l3, l4, l5, μ => (if (8 : Int32) ≤ l5 then l3 else (cx_52k14_21_l3 m1 a2 a3 n ((l3.toUInt32 >>> ((1 : Int32).toUInt32 &&& Int32.toUInt32 31)).toInt32 ^^^ ((if (l3 &&& 1) = 1 then (-306674912) else 0) : Int32)) l4 (l5 + 1) μ))
def cx_52k14_21_l4 (m1 : Nat) (a2 : Int32) (a3 : Int32) : Nat → Int32 → Int32 → Int32 → tm_M → Int32
  | 0, _, _, _, _ => 0
  | n + 1, l3, l4, l5, μ => (if (8 : Int32) ≤ l5 then l4 else (cx_52k14_21_l4 m1 a2 a3 n ((l3.toUInt32 >>> ((1 : Int32).toUInt32 &&& Int32.toUInt32 31)).toInt32 ^^^ ((if (l3 &&& 1) = 1 then (-306674912) else 0) : Int32)) l4 (l5 + 1) μ))
def cx_52k14_21_l5 (m1 : Nat) (a2 : Int32) (a3 : Int32) : Nat → Int32 → Int32 → Int32 → tm_M → Int32
  | 0, _, _, _, _ => 0
  | n + 1, l3, l4, l5, μ => (if (8 : Int32) ≤ l5 then l5 else (cx_52k14_21_l5 m1 a2 a3 n ((l3.toUInt32 >>> ((1 : Int32).toUInt32 &&& Int32.toUInt32 31)).toInt32 ^^^ ((if (l3 &&& 1) = 1 then (-306674912) else 0) : Int32)) l4 (l5 + 1) μ))
def ci_52k14_21 (m1 : Nat) (a2 : Int32) (a3 : Int32) : Nat → Int32 → Int32 → Int32 → tm_M → Prop
  | 0, _, _, _, _ => False
  | n + 1, l3, l4, l5, μ => ((¬ ((8 : Int32) ≤ l5)) → ci_52k14_21 m1 a2 a3 n ((l3.toUInt32 >>> ((1 : Int32).toUInt32 &&& Int32.toUInt32 31)).toInt32 ^^^ ((if (l3 &&& 1) = 1 then (-306674912) else 0) : Int32)) l4 (l5 + 1) μ)
set_option maxHeartbeats 4000000 in
set_option maxRecDepth 10000 in
theorem tx_52k14_21 {m1 : Nat} {a2 : Int32} {a3 : Int32} : ∀ (n : Nat) (l3 : Int32) (l4 : Int32) (l5 : Int32) (μ : tm_M), ci_52k14_21 m1 a2 a3 n l3 l4 l5 μ → xr_t (tm_I L xs) (d + 0) 52 52 [some (.inr (some (14, m1))), some (.inl a2), some (.inl a3), some (.inl (cx_52k14_21_l3 m1 a2 a3 n l3 l4 l5 μ)), some (.inl (cx_52k14_21_l4 m1 a2 a3 n l3 l4 l5 μ)), some (.inl (cx_52k14_21_l5 m1 a2 a3 n l3 l4 l5 μ))] [] μ Q → xr_t (tm_I L xs) (d + 0) 52 21 [some (.inr (some (14, m1))), some (.inl a2), some (.inl a3), some (.inl l3), some (.inl l4), some (.inl l5)] [] μ Q := by
  intro n
  induction n with
  | zero => intro l3 l4 l5 μ hi; exact hi.elim
  | succ n ih =>
    intro l3 l4 l5 μ hi h
    unfold ci_52k14_21 at hi
    simp only [cx_52k14_21_l3, cx_52k14_21_l4, cx_52k14_21_l5] at h
    refine xr_br 3 (c := (8 : Int32) ≤ l5) inferInstance (a := 52) (b := 28) (ls' := [some (.inr (some (14, m1))), some (.inl a2), some (.inl a3), some (.inl l3), some (.inl l4), some (.inl l5)]) (st' := []) (s' := μ) rfl (fun c1 => ?_) (fun c1 => ?_)
    · skip
      try simp only [if_pos c1] at h
      exact h
    · skip
      suffices hj2 : xr_t (tm_I L xs) (d + 0) 52 44 [some (.inr (some (14, m1))), some (.inl a2), some (.inl a3), some (.inl l3), some (.inl l4), some (.inl l5)] [.inl ((if (l3 &&& 1) = 1 then (-306674912) else 0) : Int32), .inl (l3.toUInt32 >>> ((1 : Int32).toUInt32 &&& Int32.toUInt32 31)).toInt32] μ Q by
        refine xr_br 8 (c := (l3 &&& 1) = 1) inferInstance (a := 38) (b := 43) (ls' := [some (.inr (some (14, m1))), some (.inl a2), some (.inl a3), some (.inl l3), some (.inl l4), some (.inl l5)]) (st' := [.inl (l3.toUInt32 >>> ((1 : Int32).toUInt32 &&& Int32.toUInt32 31)).toInt32]) (s' := μ) rfl (fun c2 => ?_) (fun c2 => ?_)
        · skip
          refine xr_go 2 (pc' := 44) (ls' := [some (.inr (some (14, m1))), some (.inl a2), some (.inl a3), some (.inl l3), some (.inl l4), some (.inl l5)]) (st' := [.inl (-306674912), .inl (l3.toUInt32 >>> ((1 : Int32).toUInt32 &&& Int32.toUInt32 31)).toInt32]) (s' := μ) rfl ?_
          have ehj2 : ((if (l3 &&& 1) = 1 then (-306674912) else 0) : Int32) = (-306674912) := by first | rfl | simp only [if_pos c2]
          rw [ehj2] at hj2
          exact hj2
        · skip
          refine xr_go 1 (pc' := 44) (ls' := [some (.inr (some (14, m1))), some (.inl a2), some (.inl a3), some (.inl l3), some (.inl l4), some (.inl l5)]) (st' := [.inl 0, .inl (l3.toUInt32 >>> ((1 : Int32).toUInt32 &&& Int32.toUInt32 31)).toInt32]) (s' := μ) rfl ?_
          have ehj2 : ((if (l3 &&& 1) = 1 then (-306674912) else 0) : Int32) = 0 := by first | rfl | simp only [if_neg c2]
          rw [ehj2] at hj2
          exact hj2
      refine xr_go 4 (pc' := 21) (ls' := [some (.inr (some (14, m1))), some (.inl a2), some (.inl a3), some (.inl ((l3.toUInt32 >>> ((1 : Int32).toUInt32 &&& Int32.toUInt32 31)).toInt32 ^^^ ((if (l3 &&& 1) = 1 then (-306674912) else 0) : Int32))), some (.inl l4), some (.inl (l5 + 1))]) (st' := []) (s' := μ) rfl ?_
      try simp only [if_neg c1] at h
      exact ih ((l3.toUInt32 >>> ((1 : Int32).toUInt32 &&& Int32.toUInt32 31)).toInt32 ^^^ ((if (l3 &&& 1) = 1 then (-306674912) else 0) : Int32)) l4 (l5 + 1) μ (hi c1) h
def cv_52k14_5 (m1 : Nat) (a2 : Int32) (a3 : Int32) : Nat → Int32 → Int32 → tm_M → Int32
  | 0, _, _, _ => 0
  | n + 1, l3, l4, μ => (if a3 ≤ l4 then (l3 ^^^ (-1)) else (cv_52k14_5 m1 a2 a3 n (cx_52k14_21_l3 m1 a2 a3 64 (l3 ^^^ (μ 14 m1 ((l4).toNatClampNeg))) l4 0 μ) ((cx_52k14_21_l4 m1 a2 a3 64 (l3 ^^^ (μ 14 m1 ((l4).toNatClampNeg))) l4 0 μ) + 1) μ))
def ci_52k14_5 (m1 : Nat) (a2 : Int32) (a3 : Int32) : Nat → Int32 → Int32 → tm_M → Prop
  | 0, _, _, _ => False
  | n + 1, l3, l4, μ => ((¬ (a3 ≤ l4)) → tm_ix l4 40 = true) ∧ ((¬ (a3 ≤ l4)) → ci_52k14_21 m1 a2 a3 64 (l3 ^^^ (μ 14 m1 ((l4).toNatClampNeg))) l4 0 μ) ∧ ((¬ (a3 ≤ l4)) → ci_52k14_5 m1 a2 a3 n (cx_52k14_21_l3 m1 a2 a3 64 (l3 ^^^ (μ 14 m1 ((l4).toNatClampNeg))) l4 0 μ) ((cx_52k14_21_l4 m1 a2 a3 64 (l3 ^^^ (μ 14 m1 ((l4).toNatClampNeg))) l4 0 μ) + 1) μ)
set_option maxHeartbeats 4000000 in
set_option maxRecDepth 10000 in
theorem tl_52k14_5 {m1 : Nat} {a2 : Int32} {a3 : Int32} : ∀ (n : Nat) (l3 : Int32) (l4 : Int32) (o5 : Option (xm_V tm_R)) (μ : tm_M), ci_52k14_5 m1 a2 a3 n l3 l4 μ → Q (some (.inl (cv_52k14_5 m1 a2 a3 n l3 l4 μ))) μ → xr_t (tm_I L xs) (d + 0) 52 5 [some (.inr (some (14, m1))), some (.inl a2), some (.inl a3), some (.inl l3), some (.inl l4), o5] [] μ Q := by
  intro n
  induction n with
  | zero => intro l3 l4 o5 μ hi; exact hi.elim
  | succ n ih =>
    intro l3 l4 o5 μ hi h
    unfold ci_52k14_5 at hi
    simp only [cv_52k14_5] at h
    refine xr_br 3 (c := a3 ≤ l4) inferInstance (a := 58) (b := 11) (ls' := [some (.inr (some (14, m1))), some (.inl a2), some (.inl a3), some (.inl l3), some (.inl l4), o5]) (st' := []) (s' := μ) rfl (fun c1 => ?_) (fun c1 => ?_)
    · skip
      refine xr_go 3 (pc' := 61) (ls' := [some (.inr (some (14, m1))), some (.inl a2), some (.inl a3), some (.inl l3), some (.inl l4), o5]) (st' := [.inl (l3 ^^^ (-1))]) (s' := μ) rfl ?_
      try simp only [if_pos c1] at h
      exact xr_rt (v := some (.inl (l3 ^^^ (-1)))) rfl h
    · skip
      refine xr_go 3 (pc' := 15) (ls' := [some (.inr (some (14, m1))), some (.inl a2), some (.inl a3), some (.inl l3), some (.inl l4), o5]) (st' := [.inl l4, .inr (some (14, m1)), .inl l3]) (s' := μ) rfl ?_
      refine xr_ial (n := 40) rfl rfl (hi.1 c1) ?_
      refine xr_go 4 (pc' := 21) (ls' := [some (.inr (some (14, m1))), some (.inl a2), some (.inl a3), some (.inl (l3 ^^^ (μ 14 m1 ((l4).toNatClampNeg)))), some (.inl l4), some (.inl 0)]) (st' := []) (s' := μ) rfl ?_
      refine tx_52k14_21 64 (l3 ^^^ (μ 14 m1 ((l4).toNatClampNeg))) l4 0 μ (hi.2.1 c1) ?_
      generalize gx1 : (cx_52k14_21_l3 m1 a2 a3 64 (l3 ^^^ (μ 14 m1 ((l4).toNatClampNeg))) l4 0 μ) = x1 at h hi ⊢
      generalize gx2 : (cx_52k14_21_l4 m1 a2 a3 64 (l3 ^^^ (μ 14 m1 ((l4).toNatClampNeg))) l4 0 μ) = x2 at h hi ⊢
      generalize gx3 : (cx_52k14_21_l5 m1 a2 a3 64 (l3 ^^^ (μ 14 m1 ((l4).toNatClampNeg))) l4 0 μ) = x3 at h hi ⊢
      refine xr_go 2 (pc' := 5) (ls' := [some (.inr (some (14, m1))), some (.inl a2), some (.inl a3), some (.inl x1), some (.inl (x2 + 1)), some (.inl x3)]) (st' := []) (s' := μ) rfl ?_
      try simp only [if_neg c1] at h
      exact ih x1 (x2 + 1) (some (.inl x3)) μ (hi.2.2 c1) h
def cv_52k14 (m1 : Nat) (a2 : Int32) (a3 : Int32) (μ : tm_M) : Int32 := (cv_52k14_5 m1 a2 a3 64 (-1) a2 μ)
def ci_52k14 (m1 : Nat) (a2 : Int32) (a3 : Int32) (μ : tm_M) : Prop := (ci_52k14_5 m1 a2 a3 64 (-1) a2 μ)
set_option maxHeartbeats 4000000 in
set_option maxRecDepth 10000 in
theorem tf_52k14 {m1 : Nat} {a2 : Int32} {a3 : Int32} (hi : ci_52k14 m1 a2 a3 μ) (h : Q (some (.inl (cv_52k14 m1 a2 a3 μ))) μ) : xm_MW (tm_I L xs) (d + 1) 52 [.inr (some (14, m1)), .inl a2, .inl a3] μ Q := by
  refine xr_in2 [some (.inr (some (14, m1))), some (.inl a2), some (.inl a3), none, none, none] rfl rfl ?_
  unfold cv_52k14 at h
  unfold ci_52k14 at hi
  refine xr_go 4 (pc' := 5) (ls' := [some (.inr (some (14, m1))), some (.inl a2), some (.inl a3), some (.inl (-1)), some (.inl a2), none]) (st' := []) (s' := μ) rfl ?_
  exact tl_52k14_5 64 (-1) a2 none μ (hi) h
-- BootNet$Library.checkOfRow([III)I
def cx_52k35_21_l3 (m1 : Nat) (a2 : Int32) (a3 : Int32) : Nat → Int32 → Int32 → Int32 → tm_M → Int32
  | 0, _, _, _, _ => 0
  | n + 1, l3, l4, l5, μ => (if (8 : Int32) ≤ l5 then l3 else (cx_52k35_21_l3 m1 a2 a3 n ((l3.toUInt32 >>> ((1 : Int32).toUInt32 &&& Int32.toUInt32 31)).toInt32 ^^^ ((if (l3 &&& 1) = 1 then (-306674912) else 0) : Int32)) l4 (l5 + 1) μ))
def cx_52k35_21_l4 (m1 : Nat) (a2 : Int32) (a3 : Int32) : Nat → Int32 → Int32 → Int32 → tm_M → Int32
  | 0, _, _, _, _ => 0
  | n + 1, l3, l4, l5, μ => (if (8 : Int32) ≤ l5 then l4 else (cx_52k35_21_l4 m1 a2 a3 n ((l3.toUInt32 >>> ((1 : Int32).toUInt32 &&& Int32.toUInt32 31)).toInt32 ^^^ ((if (l3 &&& 1) = 1 then (-306674912) else 0) : Int32)) l4 (l5 + 1) μ))
def cx_52k35_21_l5 (m1 : Nat) (a2 : Int32) (a3 : Int32) : Nat → Int32 → Int32 → Int32 → tm_M → Int32
  | 0, _, _, _, _ => 0
  | n + 1, l3, l4, l5, μ => (if (8 : Int32) ≤ l5 then l5 else (cx_52k35_21_l5 m1 a2 a3 n ((l3.toUInt32 >>> ((1 : Int32).toUInt32 &&& Int32.toUInt32 31)).toInt32 ^^^ ((if (l3 &&& 1) = 1 then (-306674912) else 0) : Int32)) l4 (l5 + 1) μ))
def ci_52k35_21 (m1 : Nat) (a2 : Int32) (a3 : Int32) : Nat → Int32 → Int32 → Int32 → tm_M → Prop
  | 0, _, _, _, _ => False
  | n + 1, l3, l4, l5, μ => ((¬ ((8 : Int32) ≤ l5)) → ci_52k35_21 m1 a2 a3 n ((l3.toUInt32 >>> ((1 : Int32).toUInt32 &&& Int32.toUInt32 31)).toInt32 ^^^ ((if (l3 &&& 1) = 1 then (-306674912) else 0) : Int32)) l4 (l5 + 1) μ)
set_option maxHeartbeats 4000000 in
set_option maxRecDepth 10000 in
theorem tx_52k35_21 {m1 : Nat} {a2 : Int32} {a3 : Int32} : ∀ (n : Nat) (l3 : Int32) (l4 : Int32) (l5 : Int32) (μ : tm_M), ci_52k35_21 m1 a2 a3 n l3 l4 l5 μ → xr_t (tm_I L xs) (d + 0) 52 52 [some (.inr (some (35, m1))), some (.inl a2), some (.inl a3), some (.inl (cx_52k35_21_l3 m1 a2 a3 n l3 l4 l5 μ)), some (.inl (cx_52k35_21_l4 m1 a2 a3 n l3 l4 l5 μ)), some (.inl (cx_52k35_21_l5 m1 a2 a3 n l3 l4 l5 μ))] [] μ Q → xr_t (tm_I L xs) (d + 0) 52 21 [some (.inr (some (35, m1))), some (.inl a2), some (.inl a3), some (.inl l3), some (.inl l4), some (.inl l5)] [] μ Q := by
  intro n
  induction n with
  | zero => intro l3 l4 l5 μ hi; exact hi.elim
  | succ n ih =>
    intro l3 l4 l5 μ hi h
    unfold ci_52k35_21 at hi
    simp only [cx_52k35_21_l3, cx_52k35_21_l4, cx_52k35_21_l5] at h
    refine xr_br 3 (c := (8 : Int32) ≤ l5) inferInstance (a := 52) (b := 28) (ls' := [some (.inr (some (35, m1))), some (.inl a2), some (.inl a3), some (.inl l3), some (.inl l4), some (.inl l5)]) (st' := []) (s' := μ) rfl (fun c1 => ?_) (fun c1 => ?_)
    · skip
      try simp only [if_pos c1] at h
      exact h
    · skip
      suffices hj2 : xr_t (tm_I L xs) (d + 0) 52 44 [some (.inr (some (35, m1))), some (.inl a2), some (.inl a3), some (.inl l3), some (.inl l4), some (.inl l5)] [.inl ((if (l3 &&& 1) = 1 then (-306674912) else 0) : Int32), .inl (l3.toUInt32 >>> ((1 : Int32).toUInt32 &&& Int32.toUInt32 31)).toInt32] μ Q by
        refine xr_br 8 (c := (l3 &&& 1) = 1) inferInstance (a := 38) (b := 43) (ls' := [some (.inr (some (35, m1))), some (.inl a2), some (.inl a3), some (.inl l3), some (.inl l4), some (.inl l5)]) (st' := [.inl (l3.toUInt32 >>> ((1 : Int32).toUInt32 &&& Int32.toUInt32 31)).toInt32]) (s' := μ) rfl (fun c2 => ?_) (fun c2 => ?_)
        · skip
          refine xr_go 2 (pc' := 44) (ls' := [some (.inr (some (35, m1))), some (.inl a2), some (.inl a3), some (.inl l3), some (.inl l4), some (.inl l5)]) (st' := [.inl (-306674912), .inl (l3.toUInt32 >>> ((1 : Int32).toUInt32 &&& Int32.toUInt32 31)).toInt32]) (s' := μ) rfl ?_
          have ehj2 : ((if (l3 &&& 1) = 1 then (-306674912) else 0) : Int32) = (-306674912) := by first | rfl | simp only [if_pos c2]
          rw [ehj2] at hj2
          exact hj2
        · skip
          refine xr_go 1 (pc' := 44) (ls' := [some (.inr (some (35, m1))), some (.inl a2), some (.inl a3), some (.inl l3), some (.inl l4), some (.inl l5)]) (st' := [.inl 0, .inl (l3.toUInt32 >>> ((1 : Int32).toUInt32 &&& Int32.toUInt32 31)).toInt32]) (s' := μ) rfl ?_
          have ehj2 : ((if (l3 &&& 1) = 1 then (-306674912) else 0) : Int32) = 0 := by first | rfl | simp only [if_neg c2]
          rw [ehj2] at hj2
          exact hj2
      refine xr_go 4 (pc' := 21) (ls' := [some (.inr (some (35, m1))), some (.inl a2), some (.inl a3), some (.inl ((l3.toUInt32 >>> ((1 : Int32).toUInt32 &&& Int32.toUInt32 31)).toInt32 ^^^ ((if (l3 &&& 1) = 1 then (-306674912) else 0) : Int32))), some (.inl l4), some (.inl (l5 + 1))]) (st' := []) (s' := μ) rfl ?_
      try simp only [if_neg c1] at h
      exact ih ((l3.toUInt32 >>> ((1 : Int32).toUInt32 &&& Int32.toUInt32 31)).toInt32 ^^^ ((if (l3 &&& 1) = 1 then (-306674912) else 0) : Int32)) l4 (l5 + 1) μ (hi c1) h
def cv_52k35_5 (m1 : Nat) (a2 : Int32) (a3 : Int32) : Nat → Int32 → Int32 → tm_M → Int32
  | 0, _, _, _ => 0
  | n + 1, l3, l4, μ => (if a3 ≤ l4 then (l3 ^^^ (-1)) else (cv_52k35_5 m1 a2 a3 n (cx_52k35_21_l3 m1 a2 a3 64 (l3 ^^^ (μ 35 m1 ((l4).toNatClampNeg))) l4 0 μ) ((cx_52k35_21_l4 m1 a2 a3 64 (l3 ^^^ (μ 35 m1 ((l4).toNatClampNeg))) l4 0 μ) + 1) μ))
def ci_52k35_5 (m1 : Nat) (a2 : Int32) (a3 : Int32) : Nat → Int32 → Int32 → tm_M → Prop
  | 0, _, _, _ => False
  | n + 1, l3, l4, μ => ((¬ (a3 ≤ l4)) → tm_ix l4 172 = true) ∧ ((¬ (a3 ≤ l4)) → ci_52k35_21 m1 a2 a3 64 (l3 ^^^ (μ 35 m1 ((l4).toNatClampNeg))) l4 0 μ) ∧ ((¬ (a3 ≤ l4)) → ci_52k35_5 m1 a2 a3 n (cx_52k35_21_l3 m1 a2 a3 64 (l3 ^^^ (μ 35 m1 ((l4).toNatClampNeg))) l4 0 μ) ((cx_52k35_21_l4 m1 a2 a3 64 (l3 ^^^ (μ 35 m1 ((l4).toNatClampNeg))) l4 0 μ) + 1) μ)
set_option maxHeartbeats 4000000 in
set_option maxRecDepth 10000 in
theorem tl_52k35_5 {m1 : Nat} {a2 : Int32} {a3 : Int32} : ∀ (n : Nat) (l3 : Int32) (l4 : Int32) (o5 : Option (xm_V tm_R)) (μ : tm_M), ci_52k35_5 m1 a2 a3 n l3 l4 μ → Q (some (.inl (cv_52k35_5 m1 a2 a3 n l3 l4 μ))) μ → xr_t (tm_I L xs) (d + 0) 52 5 [some (.inr (some (35, m1))), some (.inl a2), some (.inl a3), some (.inl l3), some (.inl l4), o5] [] μ Q := by
  intro n
  induction n with
  | zero => intro l3 l4 o5 μ hi; exact hi.elim
  | succ n ih =>
    intro l3 l4 o5 μ hi h
    unfold ci_52k35_5 at hi
    simp only [cv_52k35_5] at h
    refine xr_br 3 (c := a3 ≤ l4) inferInstance (a := 58) (b := 11) (ls' := [some (.inr (some (35, m1))), some (.inl a2), some (.inl a3), some (.inl l3), some (.inl l4), o5]) (st' := []) (s' := μ) rfl (fun c1 => ?_) (fun c1 => ?_)
    · skip
      refine xr_go 3 (pc' := 61) (ls' := [some (.inr (some (35, m1))), some (.inl a2), some (.inl a3), some (.inl l3), some (.inl l4), o5]) (st' := [.inl (l3 ^^^ (-1))]) (s' := μ) rfl ?_
      try simp only [if_pos c1] at h
      exact xr_rt (v := some (.inl (l3 ^^^ (-1)))) rfl h
    · skip
      refine xr_go 3 (pc' := 15) (ls' := [some (.inr (some (35, m1))), some (.inl a2), some (.inl a3), some (.inl l3), some (.inl l4), o5]) (st' := [.inl l4, .inr (some (35, m1)), .inl l3]) (s' := μ) rfl ?_
      refine xr_ial (n := 172) rfl rfl (hi.1 c1) ?_
      refine xr_go 4 (pc' := 21) (ls' := [some (.inr (some (35, m1))), some (.inl a2), some (.inl a3), some (.inl (l3 ^^^ (μ 35 m1 ((l4).toNatClampNeg)))), some (.inl l4), some (.inl 0)]) (st' := []) (s' := μ) rfl ?_
      refine tx_52k35_21 64 (l3 ^^^ (μ 35 m1 ((l4).toNatClampNeg))) l4 0 μ (hi.2.1 c1) ?_
      generalize gx1 : (cx_52k35_21_l3 m1 a2 a3 64 (l3 ^^^ (μ 35 m1 ((l4).toNatClampNeg))) l4 0 μ) = x1 at h hi ⊢
      generalize gx2 : (cx_52k35_21_l4 m1 a2 a3 64 (l3 ^^^ (μ 35 m1 ((l4).toNatClampNeg))) l4 0 μ) = x2 at h hi ⊢
      generalize gx3 : (cx_52k35_21_l5 m1 a2 a3 64 (l3 ^^^ (μ 35 m1 ((l4).toNatClampNeg))) l4 0 μ) = x3 at h hi ⊢
      refine xr_go 2 (pc' := 5) (ls' := [some (.inr (some (35, m1))), some (.inl a2), some (.inl a3), some (.inl x1), some (.inl (x2 + 1)), some (.inl x3)]) (st' := []) (s' := μ) rfl ?_
      try simp only [if_neg c1] at h
      exact ih x1 (x2 + 1) (some (.inl x3)) μ (hi.2.2 c1) h
def cv_52k35 (m1 : Nat) (a2 : Int32) (a3 : Int32) (μ : tm_M) : Int32 := (cv_52k35_5 m1 a2 a3 64 (-1) a2 μ)
def ci_52k35 (m1 : Nat) (a2 : Int32) (a3 : Int32) (μ : tm_M) : Prop := (ci_52k35_5 m1 a2 a3 64 (-1) a2 μ)
set_option maxHeartbeats 4000000 in
set_option maxRecDepth 10000 in
theorem tf_52k35 {m1 : Nat} {a2 : Int32} {a3 : Int32} (hi : ci_52k35 m1 a2 a3 μ) (h : Q (some (.inl (cv_52k35 m1 a2 a3 μ))) μ) : xm_MW (tm_I L xs) (d + 1) 52 [.inr (some (35, m1)), .inl a2, .inl a3] μ Q := by
  refine xr_in2 [some (.inr (some (35, m1))), some (.inl a2), some (.inl a3), none, none, none] rfl rfl ?_
  unfold cv_52k35 at h
  unfold ci_52k35 at hi
  refine xr_go 4 (pc' := 5) (ls' := [some (.inr (some (35, m1))), some (.inl a2), some (.inl a3), some (.inl (-1)), some (.inl a2), none]) (st' := []) (s' := μ) rfl ?_
  exact tl_52k35_5 64 (-1) a2 none μ (hi) h
-- BootNet$Message.copyBytes([III)V
def cs_74k14 (i : Nat) (m1 : Nat) (a2 : Int32) (a3 : Int32) (μ : tm_M) : tm_M := (tm_wr (tm_cb μ 14 m1 5 i ((a2).toNatClampNeg) 0 ((a3).toNatClampNeg)) 4 i 6 a3)
def ci_74k14 (i : Nat) (m1 : Nat) (a2 : Int32) (a3 : Int32) (μ : tm_M) : Prop := (tc_ok 40 12 a2 0 a3)
set_option maxHeartbeats 4000000 in
set_option maxRecDepth 10000 in
theorem tf_74k14 {i : Nat} {m1 : Nat} {a2 : Int32} {a3 : Int32} (hi : ci_74k14 i m1 a2 a3 μ) (h : Q none (cs_74k14 i m1 a2 a3 μ)) : xm_MW (tm_I L xs) (d + 1) 74 [.inr (some (4, i)), .inr (some (14, m1)), .inl a2, .inl a3] μ Q := by
  refine xr_in2 [some (.inr (some (4, i))), some (.inr (some (14, m1))), some (.inl a2), some (.inl a3)] rfl rfl ?_
  unfold cs_74k14 at h
  unfold ci_74k14 at hi
  refine xr_go 6 (pc' := 8) (ls' := [some (.inr (some (4, i))), some (.inr (some (14, m1))), some (.inl a2), some (.inl a3)]) (st' := [.inl a3, .inl 0, .inr (some (5, i)), .inl a2, .inr (some (14, m1))]) (s' := μ) rfl ?_
  refine xr_acp (n0 := 40) (n1 := 12) rfl rfl (hi) ?_
  refine xr_go 3 (pc' := 16) (ls' := [some (.inr (some (4, i))), some (.inr (some (14, m1))), some (.inl a2), some (.inl a3)]) (st' := []) (s' := (tm_wr (tm_cb μ 14 m1 5 i ((a2).toNatClampNeg) 0 ((a3).toNatClampNeg)) 4 i 6 a3)) rfl ?_
  exact xr_rt (v := none) rfl h
-- BootNet$Message.copyBytes([III)V
def cs_74k5 (i : Nat) (m1 : Nat) (a2 : Int32) (a3 : Int32) (μ : tm_M) : tm_M := (tm_wr (tm_cb μ 5 m1 5 i ((a2).toNatClampNeg) 0 ((a3).toNatClampNeg)) 4 i 6 a3)
def ci_74k5 (i : Nat) (m1 : Nat) (a2 : Int32) (a3 : Int32) (μ : tm_M) : Prop := (tc_ok 12 12 a2 0 a3)
set_option maxHeartbeats 4000000 in
set_option maxRecDepth 10000 in
theorem tf_74k5 {i : Nat} {m1 : Nat} {a2 : Int32} {a3 : Int32} (hi : ci_74k5 i m1 a2 a3 μ) (h : Q none (cs_74k5 i m1 a2 a3 μ)) : xm_MW (tm_I L xs) (d + 1) 74 [.inr (some (4, i)), .inr (some (5, m1)), .inl a2, .inl a3] μ Q := by
  refine xr_in2 [some (.inr (some (4, i))), some (.inr (some (5, m1))), some (.inl a2), some (.inl a3)] rfl rfl ?_
  unfold cs_74k5 at h
  unfold ci_74k5 at hi
  refine xr_go 6 (pc' := 8) (ls' := [some (.inr (some (4, i))), some (.inr (some (5, m1))), some (.inl a2), some (.inl a3)]) (st' := [.inl a3, .inl 0, .inr (some (5, i)), .inl a2, .inr (some (5, m1))]) (s' := μ) rfl ?_
  refine xr_acp (n0 := 12) (n1 := 12) rfl rfl (hi) ?_
  refine xr_go 3 (pc' := 16) (ls' := [some (.inr (some (4, i))), some (.inr (some (5, m1))), some (.inl a2), some (.inl a3)]) (st' := []) (s' := (tm_wr (tm_cb μ 5 m1 5 i ((a2).toNatClampNeg) 0 ((a3).toNatClampNeg)) 4 i 6 a3)) rfl ?_
  exact xr_rt (v := none) rfl h
-- java/util/Arrays.fill([II)V
def cs_174k24_5 (m1 : Nat) (a2 : Int32) : Nat → Int32 → Int32 → tm_M → tm_M
  | 0, _, _, μ => μ
  | n + 1, l2, l3, μ => (if l3 ≤ l2 then μ else (cs_174k24_5 m1 a2 n (l2 + 1) l3 (tm_wr μ 24 m1 ((l2).toNatClampNeg) a2)))
def ci_174k24_5 (m1 : Nat) (a2 : Int32) : Nat → Int32 → Int32 → tm_M → Prop
  | 0, _, _, _ => False
  | n + 1, l2, l3, μ => ((¬ (l3 ≤ l2)) → tm_ix l2 30 = true) ∧ ((¬ (l3 ≤ l2)) → ci_174k24_5 m1 a2 n (l2 + 1) l3 (tm_wr μ 24 m1 ((l2).toNatClampNeg) a2))
set_option maxHeartbeats 4000000 in
set_option maxRecDepth 10000 in
theorem tl_174k24_5 {m1 : Nat} {a2 : Int32} : ∀ (n : Nat) (l2 : Int32) (l3 : Int32) (μ : tm_M), ci_174k24_5 m1 a2 n l2 l3 μ → Q none (cs_174k24_5 m1 a2 n l2 l3 μ) → xr_t (tm_I L xs) (d + 0) 174 5 [some (.inr (some (24, m1))), some (.inl a2), some (.inl l2), some (.inl l3)] [] μ Q := by
  intro n
  induction n with
  | zero => intro l2 l3 μ hi; exact hi.elim
  | succ n ih =>
    intro l2 l3 μ hi h
    unfold ci_174k24_5 at hi
    simp only [cs_174k24_5] at h
    refine xr_br 3 (c := l3 ≤ l2) inferInstance (a := 20) (b := 10) (ls' := [some (.inr (some (24, m1))), some (.inl a2), some (.inl l2), some (.inl l3)]) (st' := []) (s' := μ) rfl (fun c1 => ?_) (fun c1 => ?_)
    · skip
      try simp only [if_pos c1] at h
      exact xr_rt (v := none) rfl h
    · skip
      refine xr_go 3 (pc' := 13) (ls' := [some (.inr (some (24, m1))), some (.inl a2), some (.inl l2), some (.inl l3)]) (st' := [.inl a2, .inl l2, .inr (some (24, m1))]) (s' := μ) rfl ?_
      refine xr_ias (n := 30) rfl rfl (hi.1 c1) ?_
      refine xr_go 2 (pc' := 5) (ls' := [some (.inr (some (24, m1))), some (.inl a2), some (.inl (l2 + 1)), some (.inl l3)]) (st' := []) (s' := (tm_wr μ 24 m1 ((l2).toNatClampNeg) a2)) rfl ?_
      try simp only [if_neg c1] at h
      exact ih (l2 + 1) l3 (tm_wr μ 24 m1 ((l2).toNatClampNeg) a2) (hi.2 c1) h
def cs_174k24 (m1 : Nat) (a2 : Int32) (μ : tm_M) : tm_M := (cs_174k24_5 m1 a2 64 0 30 μ)
def ci_174k24 (m1 : Nat) (a2 : Int32) (μ : tm_M) : Prop := (ci_174k24_5 m1 a2 64 0 30 μ)
set_option maxHeartbeats 4000000 in
set_option maxRecDepth 10000 in
theorem tf_174k24 {m1 : Nat} {a2 : Int32} (hi : ci_174k24 m1 a2 μ) (h : Q none (cs_174k24 m1 a2 μ)) : xm_MW (tm_I L xs) (d + 1) 174 [.inr (some (24, m1)), .inl a2] μ Q := by
  refine xr_in2 [some (.inr (some (24, m1))), some (.inl a2), none, none] rfl rfl ?_
  unfold cs_174k24 at h
  unfold ci_174k24 at hi
  refine xr_go 5 (pc' := 5) (ls' := [some (.inr (some (24, m1))), some (.inl a2), some (.inl 0), some (.inl 30)]) (st' := []) (s' := μ) rfl ?_
  exact tl_174k24_5 64 0 30 μ (hi) h
-- java/util/Arrays.fill([II)V
def cs_174k26_5 (m1 : Nat) (a2 : Int32) : Nat → Int32 → Int32 → tm_M → tm_M
  | 0, _, _, μ => μ
  | n + 1, l2, l3, μ => (if l3 ≤ l2 then μ else (cs_174k26_5 m1 a2 n (l2 + 1) l3 (tm_wr μ 26 m1 ((l2).toNatClampNeg) a2)))
def ci_174k26_5 (m1 : Nat) (a2 : Int32) : Nat → Int32 → Int32 → tm_M → Prop
  | 0, _, _, _ => False
  | n + 1, l2, l3, μ => ((¬ (l3 ≤ l2)) → tm_ix l2 30 = true) ∧ ((¬ (l3 ≤ l2)) → ci_174k26_5 m1 a2 n (l2 + 1) l3 (tm_wr μ 26 m1 ((l2).toNatClampNeg) a2))
set_option maxHeartbeats 4000000 in
set_option maxRecDepth 10000 in
theorem tl_174k26_5 {m1 : Nat} {a2 : Int32} : ∀ (n : Nat) (l2 : Int32) (l3 : Int32) (μ : tm_M), ci_174k26_5 m1 a2 n l2 l3 μ → Q none (cs_174k26_5 m1 a2 n l2 l3 μ) → xr_t (tm_I L xs) (d + 0) 174 5 [some (.inr (some (26, m1))), some (.inl a2), some (.inl l2), some (.inl l3)] [] μ Q := by
  intro n
  induction n with
  | zero => intro l2 l3 μ hi; exact hi.elim
  | succ n ih =>
    intro l2 l3 μ hi h
    unfold ci_174k26_5 at hi
    simp only [cs_174k26_5] at h
    refine xr_br 3 (c := l3 ≤ l2) inferInstance (a := 20) (b := 10) (ls' := [some (.inr (some (26, m1))), some (.inl a2), some (.inl l2), some (.inl l3)]) (st' := []) (s' := μ) rfl (fun c1 => ?_) (fun c1 => ?_)
    · skip
      try simp only [if_pos c1] at h
      exact xr_rt (v := none) rfl h
    · skip
      refine xr_go 3 (pc' := 13) (ls' := [some (.inr (some (26, m1))), some (.inl a2), some (.inl l2), some (.inl l3)]) (st' := [.inl a2, .inl l2, .inr (some (26, m1))]) (s' := μ) rfl ?_
      refine xr_ias (n := 30) rfl rfl (hi.1 c1) ?_
      refine xr_go 2 (pc' := 5) (ls' := [some (.inr (some (26, m1))), some (.inl a2), some (.inl (l2 + 1)), some (.inl l3)]) (st' := []) (s' := (tm_wr μ 26 m1 ((l2).toNatClampNeg) a2)) rfl ?_
      try simp only [if_neg c1] at h
      exact ih (l2 + 1) l3 (tm_wr μ 26 m1 ((l2).toNatClampNeg) a2) (hi.2 c1) h
def cs_174k26 (m1 : Nat) (a2 : Int32) (μ : tm_M) : tm_M := (cs_174k26_5 m1 a2 64 0 30 μ)
def ci_174k26 (m1 : Nat) (a2 : Int32) (μ : tm_M) : Prop := (ci_174k26_5 m1 a2 64 0 30 μ)
set_option maxHeartbeats 4000000 in
set_option maxRecDepth 10000 in
theorem tf_174k26 {m1 : Nat} {a2 : Int32} (hi : ci_174k26 m1 a2 μ) (h : Q none (cs_174k26 m1 a2 μ)) : xm_MW (tm_I L xs) (d + 1) 174 [.inr (some (26, m1)), .inl a2] μ Q := by
  refine xr_in2 [some (.inr (some (26, m1))), some (.inl a2), none, none] rfl rfl ?_
  unfold cs_174k26 at h
  unfold ci_174k26 at hi
  refine xr_go 5 (pc' := 5) (ls' := [some (.inr (some (26, m1))), some (.inl a2), some (.inl 0), some (.inl 30)]) (st' := []) (s' := μ) rfl ?_
  exact tl_174k26_5 64 0 30 μ (hi) h
-- java/util/Arrays.fill([II)V
def cs_174k27_5 (m1 : Nat) (a2 : Int32) : Nat → Int32 → Int32 → tm_M → tm_M
  | 0, _, _, μ => μ
  | n + 1, l2, l3, μ => (if l3 ≤ l2 then μ else (cs_174k27_5 m1 a2 n (l2 + 1) l3 (tm_wr μ 27 m1 ((l2).toNatClampNeg) a2)))
def ci_174k27_5 (m1 : Nat) (a2 : Int32) : Nat → Int32 → Int32 → tm_M → Prop
  | 0, _, _, _ => False
  | n + 1, l2, l3, μ => ((¬ (l3 ≤ l2)) → tm_ix l2 30 = true) ∧ ((¬ (l3 ≤ l2)) → ci_174k27_5 m1 a2 n (l2 + 1) l3 (tm_wr μ 27 m1 ((l2).toNatClampNeg) a2))
set_option maxHeartbeats 4000000 in
set_option maxRecDepth 10000 in
theorem tl_174k27_5 {m1 : Nat} {a2 : Int32} : ∀ (n : Nat) (l2 : Int32) (l3 : Int32) (μ : tm_M), ci_174k27_5 m1 a2 n l2 l3 μ → Q none (cs_174k27_5 m1 a2 n l2 l3 μ) → xr_t (tm_I L xs) (d + 0) 174 5 [some (.inr (some (27, m1))), some (.inl a2), some (.inl l2), some (.inl l3)] [] μ Q := by
  intro n
  induction n with
  | zero => intro l2 l3 μ hi; exact hi.elim
  | succ n ih =>
    intro l2 l3 μ hi h
    unfold ci_174k27_5 at hi
    simp only [cs_174k27_5] at h
    refine xr_br 3 (c := l3 ≤ l2) inferInstance (a := 20) (b := 10) (ls' := [some (.inr (some (27, m1))), some (.inl a2), some (.inl l2), some (.inl l3)]) (st' := []) (s' := μ) rfl (fun c1 => ?_) (fun c1 => ?_)
    · skip
      try simp only [if_pos c1] at h
      exact xr_rt (v := none) rfl h
    · skip
      refine xr_go 3 (pc' := 13) (ls' := [some (.inr (some (27, m1))), some (.inl a2), some (.inl l2), some (.inl l3)]) (st' := [.inl a2, .inl l2, .inr (some (27, m1))]) (s' := μ) rfl ?_
      refine xr_ias (n := 30) rfl rfl (hi.1 c1) ?_
      refine xr_go 2 (pc' := 5) (ls' := [some (.inr (some (27, m1))), some (.inl a2), some (.inl (l2 + 1)), some (.inl l3)]) (st' := []) (s' := (tm_wr μ 27 m1 ((l2).toNatClampNeg) a2)) rfl ?_
      try simp only [if_neg c1] at h
      exact ih (l2 + 1) l3 (tm_wr μ 27 m1 ((l2).toNatClampNeg) a2) (hi.2 c1) h
def cs_174k27 (m1 : Nat) (a2 : Int32) (μ : tm_M) : tm_M := (cs_174k27_5 m1 a2 64 0 30 μ)
def ci_174k27 (m1 : Nat) (a2 : Int32) (μ : tm_M) : Prop := (ci_174k27_5 m1 a2 64 0 30 μ)
set_option maxHeartbeats 4000000 in
set_option maxRecDepth 10000 in
theorem tf_174k27 {m1 : Nat} {a2 : Int32} (hi : ci_174k27 m1 a2 μ) (h : Q none (cs_174k27 m1 a2 μ)) : xm_MW (tm_I L xs) (d + 1) 174 [.inr (some (27, m1)), .inl a2] μ Q := by
  refine xr_in2 [some (.inr (some (27, m1))), some (.inl a2), none, none] rfl rfl ?_
  unfold cs_174k27 at h
  unfold ci_174k27 at hi
  refine xr_go 5 (pc' := 5) (ls' := [some (.inr (some (27, m1))), some (.inl a2), some (.inl 0), some (.inl 30)]) (st' := []) (s' := μ) rfl ?_
  exact tl_174k27_5 64 0 30 μ (hi) h
end TF
