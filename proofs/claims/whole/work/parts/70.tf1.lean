/-! Small methods of the class as functions. Written by prog/gen_tf.py. -/
section TF
variable {L : Nat} {xs : Nat → Int32} {d : Nat} {μ : tm_M} {Q : Option (xm_V tm_R) → tm_M → Prop}
-- BootNet$AddressBook.lessee(I)I
def cv_23 (a1 : Int32) (μ : tm_M) : Int32 := ((if (μ 24 0 ((a1).toNatClampNeg)) ≤ (μ 1 0 3) then (-1) else (μ 23 0 ((a1).toNatClampNeg))) : Int32)
def ci_23 (a1 : Int32) (μ : tm_M) : Prop := (tm_ix a1 30 = true)
set_option maxHeartbeats 4000000 in
set_option maxRecDepth 10000 in
theorem tf_23 {a1 : Int32} (hi : ci_23 a1 μ) (h : Q (some (.inl (cv_23 a1 μ))) μ) : xm_MW (tm_I L xs) (d + 1) 23 [.inr (some (22, 0)), .inl a1] μ Q := by
  refine xr_in2 [some (.inr (some (22, 0))), some (.inl a1)] rfl rfl ?_
  unfold cv_23 at h
  unfold ci_23 at hi
  refine xr_go 3 (pc' := 5) (ls' := [some (.inr (some (22, 0))), some (.inl a1)]) (st' := [.inl a1, .inr (some (24, 0))]) (s' := μ) rfl ?_
  refine xr_ial (n := 30) rfl rfl (hi) ?_
  suffices hj1 : xr_t (tm_I L xs) (d + 0) 23 26 [some (.inr (some (22, 0))), some (.inl a1)] [.inl ((if (μ 24 0 ((a1).toNatClampNeg)) ≤ (μ 1 0 3) then (-1) else (μ 23 0 ((a1).toNatClampNeg))) : Int32)] μ Q by
    refine xr_br 4 (c := (μ 24 0 ((a1).toNatClampNeg)) ≤ (μ 1 0 3)) inferInstance (a := 25) (b := 16) (ls' := [some (.inr (some (22, 0))), some (.inl a1)]) (st' := []) (s' := μ) rfl (fun c1 => ?_) (fun c1 => ?_)
    · skip
      refine xr_go 1 (pc' := 26) (ls' := [some (.inr (some (22, 0))), some (.inl a1)]) (st' := [.inl (-1)]) (s' := μ) rfl ?_
      have ehj1 : ((if (μ 24 0 ((a1).toNatClampNeg)) ≤ (μ 1 0 3) then (-1) else (μ 23 0 ((a1).toNatClampNeg))) : Int32) = (-1) := by first | rfl | simp only [if_pos c1]
      rw [ehj1] at hj1
      exact hj1
    · skip
      refine xr_go 3 (pc' := 21) (ls' := [some (.inr (some (22, 0))), some (.inl a1)]) (st' := [.inl a1, .inr (some (23, 0))]) (s' := μ) rfl ?_
      refine xr_ial (n := 30) rfl rfl (hi) ?_
      refine xr_go 1 (pc' := 26) (ls' := [some (.inr (some (22, 0))), some (.inl a1)]) (st' := [.inl (μ 23 0 ((a1).toNatClampNeg))]) (s' := μ) rfl ?_
      have ehj1 : ((if (μ 24 0 ((a1).toNatClampNeg)) ≤ (μ 1 0 3) then (-1) else (μ 23 0 ((a1).toNatClampNeg))) : Int32) = (μ 23 0 ((a1).toNatClampNeg)) := by first | rfl | simp only [if_neg c1]
      rw [ehj1] at hj1
      exact hj1
  exact xr_rt (v := some (.inl ((if (μ 24 0 ((a1).toNatClampNeg)) ≤ (μ 1 0 3) then (-1) else (μ 23 0 ((a1).toNatClampNeg))) : Int32))) rfl h
-- BootNet$AddressBook.offeree(I)I
def cv_24 (a1 : Int32) (μ : tm_M) : Int32 := ((if (μ 26 0 ((a1).toNatClampNeg)) ≤ (μ 1 0 3) then (-1) else (μ 25 0 ((a1).toNatClampNeg))) : Int32)
def ci_24 (a1 : Int32) (μ : tm_M) : Prop := (tm_ix a1 30 = true)
set_option maxHeartbeats 4000000 in
set_option maxRecDepth 10000 in
theorem tf_24 {a1 : Int32} (hi : ci_24 a1 μ) (h : Q (some (.inl (cv_24 a1 μ))) μ) : xm_MW (tm_I L xs) (d + 1) 24 [.inr (some (22, 0)), .inl a1] μ Q := by
  refine xr_in2 [some (.inr (some (22, 0))), some (.inl a1)] rfl rfl ?_
  unfold cv_24 at h
  unfold ci_24 at hi
  refine xr_go 3 (pc' := 5) (ls' := [some (.inr (some (22, 0))), some (.inl a1)]) (st' := [.inl a1, .inr (some (26, 0))]) (s' := μ) rfl ?_
  refine xr_ial (n := 30) rfl rfl (hi) ?_
  suffices hj1 : xr_t (tm_I L xs) (d + 0) 24 26 [some (.inr (some (22, 0))), some (.inl a1)] [.inl ((if (μ 26 0 ((a1).toNatClampNeg)) ≤ (μ 1 0 3) then (-1) else (μ 25 0 ((a1).toNatClampNeg))) : Int32)] μ Q by
    refine xr_br 4 (c := (μ 26 0 ((a1).toNatClampNeg)) ≤ (μ 1 0 3)) inferInstance (a := 25) (b := 16) (ls' := [some (.inr (some (22, 0))), some (.inl a1)]) (st' := []) (s' := μ) rfl (fun c1 => ?_) (fun c1 => ?_)
    · skip
      refine xr_go 1 (pc' := 26) (ls' := [some (.inr (some (22, 0))), some (.inl a1)]) (st' := [.inl (-1)]) (s' := μ) rfl ?_
      have ehj1 : ((if (μ 26 0 ((a1).toNatClampNeg)) ≤ (μ 1 0 3) then (-1) else (μ 25 0 ((a1).toNatClampNeg))) : Int32) = (-1) := by first | rfl | simp only [if_pos c1]
      rw [ehj1] at hj1
      exact hj1
    · skip
      refine xr_go 3 (pc' := 21) (ls' := [some (.inr (some (22, 0))), some (.inl a1)]) (st' := [.inl a1, .inr (some (25, 0))]) (s' := μ) rfl ?_
      refine xr_ial (n := 30) rfl rfl (hi) ?_
      refine xr_go 1 (pc' := 26) (ls' := [some (.inr (some (22, 0))), some (.inl a1)]) (st' := [.inl (μ 25 0 ((a1).toNatClampNeg))]) (s' := μ) rfl ?_
      have ehj1 : ((if (μ 26 0 ((a1).toNatClampNeg)) ≤ (μ 1 0 3) then (-1) else (μ 25 0 ((a1).toNatClampNeg))) : Int32) = (μ 25 0 ((a1).toNatClampNeg)) := by first | rfl | simp only [if_neg c1]
      rw [ehj1] at hj1
      exact hj1
  exact xr_rt (v := some (.inl ((if (μ 26 0 ((a1).toNatClampNeg)) ≤ (μ 1 0 3) then (-1) else (μ 25 0 ((a1).toNatClampNeg))) : Int32))) rfl h
-- BootNet$AddressBook.isBarred(I)Z
def cv_25 (a1 : Int32) (μ : tm_M) : Int32 := ((if (μ 27 0 ((a1).toNatClampNeg)) ≤ (μ 1 0 3) then 0 else 1) : Int32)
def ci_25 (a1 : Int32) (μ : tm_M) : Prop := (tm_ix a1 30 = true)
theorem cz_25 {a1 : Int32} {μ : tm_M} : cv_25 a1 μ = 0 ∨ cv_25 a1 μ = 1 := by
  unfold cv_25
  (repeat' split) <;> first | exact Or.inl rfl | exact Or.inr rfl
set_option maxHeartbeats 4000000 in
set_option maxRecDepth 10000 in
theorem tf_25 {a1 : Int32} (hi : ci_25 a1 μ) (h : Q (some (.inl (cv_25 a1 μ))) μ) : xm_MW (tm_I L xs) (d + 1) 25 [.inr (some (22, 0)), .inl a1] μ Q := by
  refine xr_in2 [some (.inr (some (22, 0))), some (.inl a1)] rfl rfl ?_
  unfold cv_25 at h
  unfold ci_25 at hi
  refine xr_go 3 (pc' := 5) (ls' := [some (.inr (some (22, 0))), some (.inl a1)]) (st' := [.inl a1, .inr (some (27, 0))]) (s' := μ) rfl ?_
  refine xr_ial (n := 30) rfl rfl (hi) ?_
  suffices hj1 : xr_t (tm_I L xs) (d + 0) 25 21 [some (.inr (some (22, 0))), some (.inl a1)] [.inl ((if (μ 27 0 ((a1).toNatClampNeg)) ≤ (μ 1 0 3) then 0 else 1) : Int32)] μ Q by
    refine xr_br 4 (c := (μ 27 0 ((a1).toNatClampNeg)) ≤ (μ 1 0 3)) inferInstance (a := 20) (b := 16) (ls' := [some (.inr (some (22, 0))), some (.inl a1)]) (st' := []) (s' := μ) rfl (fun c1 => ?_) (fun c1 => ?_)
    · skip
      refine xr_go 1 (pc' := 21) (ls' := [some (.inr (some (22, 0))), some (.inl a1)]) (st' := [.inl 0]) (s' := μ) rfl ?_
      have ehj1 : ((if (μ 27 0 ((a1).toNatClampNeg)) ≤ (μ 1 0 3) then 0 else 1) : Int32) = 0 := by first | rfl | simp only [if_pos c1]
      rw [ehj1] at hj1
      exact hj1
    · skip
      refine xr_go 2 (pc' := 21) (ls' := [some (.inr (some (22, 0))), some (.inl a1)]) (st' := [.inl 1]) (s' := μ) rfl ?_
      have ehj1 : ((if (μ 27 0 ((a1).toNatClampNeg)) ≤ (μ 1 0 3) then 0 else 1) : Int32) = 1 := by first | rfl | simp only [if_neg c1]
      rw [ehj1] at hj1
      exact hj1
  exact xr_zr rfl (fun _ => (by (repeat' split) <;> first | exact Or.inl rfl | exact Or.inr rfl)) h
-- BootNet$Ground.newNumber()I
def cv_34  (μ : tm_M) : Int32 := ((μ 1 0 4) + 1)
def cs_34  (μ : tm_M) : tm_M := (tm_wr μ 1 0 4 ((μ 1 0 4) + 1))
set_option maxHeartbeats 4000000 in
set_option maxRecDepth 10000 in
theorem tf_34  (h : Q (some (.inl (cv_34 μ))) (cs_34 μ)) : xm_MW (tm_I L xs) (d + 1) 34 [.inr (some (1, 0))] μ Q := by
  refine xr_in2 [some (.inr (some (1, 0)))] rfl rfl ?_
  unfold cv_34 cs_34 at h
  refine xr_go 8 (pc' := 14) (ls' := [some (.inr (some (1, 0)))]) (st' := [.inl ((μ 1 0 4) + 1)]) (s' := (tm_wr μ 1 0 4 ((μ 1 0 4) + 1))) rfl ?_
  exact xr_rt (v := some (.inl ((μ 1 0 4) + 1))) rfl h
-- BootNet$Layout.isAddress(I)Z
def cv_36 (a1 : Int32) (μ : tm_M) : Int32 := ((if a1 ≤ 0 then 0 else ((if (30 : Int32) ≤ a1 then 0 else ((if (a1 - ((a1 / 10) * 10)) = 0 then 0 else 1) : Int32)) : Int32)) : Int32)
theorem cz_36 {a1 : Int32} {μ : tm_M} : cv_36 a1 μ = 0 ∨ cv_36 a1 μ = 1 := by
  unfold cv_36
  (repeat' split) <;> first | exact Or.inl rfl | exact Or.inr rfl
set_option maxHeartbeats 4000000 in
set_option maxRecDepth 10000 in
theorem tf_36 {a1 : Int32} (h : Q (some (.inl (cv_36 a1 μ))) μ) : xm_MW (tm_I L xs) (d + 1) 36 [.inl a1] μ Q := by
  refine xr_in2 [some (.inl a1)] rfl rfl ?_
  unfold cv_36 at h
  suffices hj1 : xr_t (tm_I L xs) (d + 0) 36 22 [some (.inl a1)] [.inl ((if a1 ≤ 0 then 0 else ((if (30 : Int32) ≤ a1 then 0 else ((if (a1 - ((a1 / 10) * 10)) = 0 then 0 else 1) : Int32)) : Int32)) : Int32)] μ Q by
    refine xr_br 2 (c := a1 ≤ 0) inferInstance (a := 21) (b := 4) (ls' := [some (.inl a1)]) (st' := []) (s' := μ) rfl (fun c1 => ?_) (fun c1 => ?_)
    · skip
      refine xr_go 1 (pc' := 22) (ls' := [some (.inl a1)]) (st' := [.inl 0]) (s' := μ) rfl ?_
      have ehj1 : ((if a1 ≤ 0 then 0 else ((if (30 : Int32) ≤ a1 then 0 else ((if (a1 - ((a1 / 10) * 10)) = 0 then 0 else 1) : Int32)) : Int32)) : Int32) = 0 := by first | rfl | simp only [if_pos c1]
      rw [ehj1] at hj1
      exact hj1
    · skip
      suffices hj2 : xr_t (tm_I L xs) (d + 0) 36 22 [some (.inl a1)] [.inl ((if (30 : Int32) ≤ a1 then 0 else ((if (a1 - ((a1 / 10) * 10)) = 0 then 0 else 1) : Int32)) : Int32)] μ Q by
        refine xr_br 3 (c := (30 : Int32) ≤ a1) inferInstance (a := 21) (b := 10) (ls' := [some (.inl a1)]) (st' := []) (s' := μ) rfl (fun c2 => ?_) (fun c2 => ?_)
        · skip
          refine xr_go 1 (pc' := 22) (ls' := [some (.inl a1)]) (st' := [.inl 0]) (s' := μ) rfl ?_
          have ehj2 : ((if (30 : Int32) ≤ a1 then 0 else ((if (a1 - ((a1 / 10) * 10)) = 0 then 0 else 1) : Int32)) : Int32) = 0 := by first | rfl | simp only [if_pos c2]
          rw [ehj2] at hj2
          exact hj2
        · skip
          suffices hj3 : xr_t (tm_I L xs) (d + 0) 36 22 [some (.inl a1)] [.inl ((if (a1 - ((a1 / 10) * 10)) = 0 then 0 else 1) : Int32)] μ Q by
            refine xr_br 4 (c := (a1 - ((a1 / 10) * 10)) = 0) inferInstance (a := 21) (b := 17) (ls' := [some (.inl a1)]) (st' := []) (s' := μ) rfl (fun c3 => ?_) (fun c3 => ?_)
            · skip
              refine xr_go 1 (pc' := 22) (ls' := [some (.inl a1)]) (st' := [.inl 0]) (s' := μ) rfl ?_
              have ehj3 : ((if (a1 - ((a1 / 10) * 10)) = 0 then 0 else 1) : Int32) = 0 := by first | rfl | simp only [if_pos c3]
              rw [ehj3] at hj3
              exact hj3
            · skip
              refine xr_go 2 (pc' := 22) (ls' := [some (.inl a1)]) (st' := [.inl 1]) (s' := μ) rfl ?_
              have ehj3 : ((if (a1 - ((a1 / 10) * 10)) = 0 then 0 else 1) : Int32) = 1 := by first | rfl | simp only [if_neg c3]
              rw [ehj3] at hj3
              exact hj3
          have ehj2 : ((if (30 : Int32) ≤ a1 then 0 else ((if (a1 - ((a1 / 10) * 10)) = 0 then 0 else 1) : Int32)) : Int32) = ((if (a1 - ((a1 / 10) * 10)) = 0 then 0 else 1) : Int32) := by first | rfl | simp only [if_neg c2]
          rw [ehj2] at hj2
          exact hj2
      have ehj1 : ((if a1 ≤ 0 then 0 else ((if (30 : Int32) ≤ a1 then 0 else ((if (a1 - ((a1 / 10) * 10)) = 0 then 0 else 1) : Int32)) : Int32)) : Int32) = ((if (30 : Int32) ≤ a1 then 0 else ((if (a1 - ((a1 / 10) * 10)) = 0 then 0 else 1) : Int32)) : Int32) := by first | rfl | simp only [if_neg c1]
      rw [ehj1] at hj1
      exact hj1
  exact xr_zr rfl (fun _ => (by (repeat' split) <;> first | exact Or.inl rfl | exact Or.inr rfl)) h
-- BootNet$Layout.isSubnet(I)Z
def cv_37 (a1 : Int32) (μ : tm_M) : Int32 := ((if a1 < 0 then 0 else ((if (3 : Int32) ≤ a1 then 0 else 1) : Int32)) : Int32)
theorem cz_37 {a1 : Int32} {μ : tm_M} : cv_37 a1 μ = 0 ∨ cv_37 a1 μ = 1 := by
  unfold cv_37
  (repeat' split) <;> first | exact Or.inl rfl | exact Or.inr rfl
set_option maxHeartbeats 4000000 in
set_option maxRecDepth 10000 in
theorem tf_37 {a1 : Int32} (h : Q (some (.inl (cv_37 a1 μ))) μ) : xm_MW (tm_I L xs) (d + 1) 37 [.inl a1] μ Q := by
  refine xr_in2 [some (.inl a1)] rfl rfl ?_
  unfold cv_37 at h
  suffices hj1 : xr_t (tm_I L xs) (d + 0) 37 14 [some (.inl a1)] [.inl ((if a1 < 0 then 0 else ((if (3 : Int32) ≤ a1 then 0 else 1) : Int32)) : Int32)] μ Q by
    refine xr_br 2 (c := a1 < 0) inferInstance (a := 13) (b := 4) (ls' := [some (.inl a1)]) (st' := []) (s' := μ) rfl (fun c1 => ?_) (fun c1 => ?_)
    · skip
      refine xr_go 1 (pc' := 14) (ls' := [some (.inl a1)]) (st' := [.inl 0]) (s' := μ) rfl ?_
      have ehj1 : ((if a1 < 0 then 0 else ((if (3 : Int32) ≤ a1 then 0 else 1) : Int32)) : Int32) = 0 := by first | rfl | simp only [if_pos c1]
      rw [ehj1] at hj1
      exact hj1
    · skip
      suffices hj2 : xr_t (tm_I L xs) (d + 0) 37 14 [some (.inl a1)] [.inl ((if (3 : Int32) ≤ a1 then 0 else 1) : Int32)] μ Q by
        refine xr_br 3 (c := (3 : Int32) ≤ a1) inferInstance (a := 13) (b := 9) (ls' := [some (.inl a1)]) (st' := []) (s' := μ) rfl (fun c2 => ?_) (fun c2 => ?_)
        · skip
          refine xr_go 1 (pc' := 14) (ls' := [some (.inl a1)]) (st' := [.inl 0]) (s' := μ) rfl ?_
          have ehj2 : ((if (3 : Int32) ≤ a1 then 0 else 1) : Int32) = 0 := by first | rfl | simp only [if_pos c2]
          rw [ehj2] at hj2
          exact hj2
        · skip
          refine xr_go 2 (pc' := 14) (ls' := [some (.inl a1)]) (st' := [.inl 1]) (s' := μ) rfl ?_
          have ehj2 : ((if (3 : Int32) ≤ a1 then 0 else 1) : Int32) = 1 := by first | rfl | simp only [if_neg c2]
          rw [ehj2] at hj2
          exact hj2
      have ehj1 : ((if a1 < 0 then 0 else ((if (3 : Int32) ≤ a1 then 0 else 1) : Int32)) : Int32) = ((if (3 : Int32) ≤ a1 then 0 else 1) : Int32) := by first | rfl | simp only [if_neg c1]
      rw [ehj1] at hj1
      exact hj1
  exact xr_zr rfl (fun _ => (by (repeat' split) <;> first | exact Or.inl rfl | exact Or.inr rfl)) h
-- BootNet$Layout.hasStation(I)Z
def cv_38 (a1 : Int32) (μ : tm_M) : Int32 := ((if a1 < 0 then 0 else ((if (μ 6 0 5) ≤ a1 then 0 else 1) : Int32)) : Int32)
theorem cz_38 {a1 : Int32} {μ : tm_M} : cv_38 a1 μ = 0 ∨ cv_38 a1 μ = 1 := by
  unfold cv_38
  (repeat' split) <;> first | exact Or.inl rfl | exact Or.inr rfl
set_option maxHeartbeats 4000000 in
set_option maxRecDepth 10000 in
theorem tf_38 {a1 : Int32} (h : Q (some (.inl (cv_38 a1 μ))) μ) : xm_MW (tm_I L xs) (d + 1) 38 [.inr (some (6, 0)), .inl a1] μ Q := by
  refine xr_in2 [some (.inr (some (6, 0))), some (.inl a1)] rfl rfl ?_
  unfold cv_38 at h
  suffices hj1 : xr_t (tm_I L xs) (d + 0) 38 17 [some (.inr (some (6, 0))), some (.inl a1)] [.inl ((if a1 < 0 then 0 else ((if (μ 6 0 5) ≤ a1 then 0 else 1) : Int32)) : Int32)] μ Q by
    refine xr_br 2 (c := a1 < 0) inferInstance (a := 16) (b := 4) (ls' := [some (.inr (some (6, 0))), some (.inl a1)]) (st' := []) (s' := μ) rfl (fun c1 => ?_) (fun c1 => ?_)
    · skip
      refine xr_go 1 (pc' := 17) (ls' := [some (.inr (some (6, 0))), some (.inl a1)]) (st' := [.inl 0]) (s' := μ) rfl ?_
      have ehj1 : ((if a1 < 0 then 0 else ((if (μ 6 0 5) ≤ a1 then 0 else 1) : Int32)) : Int32) = 0 := by first | rfl | simp only [if_pos c1]
      rw [ehj1] at hj1
      exact hj1
    · skip
      suffices hj2 : xr_t (tm_I L xs) (d + 0) 38 17 [some (.inr (some (6, 0))), some (.inl a1)] [.inl ((if (μ 6 0 5) ≤ a1 then 0 else 1) : Int32)] μ Q by
        refine xr_br 4 (c := (μ 6 0 5) ≤ a1) inferInstance (a := 16) (b := 12) (ls' := [some (.inr (some (6, 0))), some (.inl a1)]) (st' := []) (s' := μ) rfl (fun c2 => ?_) (fun c2 => ?_)
        · skip
          refine xr_go 1 (pc' := 17) (ls' := [some (.inr (some (6, 0))), some (.inl a1)]) (st' := [.inl 0]) (s' := μ) rfl ?_
          have ehj2 : ((if (μ 6 0 5) ≤ a1 then 0 else 1) : Int32) = 0 := by first | rfl | simp only [if_pos c2]
          rw [ehj2] at hj2
          exact hj2
        · skip
          refine xr_go 2 (pc' := 17) (ls' := [some (.inr (some (6, 0))), some (.inl a1)]) (st' := [.inl 1]) (s' := μ) rfl ?_
          have ehj2 : ((if (μ 6 0 5) ≤ a1 then 0 else 1) : Int32) = 1 := by first | rfl | simp only [if_neg c2]
          rw [ehj2] at hj2
          exact hj2
      have ehj1 : ((if a1 < 0 then 0 else ((if (μ 6 0 5) ≤ a1 then 0 else 1) : Int32)) : Int32) = ((if (μ 6 0 5) ≤ a1 then 0 else 1) : Int32) := by first | rfl | simp only [if_neg c1]
      rw [ehj1] at hj1
      exact hj1
  exact xr_zr rfl (fun _ => (by (repeat' split) <;> first | exact Or.inl rfl | exact Or.inr rfl)) h
-- BootNet$Layout.isReservedForAnother(II)Z
def cv_43 (a1 : Int32) (a2 : Int32) (μ : tm_M) : Int32 := ((if (μ 10 0 ((a1).toNatClampNeg)) = (-1) then 0 else ((if (μ 10 0 ((a1).toNatClampNeg)) = a2 then 0 else 1) : Int32)) : Int32)
def ci_43 (a1 : Int32) (a2 : Int32) (μ : tm_M) : Prop := (tm_ix a1 30 = true)
theorem cz_43 {a1 : Int32} {a2 : Int32} {μ : tm_M} : cv_43 a1 a2 μ = 0 ∨ cv_43 a1 a2 μ = 1 := by
  unfold cv_43
  (repeat' split) <;> first | exact Or.inl rfl | exact Or.inr rfl
set_option maxHeartbeats 4000000 in
set_option maxRecDepth 10000 in
theorem tf_43 {a1 : Int32} {a2 : Int32} (hi : ci_43 a1 a2 μ) (h : Q (some (.inl (cv_43 a1 a2 μ))) μ) : xm_MW (tm_I L xs) (d + 1) 43 [.inr (some (6, 0)), .inl a1, .inl a2] μ Q := by
  refine xr_in2 [some (.inr (some (6, 0))), some (.inl a1), some (.inl a2)] rfl rfl ?_
  unfold cv_43 at h
  unfold ci_43 at hi
  refine xr_go 3 (pc' := 5) (ls' := [some (.inr (some (6, 0))), some (.inl a1), some (.inl a2)]) (st' := [.inl a1, .inr (some (10, 0))]) (s' := μ) rfl ?_
  refine xr_ial (n := 30) rfl rfl (hi) ?_
  suffices hj1 : xr_t (tm_I L xs) (d + 0) 43 25 [some (.inr (some (6, 0))), some (.inl a1), some (.inl a2)] [.inl ((if (μ 10 0 ((a1).toNatClampNeg)) = (-1) then 0 else ((if (μ 10 0 ((a1).toNatClampNeg)) = a2 then 0 else 1) : Int32)) : Int32)] μ Q by
    refine xr_br 2 (c := (μ 10 0 ((a1).toNatClampNeg)) = (-1)) inferInstance (a := 24) (b := 10) (ls' := [some (.inr (some (6, 0))), some (.inl a1), some (.inl a2)]) (st' := []) (s' := μ) rfl (fun c1 => ?_) (fun c1 => ?_)
    · skip
      refine xr_go 1 (pc' := 25) (ls' := [some (.inr (some (6, 0))), some (.inl a1), some (.inl a2)]) (st' := [.inl 0]) (s' := μ) rfl ?_
      have ehj1 : ((if (μ 10 0 ((a1).toNatClampNeg)) = (-1) then 0 else ((if (μ 10 0 ((a1).toNatClampNeg)) = a2 then 0 else 1) : Int32)) : Int32) = 0 := by first | rfl | simp only [if_pos c1]
      rw [ehj1] at hj1
      exact hj1
    · skip
      refine xr_go 3 (pc' := 15) (ls' := [some (.inr (some (6, 0))), some (.inl a1), some (.inl a2)]) (st' := [.inl a1, .inr (some (10, 0))]) (s' := μ) rfl ?_
      refine xr_ial (n := 30) rfl rfl (hi) ?_
      suffices hj2 : xr_t (tm_I L xs) (d + 0) 43 25 [some (.inr (some (6, 0))), some (.inl a1), some (.inl a2)] [.inl ((if (μ 10 0 ((a1).toNatClampNeg)) = a2 then 0 else 1) : Int32)] μ Q by
        refine xr_br 2 (c := (μ 10 0 ((a1).toNatClampNeg)) = a2) inferInstance (a := 24) (b := 20) (ls' := [some (.inr (some (6, 0))), some (.inl a1), some (.inl a2)]) (st' := []) (s' := μ) rfl (fun c2 => ?_) (fun c2 => ?_)
        · skip
          refine xr_go 1 (pc' := 25) (ls' := [some (.inr (some (6, 0))), some (.inl a1), some (.inl a2)]) (st' := [.inl 0]) (s' := μ) rfl ?_
          have ehj2 : ((if (μ 10 0 ((a1).toNatClampNeg)) = a2 then 0 else 1) : Int32) = 0 := by first | rfl | simp only [if_pos c2]
          rw [ehj2] at hj2
          exact hj2
        · skip
          refine xr_go 2 (pc' := 25) (ls' := [some (.inr (some (6, 0))), some (.inl a1), some (.inl a2)]) (st' := [.inl 1]) (s' := μ) rfl ?_
          have ehj2 : ((if (μ 10 0 ((a1).toNatClampNeg)) = a2 then 0 else 1) : Int32) = 1 := by first | rfl | simp only [if_neg c2]
          rw [ehj2] at hj2
          exact hj2
      have ehj1 : ((if (μ 10 0 ((a1).toNatClampNeg)) = (-1) then 0 else ((if (μ 10 0 ((a1).toNatClampNeg)) = a2 then 0 else 1) : Int32)) : Int32) = ((if (μ 10 0 ((a1).toNatClampNeg)) = a2 then 0 else 1) : Int32) := by first | rfl | simp only [if_neg c1]
      rw [ehj1] at hj1
      exact hj1
  exact xr_zr rfl (fun _ => (by (repeat' split) <;> first | exact Or.inl rfl | exact Or.inr rfl)) h
-- BootNet$AddressBook.leaseTo(III)V
def cs_27 (a1 : Int32) (a2 : Int32) (a3 : Int32) (μ : tm_M) : tm_M := (tm_wr (tm_wr μ 23 0 ((a1).toNatClampNeg) a2) 24 0 ((a1).toNatClampNeg) a3)
def ci_27 (a1 : Int32) (a2 : Int32) (a3 : Int32) (μ : tm_M) : Prop := (tm_ix a1 30 = true)
set_option maxHeartbeats 4000000 in
set_option maxRecDepth 10000 in
theorem tf_27 {a1 : Int32} {a2 : Int32} {a3 : Int32} (hi : ci_27 a1 a2 a3 μ) (h : Q none (cs_27 a1 a2 a3 μ)) : xm_MW (tm_I L xs) (d + 1) 27 [.inr (some (22, 0)), .inl a1, .inl a2, .inl a3] μ Q := by
  refine xr_in2 [some (.inr (some (22, 0))), some (.inl a1), some (.inl a2), some (.inl a3)] rfl rfl ?_
  unfold cs_27 at h
  unfold ci_27 at hi
  refine xr_go 4 (pc' := 6) (ls' := [some (.inr (some (22, 0))), some (.inl a1), some (.inl a2), some (.inl a3)]) (st' := [.inl a2, .inl a1, .inr (some (23, 0))]) (s' := μ) rfl ?_
  refine xr_ias (n := 30) rfl rfl (hi) ?_
  refine xr_go 4 (pc' := 13) (ls' := [some (.inr (some (22, 0))), some (.inl a1), some (.inl a2), some (.inl a3)]) (st' := [.inl a3, .inl a1, .inr (some (24, 0))]) (s' := (tm_wr μ 23 0 ((a1).toNatClampNeg) a2)) rfl ?_
  refine xr_ias (n := 30) rfl rfl (hi) ?_
  exact xr_rt (v := none) rfl h
-- BootNet$AddressBook.endOffer(I)V
def cs_29 (a1 : Int32) (μ : tm_M) : tm_M := (tm_wr μ 26 0 ((a1).toNatClampNeg) 0)
def ci_29 (a1 : Int32) (μ : tm_M) : Prop := (tm_ix a1 30 = true)
set_option maxHeartbeats 4000000 in
set_option maxRecDepth 10000 in
theorem tf_29 {a1 : Int32} (hi : ci_29 a1 μ) (h : Q none (cs_29 a1 μ)) : xm_MW (tm_I L xs) (d + 1) 29 [.inr (some (22, 0)), .inl a1] μ Q := by
  refine xr_in2 [some (.inr (some (22, 0))), some (.inl a1)] rfl rfl ?_
  unfold cs_29 at h
  unfold ci_29 at hi
  refine xr_go 4 (pc' := 6) (ls' := [some (.inr (some (22, 0))), some (.inl a1)]) (st' := [.inl 0, .inl a1, .inr (some (26, 0))]) (s' := μ) rfl ?_
  refine xr_ias (n := 30) rfl rfl (hi) ?_
  exact xr_rt (v := none) rfl h
-- BootNet$AddressBook.bar(II)V
def cs_30 (a1 : Int32) (a2 : Int32) (μ : tm_M) : tm_M := (tm_wr μ 27 0 ((a1).toNatClampNeg) a2)
def ci_30 (a1 : Int32) (a2 : Int32) (μ : tm_M) : Prop := (tm_ix a1 30 = true)
set_option maxHeartbeats 4000000 in
set_option maxRecDepth 10000 in
theorem tf_30 {a1 : Int32} {a2 : Int32} (hi : ci_30 a1 a2 μ) (h : Q none (cs_30 a1 a2 μ)) : xm_MW (tm_I L xs) (d + 1) 30 [.inr (some (22, 0)), .inl a1, .inl a2] μ Q := by
  refine xr_in2 [some (.inr (some (22, 0))), some (.inl a1), some (.inl a2)] rfl rfl ?_
  unfold cs_30 at h
  unfold ci_30 at hi
  refine xr_go 4 (pc' := 6) (ls' := [some (.inr (some (22, 0))), some (.inl a1), some (.inl a2)]) (st' := [.inl a2, .inl a1, .inr (some (27, 0))]) (s' := μ) rfl ?_
  refine xr_ias (n := 30) rfl rfl (hi) ?_
  exact xr_rt (v := none) rfl h
-- BootNet$AddressBook.isFree(II)Z
def cv_26 (a1 : Int32) (a2 : Int32) (μ : tm_M) : Int32 := ((if (cv_25 a1 μ) = 0 then ((if (cv_23 a1 μ) = (-1) then ((if (cv_24 a1 μ) = (-1) then ((if (cv_43 a1 a2 μ) = 0 then 1 else 0) : Int32) else ((if (cv_24 a1 μ) = a2 then ((if (cv_43 a1 a2 μ) = 0 then 1 else 0) : Int32) else 0) : Int32)) : Int32) else ((if (cv_23 a1 μ) = a2 then ((if (cv_24 a1 μ) = (-1) then ((if (cv_43 a1 a2 μ) = 0 then 1 else 0) : Int32) else ((if (cv_24 a1 μ) = a2 then ((if (cv_43 a1 a2 μ) = 0 then 1 else 0) : Int32) else 0) : Int32)) : Int32) else 0) : Int32)) : Int32) else 0) : Int32)
def ci_26 (a1 : Int32) (a2 : Int32) (μ : tm_M) : Prop := (ci_23 a1 μ) ∧ (ci_24 a1 μ) ∧ (ci_25 a1 μ) ∧ (((cv_25 a1 μ) = 0) → ((cv_23 a1 μ) = (-1)) → ((cv_24 a1 μ) = (-1)) → ci_43 a1 a2 μ) ∧ (((cv_25 a1 μ) = 0) → ((cv_23 a1 μ) = (-1)) → (¬ ((cv_24 a1 μ) = (-1))) → ((cv_24 a1 μ) = a2) → ci_43 a1 a2 μ) ∧ (((cv_25 a1 μ) = 0) → (¬ ((cv_23 a1 μ) = (-1))) → ((cv_23 a1 μ) = a2) → ((cv_24 a1 μ) = (-1)) → ci_43 a1 a2 μ) ∧ (((cv_25 a1 μ) = 0) → (¬ ((cv_23 a1 μ) = (-1))) → ((cv_23 a1 μ) = a2) → (¬ ((cv_24 a1 μ) = (-1))) → ((cv_24 a1 μ) = a2) → ci_43 a1 a2 μ)
theorem cz_26 {a1 : Int32} {a2 : Int32} {μ : tm_M} : cv_26 a1 a2 μ = 0 ∨ cv_26 a1 a2 μ = 1 := by
  unfold cv_26
  (repeat' split) <;> first | exact Or.inl rfl | exact Or.inr rfl | exact cz_25 | exact cz_43
set_option maxHeartbeats 4000000 in
set_option maxRecDepth 10000 in
theorem tf_26 {a1 : Int32} {a2 : Int32} (hi : ci_26 a1 a2 μ) (h : Q (some (.inl (cv_26 a1 a2 μ))) μ) : xm_MW (tm_I L xs) (d + 2) 26 [.inr (some (22, 0)), .inl a1, .inl a2] μ Q := by
  refine xr_in2 [some (.inr (some (22, 0))), some (.inl a1), some (.inl a2), none, none] rfl rfl ?_
  unfold cv_26 at h
  unfold ci_26 at hi
  refine xr_go 2 (pc' := 2) (ls' := [some (.inr (some (22, 0))), some (.inl a1), some (.inl a2), none, none]) (st' := [.inl a1, .inr (some (22, 0))]) (s' := μ) rfl ?_
  refine xr_cl (y' := 23) (as := [.inr (some (22, 0)), .inl a1]) (r := []) rfl rfl ?_
  refine tf_23 (d := d + 0) (μ := μ) (a1 := a1) (hi.1) ?_
  show xr_t (tm_I L xs) (d + 1) 26 5 [some (.inr (some (22, 0))), some (.inl a1), some (.inl a2), none, none] [.inl (cv_23 a1 μ)] μ Q
  generalize gv1 : (cv_23 a1 μ) = v1 at h hi ⊢
  refine xr_go 3 (pc' := 8) (ls' := [some (.inr (some (22, 0))), some (.inl a1), some (.inl a2), some (.inl v1), none]) (st' := [.inl a1, .inr (some (22, 0))]) (s' := μ) rfl ?_
  refine xr_cl (y' := 24) (as := [.inr (some (22, 0)), .inl a1]) (r := []) rfl rfl ?_
  refine tf_24 (d := d + 0) (μ := μ) (a1 := a1) (hi.2.1) ?_
  show xr_t (tm_I L xs) (d + 1) 26 11 [some (.inr (some (22, 0))), some (.inl a1), some (.inl a2), some (.inl v1), none] [.inl (cv_24 a1 μ)] μ Q
  generalize gv2 : (cv_24 a1 μ) = v2 at h hi ⊢
  refine xr_go 3 (pc' := 15) (ls' := [some (.inr (some (22, 0))), some (.inl a1), some (.inl a2), some (.inl v1), some (.inl v2)]) (st' := [.inl a1, .inr (some (22, 0))]) (s' := μ) rfl ?_
  refine xr_cl (y' := 25) (as := [.inr (some (22, 0)), .inl a1]) (r := []) rfl rfl ?_
  refine tf_25 (d := d + 0) (μ := μ) (a1 := a1) (hi.2.2.1) ?_
  show xr_t (tm_I L xs) (d + 1) 26 18 [some (.inr (some (22, 0))), some (.inl a1), some (.inl a2), some (.inl v1), some (.inl v2)] [.inl (cv_25 a1 μ)] μ Q
  have z3 : (cv_25 a1 μ) = 0 ∨ (cv_25 a1 μ) = 1 := cz_25
  generalize gv3 : (cv_25 a1 μ) = v3 at h hi z3 ⊢
  suffices hj1 : xr_t (tm_I L xs) (d + 1) 26 60 [some (.inr (some (22, 0))), some (.inl a1), some (.inl a2), some (.inl v1), some (.inl v2)] [.inl ((if v3 = 0 then ((if v1 = (-1) then ((if v2 = (-1) then ((if (cv_43 a1 a2 μ) = 0 then 1 else 0) : Int32) else ((if v2 = a2 then ((if (cv_43 a1 a2 μ) = 0 then 1 else 0) : Int32) else 0) : Int32)) : Int32) else ((if v1 = a2 then ((if v2 = (-1) then ((if (cv_43 a1 a2 μ) = 0 then 1 else 0) : Int32) else ((if v2 = a2 then ((if (cv_43 a1 a2 μ) = 0 then 1 else 0) : Int32) else 0) : Int32)) : Int32) else 0) : Int32)) : Int32) else 0) : Int32)] μ Q by
    refine xr_br 1 (c := v3 = 0) inferInstance (a := 21) (b := 59) (ls' := [some (.inr (some (22, 0))), some (.inl a1), some (.inl a2), some (.inl v1), some (.inl v2)]) (st' := []) (s' := μ) rfl (fun c1 => ?_) (fun c1 => ?_)
    · skip
      suffices hj2 : xr_t (tm_I L xs) (d + 1) 26 60 [some (.inr (some (22, 0))), some (.inl a1), some (.inl a2), some (.inl v1), some (.inl v2)] [.inl ((if v1 = (-1) then ((if v2 = (-1) then ((if (cv_43 a1 a2 μ) = 0 then 1 else 0) : Int32) else ((if v2 = a2 then ((if (cv_43 a1 a2 μ) = 0 then 1 else 0) : Int32) else 0) : Int32)) : Int32) else ((if v1 = a2 then ((if v2 = (-1) then ((if (cv_43 a1 a2 μ) = 0 then 1 else 0) : Int32) else ((if v2 = a2 then ((if (cv_43 a1 a2 μ) = 0 then 1 else 0) : Int32) else 0) : Int32)) : Int32) else 0) : Int32)) : Int32)] μ Q by
        refine xr_br 3 (c := v1 = (-1)) inferInstance (a := 31) (b := 26) (ls' := [some (.inr (some (22, 0))), some (.inl a1), some (.inl a2), some (.inl v1), some (.inl v2)]) (st' := []) (s' := μ) rfl (fun c2 => ?_) (fun c2 => ?_)
        · skip
          suffices hj3 : xr_t (tm_I L xs) (d + 1) 26 60 [some (.inr (some (22, 0))), some (.inl a1), some (.inl a2), some (.inl v1), some (.inl v2)] [.inl ((if v2 = (-1) then ((if (cv_43 a1 a2 μ) = 0 then 1 else 0) : Int32) else ((if v2 = a2 then ((if (cv_43 a1 a2 μ) = 0 then 1 else 0) : Int32) else 0) : Int32)) : Int32)] μ Q by
            refine xr_br 3 (c := v2 = (-1)) inferInstance (a := 43) (b := 37) (ls' := [some (.inr (some (22, 0))), some (.inl a1), some (.inl a2), some (.inl v1), some (.inl v2)]) (st' := []) (s' := μ) rfl (fun c3 => ?_) (fun c3 => ?_)
            · skip
              refine xr_go 4 (pc' := 49) (ls' := [some (.inr (some (22, 0))), some (.inl a1), some (.inl a2), some (.inl v1), some (.inl v2)]) (st' := [.inl a2, .inl a1, .inr (some (6, 0))]) (s' := μ) rfl ?_
              refine xr_cl (y' := 43) (as := [.inr (some (6, 0)), .inl a1, .inl a2]) (r := []) rfl rfl ?_
              refine tf_43 (d := d + 0) (μ := μ) (a1 := a1) (a2 := a2) (hi.2.2.2.1 c1 c2 c3) ?_
              show xr_t (tm_I L xs) (d + 1) 26 52 [some (.inr (some (22, 0))), some (.inl a1), some (.inl a2), some (.inl v1), some (.inl v2)] [.inl (cv_43 a1 a2 μ)] μ Q
              suffices hj4 : xr_t (tm_I L xs) (d + 1) 26 60 [some (.inr (some (22, 0))), some (.inl a1), some (.inl a2), some (.inl v1), some (.inl v2)] [.inl ((if (cv_43 a1 a2 μ) = 0 then 1 else 0) : Int32)] μ Q by
                refine xr_br 1 (c := (cv_43 a1 a2 μ) = 0) inferInstance (a := 55) (b := 59) (ls' := [some (.inr (some (22, 0))), some (.inl a1), some (.inl a2), some (.inl v1), some (.inl v2)]) (st' := []) (s' := μ) rfl (fun c4 => ?_) (fun c4 => ?_)
                · skip
                  refine xr_go 2 (pc' := 60) (ls' := [some (.inr (some (22, 0))), some (.inl a1), some (.inl a2), some (.inl v1), some (.inl v2)]) (st' := [.inl 1]) (s' := μ) rfl ?_
                  have ehj4 : ((if (cv_43 a1 a2 μ) = 0 then 1 else 0) : Int32) = 1 := by first | rfl | simp only [if_pos c4]
                  rw [ehj4] at hj4
                  exact hj4
                · skip
                  refine xr_go 1 (pc' := 60) (ls' := [some (.inr (some (22, 0))), some (.inl a1), some (.inl a2), some (.inl v1), some (.inl v2)]) (st' := [.inl 0]) (s' := μ) rfl ?_
                  have ehj4 : ((if (cv_43 a1 a2 μ) = 0 then 1 else 0) : Int32) = 0 := by first | rfl | simp only [if_neg c4]
                  rw [ehj4] at hj4
                  exact hj4
              have ehj3 : ((if v2 = (-1) then ((if (cv_43 a1 a2 μ) = 0 then 1 else 0) : Int32) else ((if v2 = a2 then ((if (cv_43 a1 a2 μ) = 0 then 1 else 0) : Int32) else 0) : Int32)) : Int32) = ((if (cv_43 a1 a2 μ) = 0 then 1 else 0) : Int32) := by first | rfl | simp only [if_pos c3]
              rw [ehj3] at hj3
              exact hj3
            · skip
              suffices hj5 : xr_t (tm_I L xs) (d + 1) 26 60 [some (.inr (some (22, 0))), some (.inl a1), some (.inl a2), some (.inl v1), some (.inl v2)] [.inl ((if v2 = a2 then ((if (cv_43 a1 a2 μ) = 0 then 1 else 0) : Int32) else 0) : Int32)] μ Q by
                refine xr_br 3 (c := v2 = a2) inferInstance (a := 43) (b := 59) (ls' := [some (.inr (some (22, 0))), some (.inl a1), some (.inl a2), some (.inl v1), some (.inl v2)]) (st' := []) (s' := μ) rfl (fun c5 => ?_) (fun c5 => ?_)
                · skip
                  refine xr_go 4 (pc' := 49) (ls' := [some (.inr (some (22, 0))), some (.inl a1), some (.inl a2), some (.inl v1), some (.inl v2)]) (st' := [.inl a2, .inl a1, .inr (some (6, 0))]) (s' := μ) rfl ?_
                  refine xr_cl (y' := 43) (as := [.inr (some (6, 0)), .inl a1, .inl a2]) (r := []) rfl rfl ?_
                  refine tf_43 (d := d + 0) (μ := μ) (a1 := a1) (a2 := a2) (hi.2.2.2.2.1 c1 c2 c3 c5) ?_
                  show xr_t (tm_I L xs) (d + 1) 26 52 [some (.inr (some (22, 0))), some (.inl a1), some (.inl a2), some (.inl v1), some (.inl v2)] [.inl (cv_43 a1 a2 μ)] μ Q
                  suffices hj6 : xr_t (tm_I L xs) (d + 1) 26 60 [some (.inr (some (22, 0))), some (.inl a1), some (.inl a2), some (.inl v1), some (.inl v2)] [.inl ((if (cv_43 a1 a2 μ) = 0 then 1 else 0) : Int32)] μ Q by
                    refine xr_br 1 (c := (cv_43 a1 a2 μ) = 0) inferInstance (a := 55) (b := 59) (ls' := [some (.inr (some (22, 0))), some (.inl a1), some (.inl a2), some (.inl v1), some (.inl v2)]) (st' := []) (s' := μ) rfl (fun c6 => ?_) (fun c6 => ?_)
                    · skip
                      refine xr_go 2 (pc' := 60) (ls' := [some (.inr (some (22, 0))), some (.inl a1), some (.inl a2), some (.inl v1), some (.inl v2)]) (st' := [.inl 1]) (s' := μ) rfl ?_
                      have ehj6 : ((if (cv_43 a1 a2 μ) = 0 then 1 else 0) : Int32) = 1 := by first | rfl | simp only [if_pos c6]
                      rw [ehj6] at hj6
                      exact hj6
                    · skip
                      refine xr_go 1 (pc' := 60) (ls' := [some (.inr (some (22, 0))), some (.inl a1), some (.inl a2), some (.inl v1), some (.inl v2)]) (st' := [.inl 0]) (s' := μ) rfl ?_
                      have ehj6 : ((if (cv_43 a1 a2 μ) = 0 then 1 else 0) : Int32) = 0 := by first | rfl | simp only [if_neg c6]
                      rw [ehj6] at hj6
                      exact hj6
                  have ehj5 : ((if v2 = a2 then ((if (cv_43 a1 a2 μ) = 0 then 1 else 0) : Int32) else 0) : Int32) = ((if (cv_43 a1 a2 μ) = 0 then 1 else 0) : Int32) := by first | rfl | simp only [if_pos c5]
                  rw [ehj5] at hj5
                  exact hj5
                · skip
                  refine xr_go 1 (pc' := 60) (ls' := [some (.inr (some (22, 0))), some (.inl a1), some (.inl a2), some (.inl v1), some (.inl v2)]) (st' := [.inl 0]) (s' := μ) rfl ?_
                  have ehj5 : ((if v2 = a2 then ((if (cv_43 a1 a2 μ) = 0 then 1 else 0) : Int32) else 0) : Int32) = 0 := by first | rfl | simp only [if_neg c5]
                  rw [ehj5] at hj5
                  exact hj5
              have ehj3 : ((if v2 = (-1) then ((if (cv_43 a1 a2 μ) = 0 then 1 else 0) : Int32) else ((if v2 = a2 then ((if (cv_43 a1 a2 μ) = 0 then 1 else 0) : Int32) else 0) : Int32)) : Int32) = ((if v2 = a2 then ((if (cv_43 a1 a2 μ) = 0 then 1 else 0) : Int32) else 0) : Int32) := by first | rfl | simp only [if_neg c3]
              rw [ehj3] at hj3
              exact hj3
          have ehj2 : ((if v1 = (-1) then ((if v2 = (-1) then ((if (cv_43 a1 a2 μ) = 0 then 1 else 0) : Int32) else ((if v2 = a2 then ((if (cv_43 a1 a2 μ) = 0 then 1 else 0) : Int32) else 0) : Int32)) : Int32) else ((if v1 = a2 then ((if v2 = (-1) then ((if (cv_43 a1 a2 μ) = 0 then 1 else 0) : Int32) else ((if v2 = a2 then ((if (cv_43 a1 a2 μ) = 0 then 1 else 0) : Int32) else 0) : Int32)) : Int32) else 0) : Int32)) : Int32) = ((if v2 = (-1) then ((if (cv_43 a1 a2 μ) = 0 then 1 else 0) : Int32) else ((if v2 = a2 then ((if (cv_43 a1 a2 μ) = 0 then 1 else 0) : Int32) else 0) : Int32)) : Int32) := by first | rfl | simp only [if_pos c2]
          rw [ehj2] at hj2
          exact hj2
        · skip
          suffices hj7 : xr_t (tm_I L xs) (d + 1) 26 60 [some (.inr (some (22, 0))), some (.inl a1), some (.inl a2), some (.inl v1), some (.inl v2)] [.inl ((if v1 = a2 then ((if v2 = (-1) then ((if (cv_43 a1 a2 μ) = 0 then 1 else 0) : Int32) else ((if v2 = a2 then ((if (cv_43 a1 a2 μ) = 0 then 1 else 0) : Int32) else 0) : Int32)) : Int32) else 0) : Int32)] μ Q by
            refine xr_br 3 (c := v1 = a2) inferInstance (a := 31) (b := 59) (ls' := [some (.inr (some (22, 0))), some (.inl a1), some (.inl a2), some (.inl v1), some (.inl v2)]) (st' := []) (s' := μ) rfl (fun c7 => ?_) (fun c7 => ?_)
            · skip
              suffices hj8 : xr_t (tm_I L xs) (d + 1) 26 60 [some (.inr (some (22, 0))), some (.inl a1), some (.inl a2), some (.inl v1), some (.inl v2)] [.inl ((if v2 = (-1) then ((if (cv_43 a1 a2 μ) = 0 then 1 else 0) : Int32) else ((if v2 = a2 then ((if (cv_43 a1 a2 μ) = 0 then 1 else 0) : Int32) else 0) : Int32)) : Int32)] μ Q by
                refine xr_br 3 (c := v2 = (-1)) inferInstance (a := 43) (b := 37) (ls' := [some (.inr (some (22, 0))), some (.inl a1), some (.inl a2), some (.inl v1), some (.inl v2)]) (st' := []) (s' := μ) rfl (fun c8 => ?_) (fun c8 => ?_)
                · skip
                  refine xr_go 4 (pc' := 49) (ls' := [some (.inr (some (22, 0))), some (.inl a1), some (.inl a2), some (.inl v1), some (.inl v2)]) (st' := [.inl a2, .inl a1, .inr (some (6, 0))]) (s' := μ) rfl ?_
                  refine xr_cl (y' := 43) (as := [.inr (some (6, 0)), .inl a1, .inl a2]) (r := []) rfl rfl ?_
                  refine tf_43 (d := d + 0) (μ := μ) (a1 := a1) (a2 := a2) (hi.2.2.2.2.2.1 c1 c2 c7 c8) ?_
                  show xr_t (tm_I L xs) (d + 1) 26 52 [some (.inr (some (22, 0))), some (.inl a1), some (.inl a2), some (.inl v1), some (.inl v2)] [.inl (cv_43 a1 a2 μ)] μ Q
                  suffices hj9 : xr_t (tm_I L xs) (d + 1) 26 60 [some (.inr (some (22, 0))), some (.inl a1), some (.inl a2), some (.inl v1), some (.inl v2)] [.inl ((if (cv_43 a1 a2 μ) = 0 then 1 else 0) : Int32)] μ Q by
                    refine xr_br 1 (c := (cv_43 a1 a2 μ) = 0) inferInstance (a := 55) (b := 59) (ls' := [some (.inr (some (22, 0))), some (.inl a1), some (.inl a2), some (.inl v1), some (.inl v2)]) (st' := []) (s' := μ) rfl (fun c9 => ?_) (fun c9 => ?_)
                    · skip
                      refine xr_go 2 (pc' := 60) (ls' := [some (.inr (some (22, 0))), some (.inl a1), some (.inl a2), some (.inl v1), some (.inl v2)]) (st' := [.inl 1]) (s' := μ) rfl ?_
                      have ehj9 : ((if (cv_43 a1 a2 μ) = 0 then 1 else 0) : Int32) = 1 := by first | rfl | simp only [if_pos c9]
                      rw [ehj9] at hj9
                      exact hj9
                    · skip
                      refine xr_go 1 (pc' := 60) (ls' := [some (.inr (some (22, 0))), some (.inl a1), some (.inl a2), some (.inl v1), some (.inl v2)]) (st' := [.inl 0]) (s' := μ) rfl ?_
                      have ehj9 : ((if (cv_43 a1 a2 μ) = 0 then 1 else 0) : Int32) = 0 := by first | rfl | simp only [if_neg c9]
                      rw [ehj9] at hj9
                      exact hj9
                  have ehj8 : ((if v2 = (-1) then ((if (cv_43 a1 a2 μ) = 0 then 1 else 0) : Int32) else ((if v2 = a2 then ((if (cv_43 a1 a2 μ) = 0 then 1 else 0) : Int32) else 0) : Int32)) : Int32) = ((if (cv_43 a1 a2 μ) = 0 then 1 else 0) : Int32) := by first | rfl | simp only [if_pos c8]
                  rw [ehj8] at hj8
                  exact hj8
                · skip
                  suffices hj10 : xr_t (tm_I L xs) (d + 1) 26 60 [some (.inr (some (22, 0))), some (.inl a1), some (.inl a2), some (.inl v1), some (.inl v2)] [.inl ((if v2 = a2 then ((if (cv_43 a1 a2 μ) = 0 then 1 else 0) : Int32) else 0) : Int32)] μ Q by
                    refine xr_br 3 (c := v2 = a2) inferInstance (a := 43) (b := 59) (ls' := [some (.inr (some (22, 0))), some (.inl a1), some (.inl a2), some (.inl v1), some (.inl v2)]) (st' := []) (s' := μ) rfl (fun c10 => ?_) (fun c10 => ?_)
                    · skip
                      refine xr_go 4 (pc' := 49) (ls' := [some (.inr (some (22, 0))), some (.inl a1), some (.inl a2), some (.inl v1), some (.inl v2)]) (st' := [.inl a2, .inl a1, .inr (some (6, 0))]) (s' := μ) rfl ?_
                      refine xr_cl (y' := 43) (as := [.inr (some (6, 0)), .inl a1, .inl a2]) (r := []) rfl rfl ?_
                      refine tf_43 (d := d + 0) (μ := μ) (a1 := a1) (a2 := a2) (hi.2.2.2.2.2.2 c1 c2 c7 c8 c10) ?_
                      show xr_t (tm_I L xs) (d + 1) 26 52 [some (.inr (some (22, 0))), some (.inl a1), some (.inl a2), some (.inl v1), some (.inl v2)] [.inl (cv_43 a1 a2 μ)] μ Q
                      suffices hj11 : xr_t (tm_I L xs) (d + 1) 26 60 [some (.inr (some (22, 0))), some (.inl a1), some (.inl a2), some (.inl v1), some (.inl v2)] [.inl ((if (cv_43 a1 a2 μ) = 0 then 1 else 0) : Int32)] μ Q by
                        refine xr_br 1 (c := (cv_43 a1 a2 μ) = 0) inferInstance (a := 55) (b := 59) (ls' := [some (.inr (some (22, 0))), some (.inl a1), some (.inl a2), some (.inl v1), some (.inl v2)]) (st' := []) (s' := μ) rfl (fun c11 => ?_) (fun c11 => ?_)
                        · skip
                          refine xr_go 2 (pc' := 60) (ls' := [some (.inr (some (22, 0))), some (.inl a1), some (.inl a2), some (.inl v1), some (.inl v2)]) (st' := [.inl 1]) (s' := μ) rfl ?_
                          have ehj11 : ((if (cv_43 a1 a2 μ) = 0 then 1 else 0) : Int32) = 1 := by first | rfl | simp only [if_pos c11]
                          rw [ehj11] at hj11
                          exact hj11
                        · skip
                          refine xr_go 1 (pc' := 60) (ls' := [some (.inr (some (22, 0))), some (.inl a1), some (.inl a2), some (.inl v1), some (.inl v2)]) (st' := [.inl 0]) (s' := μ) rfl ?_
                          have ehj11 : ((if (cv_43 a1 a2 μ) = 0 then 1 else 0) : Int32) = 0 := by first | rfl | simp only [if_neg c11]
                          rw [ehj11] at hj11
                          exact hj11
                      have ehj10 : ((if v2 = a2 then ((if (cv_43 a1 a2 μ) = 0 then 1 else 0) : Int32) else 0) : Int32) = ((if (cv_43 a1 a2 μ) = 0 then 1 else 0) : Int32) := by first | rfl | simp only [if_pos c10]
                      rw [ehj10] at hj10
                      exact hj10
                    · skip
                      refine xr_go 1 (pc' := 60) (ls' := [some (.inr (some (22, 0))), some (.inl a1), some (.inl a2), some (.inl v1), some (.inl v2)]) (st' := [.inl 0]) (s' := μ) rfl ?_
                      have ehj10 : ((if v2 = a2 then ((if (cv_43 a1 a2 μ) = 0 then 1 else 0) : Int32) else 0) : Int32) = 0 := by first | rfl | simp only [if_neg c10]
                      rw [ehj10] at hj10
                      exact hj10
                  have ehj8 : ((if v2 = (-1) then ((if (cv_43 a1 a2 μ) = 0 then 1 else 0) : Int32) else ((if v2 = a2 then ((if (cv_43 a1 a2 μ) = 0 then 1 else 0) : Int32) else 0) : Int32)) : Int32) = ((if v2 = a2 then ((if (cv_43 a1 a2 μ) = 0 then 1 else 0) : Int32) else 0) : Int32) := by first | rfl | simp only [if_neg c8]
                  rw [ehj8] at hj8
                  exact hj8
              have ehj7 : ((if v1 = a2 then ((if v2 = (-1) then ((if (cv_43 a1 a2 μ) = 0 then 1 else 0) : Int32) else ((if v2 = a2 then ((if (cv_43 a1 a2 μ) = 0 then 1 else 0) : Int32) else 0) : Int32)) : Int32) else 0) : Int32) = ((if v2 = (-1) then ((if (cv_43 a1 a2 μ) = 0 then 1 else 0) : Int32) else ((if v2 = a2 then ((if (cv_43 a1 a2 μ) = 0 then 1 else 0) : Int32) else 0) : Int32)) : Int32) := by first | rfl | simp only [if_pos c7]
              rw [ehj7] at hj7
              exact hj7
            · skip
              refine xr_go 1 (pc' := 60) (ls' := [some (.inr (some (22, 0))), some (.inl a1), some (.inl a2), some (.inl v1), some (.inl v2)]) (st' := [.inl 0]) (s' := μ) rfl ?_
              have ehj7 : ((if v1 = a2 then ((if v2 = (-1) then ((if (cv_43 a1 a2 μ) = 0 then 1 else 0) : Int32) else ((if v2 = a2 then ((if (cv_43 a1 a2 μ) = 0 then 1 else 0) : Int32) else 0) : Int32)) : Int32) else 0) : Int32) = 0 := by first | rfl | simp only [if_neg c7]
              rw [ehj7] at hj7
              exact hj7
          have ehj2 : ((if v1 = (-1) then ((if v2 = (-1) then ((if (cv_43 a1 a2 μ) = 0 then 1 else 0) : Int32) else ((if v2 = a2 then ((if (cv_43 a1 a2 μ) = 0 then 1 else 0) : Int32) else 0) : Int32)) : Int32) else ((if v1 = a2 then ((if v2 = (-1) then ((if (cv_43 a1 a2 μ) = 0 then 1 else 0) : Int32) else ((if v2 = a2 then ((if (cv_43 a1 a2 μ) = 0 then 1 else 0) : Int32) else 0) : Int32)) : Int32) else 0) : Int32)) : Int32) = ((if v1 = a2 then ((if v2 = (-1) then ((if (cv_43 a1 a2 μ) = 0 then 1 else 0) : Int32) else ((if v2 = a2 then ((if (cv_43 a1 a2 μ) = 0 then 1 else 0) : Int32) else 0) : Int32)) : Int32) else 0) : Int32) := by first | rfl | simp only [if_neg c2]
          rw [ehj2] at hj2
          exact hj2
      have ehj1 : ((if v3 = 0 then ((if v1 = (-1) then ((if v2 = (-1) then ((if (cv_43 a1 a2 μ) = 0 then 1 else 0) : Int32) else ((if v2 = a2 then ((if (cv_43 a1 a2 μ) = 0 then 1 else 0) : Int32) else 0) : Int32)) : Int32) else ((if v1 = a2 then ((if v2 = (-1) then ((if (cv_43 a1 a2 μ) = 0 then 1 else 0) : Int32) else ((if v2 = a2 then ((if (cv_43 a1 a2 μ) = 0 then 1 else 0) : Int32) else 0) : Int32)) : Int32) else 0) : Int32)) : Int32) else 0) : Int32) = ((if v1 = (-1) then ((if v2 = (-1) then ((if (cv_43 a1 a2 μ) = 0 then 1 else 0) : Int32) else ((if v2 = a2 then ((if (cv_43 a1 a2 μ) = 0 then 1 else 0) : Int32) else 0) : Int32)) : Int32) else ((if v1 = a2 then ((if v2 = (-1) then ((if (cv_43 a1 a2 μ) = 0 then 1 else 0) : Int32) else ((if v2 = a2 then ((if (cv_43 a1 a2 μ) = 0 then 1 else 0) : Int32) else 0) : Int32)) : Int32) else 0) : Int32)) : Int32) := by first | rfl | simp only [if_pos c1]
      rw [ehj1] at hj1
      exact hj1
    · skip
      refine xr_go 1 (pc' := 60) (ls' := [some (.inr (some (22, 0))), some (.inl a1), some (.inl a2), some (.inl v1), some (.inl v2)]) (st' := [.inl 0]) (s' := μ) rfl ?_
      have ehj1 : ((if v3 = 0 then ((if v1 = (-1) then ((if v2 = (-1) then ((if (cv_43 a1 a2 μ) = 0 then 1 else 0) : Int32) else ((if v2 = a2 then ((if (cv_43 a1 a2 μ) = 0 then 1 else 0) : Int32) else 0) : Int32)) : Int32) else ((if v1 = a2 then ((if v2 = (-1) then ((if (cv_43 a1 a2 μ) = 0 then 1 else 0) : Int32) else ((if v2 = a2 then ((if (cv_43 a1 a2 μ) = 0 then 1 else 0) : Int32) else 0) : Int32)) : Int32) else 0) : Int32)) : Int32) else 0) : Int32) = 0 := by first | rfl | simp only [if_neg c1]
      rw [ehj1] at hj1
      exact hj1
  exact xr_zr rfl (fun _ => (by (repeat' split) <;> first | exact Or.inl rfl | exact Or.inr rfl)) h
-- BootNet$Layout.setPool(III)Z
def cv_39 (a1 : Int32) (a2 : Int32) (a3 : Int32) (μ : tm_M) : Int32 := (if ((cv_37 a1 μ) = 0) ∨ (¬ ((μ 7 0 ((a1).toNatClampNeg)) = 0)) then 0 else (if (a2 < 1) ∨ ((a3 < a2) ∨ (¬ (a3 ≤ 9))) then 0 else 1))
def cs_39 (a1 : Int32) (a2 : Int32) (a3 : Int32) (μ : tm_M) : tm_M := (if ((cv_37 a1 μ) = 0) ∨ (¬ ((μ 7 0 ((a1).toNatClampNeg)) = 0)) then μ else (if (a2 < 1) ∨ ((a3 < a2) ∨ (¬ (a3 ≤ 9))) then μ else (tm_wr (tm_wr μ 7 0 ((a1).toNatClampNeg) a2) 8 0 ((a1).toNatClampNeg) a3)))
def ci_39 (a1 : Int32) (a2 : Int32) (a3 : Int32) (μ : tm_M) : Prop := ((¬ ((cv_37 a1 μ) = 0)) → tm_ix a1 3 = true) ∧ ((¬ (((cv_37 a1 μ) = 0) ∨ (¬ ((μ 7 0 ((a1).toNatClampNeg)) = 0)))) → (¬ ((a2 < 1) ∨ ((a3 < a2) ∨ (¬ (a3 ≤ 9))))) → tm_ix a1 3 = true)
theorem cz_39 {a1 : Int32} {a2 : Int32} {a3 : Int32} {μ : tm_M} : cv_39 a1 a2 a3 μ = 0 ∨ cv_39 a1 a2 a3 μ = 1 := by
  unfold cv_39
  (repeat' split) <;> first | exact Or.inl rfl | exact Or.inr rfl | exact cz_37
set_option maxHeartbeats 4000000 in
set_option maxRecDepth 10000 in
theorem tf_39 {a1 : Int32} {a2 : Int32} {a3 : Int32} (hi : ci_39 a1 a2 a3 μ) (h : Q (some (.inl (cv_39 a1 a2 a3 μ))) (cs_39 a1 a2 a3 μ)) : xm_MW (tm_I L xs) (d + 2) 39 [.inr (some (6, 0)), .inl a1, .inl a2, .inl a3] μ Q := by
  refine xr_in2 [some (.inr (some (6, 0))), some (.inl a1), some (.inl a2), some (.inl a3)] rfl rfl ?_
  unfold cv_39 cs_39 at h
  unfold ci_39 at hi
  refine xr_go 1 (pc' := 1) (ls' := [some (.inr (some (6, 0))), some (.inl a1), some (.inl a2), some (.inl a3)]) (st' := [.inl a1]) (s' := μ) rfl ?_
  refine xr_cl (y' := 37) (as := [.inl a1]) (r := []) rfl rfl ?_
  refine tf_37 (d := d + 0) (μ := μ) (a1 := a1) ?_
  show xr_t (tm_I L xs) (d + 1) 39 4 [some (.inr (some (6, 0))), some (.inl a1), some (.inl a2), some (.inl a3)] [.inl (cv_37 a1 μ)] μ Q
  have z1 : (cv_37 a1 μ) = 0 ∨ (cv_37 a1 μ) = 1 := cz_37
  generalize gv1 : (cv_37 a1 μ) = v1 at h hi z1 ⊢
  suffices hE1 : (((v1 = 0) ∨ (¬ ((μ 7 0 ((a1).toNatClampNeg)) = 0))) → xr_t (tm_I L xs) (d + 1) 39 16 [some (.inr (some (6, 0))), some (.inl a1), some (.inl a2), some (.inl a3)] [] μ Q) ∧ (¬ ((v1 = 0) ∨ (¬ ((μ 7 0 ((a1).toNatClampNeg)) = 0))) → xr_t (tm_I L xs) (d + 1) 39 18 [some (.inr (some (6, 0))), some (.inl a1), some (.inl a2), some (.inl a3)] [] μ Q) by
    refine xr_br 1 (c := v1 = 0) inferInstance (a := 16) (b := 7) (ls' := [some (.inr (some (6, 0))), some (.inl a1), some (.inl a2), some (.inl a3)]) (st' := []) (s' := μ) rfl (fun c1 => ?_) (fun c1 => ?_)
    · skip
      exact hE1.1 (Or.inl c1)
    · skip
      refine xr_go 3 (pc' := 12) (ls' := [some (.inr (some (6, 0))), some (.inl a1), some (.inl a2), some (.inl a3)]) (st' := [.inl a1, .inr (some (7, 0))]) (s' := μ) rfl ?_
      refine xr_ial (n := 3) rfl rfl (hi.1 c1) ?_
      refine xr_br 1 (c := (μ 7 0 ((a1).toNatClampNeg)) = 0) inferInstance (a := 18) (b := 16) (ls' := [some (.inr (some (6, 0))), some (.inl a1), some (.inl a2), some (.inl a3)]) (st' := []) (s' := μ) rfl (fun c2 => ?_) (fun c2 => ?_)
      · skip
        exact hE1.2 (fun z => z.elim c1 (fun z => z c2))
      · skip
        exact hE1.1 (Or.inr c2)
  refine ⟨fun c3 => ?_, fun c3 => ?_⟩
  · skip
    refine xr_go 1 (pc' := 17) (ls' := [some (.inr (some (6, 0))), some (.inl a1), some (.inl a2), some (.inl a3)]) (st' := [.inl 0]) (s' := μ) rfl ?_
    try simp only [if_pos c3] at h
    exact xr_rt (v := some (.inl 0)) rfl h
  · skip
    suffices hE4 : (((a2 < 1) ∨ ((a3 < a2) ∨ (¬ (a3 ≤ 9)))) → xr_t (tm_I L xs) (d + 1) 39 34 [some (.inr (some (6, 0))), some (.inl a1), some (.inl a2), some (.inl a3)] [] μ Q) ∧ (¬ ((a2 < 1) ∨ ((a3 < a2) ∨ (¬ (a3 ≤ 9)))) → xr_t (tm_I L xs) (d + 1) 39 36 [some (.inr (some (6, 0))), some (.inl a1), some (.inl a2), some (.inl a3)] [] μ Q) by
      refine xr_br 3 (c := a2 < 1) inferInstance (a := 34) (b := 23) (ls' := [some (.inr (some (6, 0))), some (.inl a1), some (.inl a2), some (.inl a3)]) (st' := []) (s' := μ) rfl (fun c4 => ?_) (fun c4 => ?_)
      · skip
        exact hE4.1 (Or.inl c4)
      · skip
        refine xr_br 3 (c := a3 < a2) inferInstance (a := 34) (b := 28) (ls' := [some (.inr (some (6, 0))), some (.inl a1), some (.inl a2), some (.inl a3)]) (st' := []) (s' := μ) rfl (fun c5 => ?_) (fun c5 => ?_)
        · skip
          exact hE4.1 (Or.inr (Or.inl c5))
        · skip
          refine xr_br 3 (c := a3 ≤ 9) inferInstance (a := 36) (b := 34) (ls' := [some (.inr (some (6, 0))), some (.inl a1), some (.inl a2), some (.inl a3)]) (st' := []) (s' := μ) rfl (fun c6 => ?_) (fun c6 => ?_)
          · skip
            exact hE4.2 (fun z => z.elim c4 (fun z => z.elim c5 (fun z => z c6)))
          · skip
            exact hE4.1 (Or.inr (Or.inr c6))
    refine ⟨fun c7 => ?_, fun c7 => ?_⟩
    · skip
      refine xr_go 1 (pc' := 35) (ls' := [some (.inr (some (6, 0))), some (.inl a1), some (.inl a2), some (.inl a3)]) (st' := [.inl 0]) (s' := μ) rfl ?_
      try simp only [if_neg c3, if_pos c7] at h
      exact xr_rt (v := some (.inl 0)) rfl h
    · skip
      refine xr_go 4 (pc' := 42) (ls' := [some (.inr (some (6, 0))), some (.inl a1), some (.inl a2), some (.inl a3)]) (st' := [.inl a2, .inl a1, .inr (some (7, 0))]) (s' := μ) rfl ?_
      refine xr_ias (n := 3) rfl rfl (hi.2 c3 c7) ?_
      refine xr_go 4 (pc' := 49) (ls' := [some (.inr (some (6, 0))), some (.inl a1), some (.inl a2), some (.inl a3)]) (st' := [.inl a3, .inl a1, .inr (some (8, 0))]) (s' := (tm_wr μ 7 0 ((a1).toNatClampNeg) a2)) rfl ?_
      refine xr_ias (n := 3) rfl rfl (hi.2 c3 c7) ?_
      refine xr_go 1 (pc' := 51) (ls' := [some (.inr (some (6, 0))), some (.inl a1), some (.inl a2), some (.inl a3)]) (st' := [.inl 1]) (s' := (tm_wr (tm_wr μ 7 0 ((a1).toNatClampNeg) a2) 8 0 ((a1).toNatClampNeg) a3)) rfl ?_
      try simp only [if_neg c3, if_neg c7] at h
      exact xr_rt (v := some (.inl 1)) rfl h
-- BootNet$Layout.addStation(I)I
def cv_40 (a1 : Int32) (μ : tm_M) : Int32 := (if ((cv_37 a1 μ) = 0) ∨ (¬ ((μ 6 0 5) < 6)) then (-1) else (((μ 6 0 5) + 1) - 1))
def cs_40 (a1 : Int32) (μ : tm_M) : tm_M := (if ((cv_37 a1 μ) = 0) ∨ (¬ ((μ 6 0 5) < 6)) then μ else (tm_wr (tm_wr μ 9 0 (((μ 6 0 5) : Int32).toNatClampNeg) a1) 6 0 5 ((μ 6 0 5) + 1)))
def ci_40 (a1 : Int32) (μ : tm_M) : Prop := ((¬ (((cv_37 a1 μ) = 0) ∨ (¬ ((μ 6 0 5) < 6)))) → tm_ix (μ 6 0 5) 6 = true)
set_option maxHeartbeats 4000000 in
set_option maxRecDepth 10000 in
theorem tf_40 {a1 : Int32} (hi : ci_40 a1 μ) (h : Q (some (.inl (cv_40 a1 μ))) (cs_40 a1 μ)) : xm_MW (tm_I L xs) (d + 2) 40 [.inr (some (6, 0)), .inl a1] μ Q := by
  refine xr_in2 [some (.inr (some (6, 0))), some (.inl a1)] rfl rfl ?_
  unfold cv_40 cs_40 at h
  unfold ci_40 at hi
  refine xr_go 1 (pc' := 1) (ls' := [some (.inr (some (6, 0))), some (.inl a1)]) (st' := [.inl a1]) (s' := μ) rfl ?_
  refine xr_cl (y' := 37) (as := [.inl a1]) (r := []) rfl rfl ?_
  refine tf_37 (d := d + 0) (μ := μ) (a1 := a1) ?_
  show xr_t (tm_I L xs) (d + 1) 40 4 [some (.inr (some (6, 0))), some (.inl a1)] [.inl (cv_37 a1 μ)] μ Q
  have z1 : (cv_37 a1 μ) = 0 ∨ (cv_37 a1 μ) = 1 := cz_37
  generalize gv1 : (cv_37 a1 μ) = v1 at h hi z1 ⊢
  suffices hE1 : (((v1 = 0) ∨ (¬ ((μ 6 0 5) < 6))) → xr_t (tm_I L xs) (d + 1) 40 16 [some (.inr (some (6, 0))), some (.inl a1)] [] μ Q) ∧ (¬ ((v1 = 0) ∨ (¬ ((μ 6 0 5) < 6))) → xr_t (tm_I L xs) (d + 1) 40 18 [some (.inr (some (6, 0))), some (.inl a1)] [] μ Q) by
    refine xr_br 1 (c := v1 = 0) inferInstance (a := 16) (b := 7) (ls' := [some (.inr (some (6, 0))), some (.inl a1)]) (st' := []) (s' := μ) rfl (fun c1 => ?_) (fun c1 => ?_)
    · skip
      exact hE1.1 (Or.inl c1)
    · skip
      refine xr_br 4 (c := (μ 6 0 5) < 6) inferInstance (a := 18) (b := 16) (ls' := [some (.inr (some (6, 0))), some (.inl a1)]) (st' := []) (s' := μ) rfl (fun c2 => ?_) (fun c2 => ?_)
      · skip
        exact hE1.2 (fun z => z.elim c1 (fun z => z c2))
      · skip
        exact hE1.1 (Or.inr c2)
  refine ⟨fun c3 => ?_, fun c3 => ?_⟩
  · skip
    refine xr_go 1 (pc' := 17) (ls' := [some (.inr (some (6, 0))), some (.inl a1)]) (st' := [.inl (-1)]) (s' := μ) rfl ?_
    try simp only [if_pos c3] at h
    exact xr_rt (v := some (.inl (-1))) rfl h
  · skip
    refine xr_go 5 (pc' := 27) (ls' := [some (.inr (some (6, 0))), some (.inl a1)]) (st' := [.inl a1, .inl (μ 6 0 5), .inr (some (9, 0))]) (s' := μ) rfl ?_
    refine xr_ias (n := 6) rfl rfl (hi c3) ?_
    refine xr_go 10 (pc' := 44) (ls' := [some (.inr (some (6, 0))), some (.inl a1)]) (st' := [.inl (((μ 6 0 5) + 1) - 1)]) (s' := (tm_wr (tm_wr μ 9 0 (((μ 6 0 5) : Int32).toNatClampNeg) a1) 6 0 5 ((μ 6 0 5) + 1))) rfl ?_
    try simp only [if_neg c3] at h
    exact xr_rt (v := some (.inl (((μ 6 0 5) + 1) - 1))) rfl h
-- BootNet$Layout.setTaken(IZ)Z
def cv_44 (a1 : Int32) (a2 : Int32) (μ : tm_M) : Int32 := (if ((cv_36 a1 μ) = 0) ∨ ((μ 11 0 ((a1).toNatClampNeg)) = a2) then 0 else 1)
def cs_44 (a1 : Int32) (a2 : Int32) (μ : tm_M) : tm_M := (if ((cv_36 a1 μ) = 0) ∨ ((μ 11 0 ((a1).toNatClampNeg)) = a2) then μ else (tm_wr μ 11 0 ((a1).toNatClampNeg) (vp_nar .boolean a2)))
def ci_44 (a1 : Int32) (a2 : Int32) (μ : tm_M) : Prop := ((¬ ((cv_36 a1 μ) = 0)) → tm_ix a1 30 = true) ∧ ((¬ (((cv_36 a1 μ) = 0) ∨ ((μ 11 0 ((a1).toNatClampNeg)) = a2))) → tm_ix a1 30 = true)
theorem cz_44 {a1 : Int32} {a2 : Int32} {μ : tm_M} : cv_44 a1 a2 μ = 0 ∨ cv_44 a1 a2 μ = 1 := by
  unfold cv_44
  (repeat' split) <;> first | exact Or.inl rfl | exact Or.inr rfl | exact cz_36
set_option maxHeartbeats 4000000 in
set_option maxRecDepth 10000 in
theorem tf_44 {a1 : Int32} {a2 : Int32} (hi : ci_44 a1 a2 μ) (h : Q (some (.inl (cv_44 a1 a2 μ))) (cs_44 a1 a2 μ)) : xm_MW (tm_I L xs) (d + 2) 44 [.inr (some (6, 0)), .inl a1, .inl a2] μ Q := by
  refine xr_in2 [some (.inr (some (6, 0))), some (.inl a1), some (.inl a2)] rfl rfl ?_
  unfold cv_44 cs_44 at h
  unfold ci_44 at hi
  refine xr_go 1 (pc' := 1) (ls' := [some (.inr (some (6, 0))), some (.inl a1), some (.inl a2)]) (st' := [.inl a1]) (s' := μ) rfl ?_
  refine xr_cl (y' := 36) (as := [.inl a1]) (r := []) rfl rfl ?_
  refine tf_36 (d := d + 0) (μ := μ) (a1 := a1) ?_
  show xr_t (tm_I L xs) (d + 1) 44 4 [some (.inr (some (6, 0))), some (.inl a1), some (.inl a2)] [.inl (cv_36 a1 μ)] μ Q
  have z1 : (cv_36 a1 μ) = 0 ∨ (cv_36 a1 μ) = 1 := cz_36
  generalize gv1 : (cv_36 a1 μ) = v1 at h hi z1 ⊢
  suffices hE1 : (((v1 = 0) ∨ ((μ 11 0 ((a1).toNatClampNeg)) = a2)) → xr_t (tm_I L xs) (d + 1) 44 17 [some (.inr (some (6, 0))), some (.inl a1), some (.inl a2)] [] μ Q) ∧ (¬ ((v1 = 0) ∨ ((μ 11 0 ((a1).toNatClampNeg)) = a2)) → xr_t (tm_I L xs) (d + 1) 44 19 [some (.inr (some (6, 0))), some (.inl a1), some (.inl a2)] [] μ Q) by
    refine xr_br 1 (c := v1 = 0) inferInstance (a := 17) (b := 7) (ls' := [some (.inr (some (6, 0))), some (.inl a1), some (.inl a2)]) (st' := []) (s' := μ) rfl (fun c1 => ?_) (fun c1 => ?_)
    · skip
      exact hE1.1 (Or.inl c1)
    · skip
      refine xr_go 3 (pc' := 12) (ls' := [some (.inr (some (6, 0))), some (.inl a1), some (.inl a2)]) (st' := [.inl a1, .inr (some (11, 0))]) (s' := μ) rfl ?_
      refine xr_bal (n := 30) rfl rfl (hi.1 c1) ?_
      refine xr_br 2 (c := (μ 11 0 ((a1).toNatClampNeg)) = a2) inferInstance (a := 17) (b := 19) (ls' := [some (.inr (some (6, 0))), some (.inl a1), some (.inl a2)]) (st' := []) (s' := μ) rfl (fun c2 => ?_) (fun c2 => ?_)
      · skip
        exact hE1.1 (Or.inr c2)
      · skip
        exact hE1.2 (fun z => z.elim c1 c2)
  refine ⟨fun c3 => ?_, fun c3 => ?_⟩
  · skip
    refine xr_go 1 (pc' := 18) (ls' := [some (.inr (some (6, 0))), some (.inl a1), some (.inl a2)]) (st' := [.inl 0]) (s' := μ) rfl ?_
    try simp only [if_pos c3] at h
    exact xr_rt (v := some (.inl 0)) rfl h
  · skip
    refine xr_go 4 (pc' := 25) (ls' := [some (.inr (some (6, 0))), some (.inl a1), some (.inl a2)]) (st' := [.inl a2, .inl a1, .inr (some (11, 0))]) (s' := μ) rfl ?_
    refine xr_bas (n := 30) rfl rfl (hi.2 c3) ?_
    refine xr_go 1 (pc' := 27) (ls' := [some (.inr (some (6, 0))), some (.inl a1), some (.inl a2)]) (st' := [.inl 1]) (s' := (tm_wr μ 11 0 ((a1).toNatClampNeg) (vp_nar .boolean a2))) rfl ?_
    try simp only [if_neg c3] at h
    exact xr_rt (v := some (.inl 1)) rfl h
-- BootNet$Layout.isTaken(I)Z
def cv_45 (a1 : Int32) (μ : tm_M) : Int32 := ((if (cv_36 a1 μ) = 0 then 0 else ((if (μ 11 0 ((a1).toNatClampNeg)) = 0 then 0 else 1) : Int32)) : Int32)
def ci_45 (a1 : Int32) (μ : tm_M) : Prop := ((¬ ((cv_36 a1 μ) = 0)) → tm_ix a1 30 = true)
theorem cz_45 {a1 : Int32} {μ : tm_M} : cv_45 a1 μ = 0 ∨ cv_45 a1 μ = 1 := by
  unfold cv_45
  (repeat' split) <;> first | exact Or.inl rfl | exact Or.inr rfl | exact cz_36
set_option maxHeartbeats 4000000 in
set_option maxRecDepth 10000 in
theorem tf_45 {a1 : Int32} (hi : ci_45 a1 μ) (h : Q (some (.inl (cv_45 a1 μ))) μ) : xm_MW (tm_I L xs) (d + 2) 45 [.inr (some (6, 0)), .inl a1] μ Q := by
  refine xr_in2 [some (.inr (some (6, 0))), some (.inl a1)] rfl rfl ?_
  unfold cv_45 at h
  unfold ci_45 at hi
  refine xr_go 1 (pc' := 1) (ls' := [some (.inr (some (6, 0))), some (.inl a1)]) (st' := [.inl a1]) (s' := μ) rfl ?_
  refine xr_cl (y' := 36) (as := [.inl a1]) (r := []) rfl rfl ?_
  refine tf_36 (d := d + 0) (μ := μ) (a1 := a1) ?_
  show xr_t (tm_I L xs) (d + 1) 45 4 [some (.inr (some (6, 0))), some (.inl a1)] [.inl (cv_36 a1 μ)] μ Q
  have z1 : (cv_36 a1 μ) = 0 ∨ (cv_36 a1 μ) = 1 := cz_36
  generalize gv1 : (cv_36 a1 μ) = v1 at h hi z1 ⊢
  suffices hj1 : xr_t (tm_I L xs) (d + 1) 45 21 [some (.inr (some (6, 0))), some (.inl a1)] [.inl ((if v1 = 0 then 0 else ((if (μ 11 0 ((a1).toNatClampNeg)) = 0 then 0 else 1) : Int32)) : Int32)] μ Q by
    refine xr_br 1 (c := v1 = 0) inferInstance (a := 20) (b := 7) (ls' := [some (.inr (some (6, 0))), some (.inl a1)]) (st' := []) (s' := μ) rfl (fun c1 => ?_) (fun c1 => ?_)
    · skip
      refine xr_go 1 (pc' := 21) (ls' := [some (.inr (some (6, 0))), some (.inl a1)]) (st' := [.inl 0]) (s' := μ) rfl ?_
      have ehj1 : ((if v1 = 0 then 0 else ((if (μ 11 0 ((a1).toNatClampNeg)) = 0 then 0 else 1) : Int32)) : Int32) = 0 := by first | rfl | simp only [if_pos c1]
      rw [ehj1] at hj1
      exact hj1
    · skip
      refine xr_go 3 (pc' := 12) (ls' := [some (.inr (some (6, 0))), some (.inl a1)]) (st' := [.inl a1, .inr (some (11, 0))]) (s' := μ) rfl ?_
      refine xr_bal (n := 30) rfl rfl (hi c1) ?_
      suffices hj2 : xr_t (tm_I L xs) (d + 1) 45 21 [some (.inr (some (6, 0))), some (.inl a1)] [.inl ((if (μ 11 0 ((a1).toNatClampNeg)) = 0 then 0 else 1) : Int32)] μ Q by
        refine xr_br 1 (c := (μ 11 0 ((a1).toNatClampNeg)) = 0) inferInstance (a := 20) (b := 16) (ls' := [some (.inr (some (6, 0))), some (.inl a1)]) (st' := []) (s' := μ) rfl (fun c2 => ?_) (fun c2 => ?_)
        · skip
          refine xr_go 1 (pc' := 21) (ls' := [some (.inr (some (6, 0))), some (.inl a1)]) (st' := [.inl 0]) (s' := μ) rfl ?_
          have ehj2 : ((if (μ 11 0 ((a1).toNatClampNeg)) = 0 then 0 else 1) : Int32) = 0 := by first | rfl | simp only [if_pos c2]
          rw [ehj2] at hj2
          exact hj2
        · skip
          refine xr_go 2 (pc' := 21) (ls' := [some (.inr (some (6, 0))), some (.inl a1)]) (st' := [.inl 1]) (s' := μ) rfl ?_
          have ehj2 : ((if (μ 11 0 ((a1).toNatClampNeg)) = 0 then 0 else 1) : Int32) = 1 := by first | rfl | simp only [if_neg c2]
          rw [ehj2] at hj2
          exact hj2
      have ehj1 : ((if v1 = 0 then 0 else ((if (μ 11 0 ((a1).toNatClampNeg)) = 0 then 0 else 1) : Int32)) : Int32) = ((if (μ 11 0 ((a1).toNatClampNeg)) = 0 then 0 else 1) : Int32) := by first | rfl | simp only [if_neg c1]
      rw [ehj1] at hj1
      exact hj1
  exact xr_zr rfl (fun _ => (by (repeat' split) <;> first | exact Or.inl rfl | exact Or.inr rfl)) h
-- BootNet$Layout.isBehindRelay(I)Z
def cv_46 (a1 : Int32) (μ : tm_M) : Int32 := ((if (μ 9 0 ((a1).toNatClampNeg)) = 0 then 0 else 1) : Int32)
def ci_46 (a1 : Int32) (μ : tm_M) : Prop := (tm_ix a1 6 = true)
theorem cz_46 {a1 : Int32} {μ : tm_M} : cv_46 a1 μ = 0 ∨ cv_46 a1 μ = 1 := by
  unfold cv_46
  (repeat' split) <;> first | exact Or.inl rfl | exact Or.inr rfl
set_option maxHeartbeats 4000000 in
set_option maxRecDepth 10000 in
theorem tf_46 {a1 : Int32} (hi : ci_46 a1 μ) (h : Q (some (.inl (cv_46 a1 μ))) μ) : xm_MW (tm_I L xs) (d + 1) 46 [.inr (some (6, 0)), .inl a1] μ Q := by
  refine xr_in2 [some (.inr (some (6, 0))), some (.inl a1)] rfl rfl ?_
  unfold cv_46 at h
  unfold ci_46 at hi
  refine xr_go 3 (pc' := 5) (ls' := [some (.inr (some (6, 0))), some (.inl a1)]) (st' := [.inl a1, .inr (some (9, 0))]) (s' := μ) rfl ?_
  refine xr_ial (n := 6) rfl rfl (hi) ?_
  suffices hj1 : xr_t (tm_I L xs) (d + 0) 46 14 [some (.inr (some (6, 0))), some (.inl a1)] [.inl ((if (μ 9 0 ((a1).toNatClampNeg)) = 0 then 0 else 1) : Int32)] μ Q by
    refine xr_br 1 (c := (μ 9 0 ((a1).toNatClampNeg)) = 0) inferInstance (a := 13) (b := 9) (ls' := [some (.inr (some (6, 0))), some (.inl a1)]) (st' := []) (s' := μ) rfl (fun c1 => ?_) (fun c1 => ?_)
    · skip
      refine xr_go 1 (pc' := 14) (ls' := [some (.inr (some (6, 0))), some (.inl a1)]) (st' := [.inl 0]) (s' := μ) rfl ?_
      have ehj1 : ((if (μ 9 0 ((a1).toNatClampNeg)) = 0 then 0 else 1) : Int32) = 0 := by first | rfl | simp only [if_pos c1]
      rw [ehj1] at hj1
      exact hj1
    · skip
      refine xr_go 2 (pc' := 14) (ls' := [some (.inr (some (6, 0))), some (.inl a1)]) (st' := [.inl 1]) (s' := μ) rfl ?_
      have ehj1 : ((if (μ 9 0 ((a1).toNatClampNeg)) = 0 then 0 else 1) : Int32) = 1 := by first | rfl | simp only [if_neg c1]
      rw [ehj1] at hj1
      exact hj1
  exact xr_zr rfl (fun _ => (by (repeat' split) <;> first | exact Or.inl rfl | exact Or.inr rfl)) h
-- BootNet$Layout.hasPool(I)Z
def cv_47 (a1 : Int32) (μ : tm_M) : Int32 := ((if (μ 7 0 (((μ 9 0 ((a1).toNatClampNeg)) : Int32).toNatClampNeg)) = 0 then 0 else 1) : Int32)
def ci_47 (a1 : Int32) (μ : tm_M) : Prop := (tm_ix a1 6 = true) ∧ (tm_ix (μ 9 0 ((a1).toNatClampNeg)) 3 = true)
theorem cz_47 {a1 : Int32} {μ : tm_M} : cv_47 a1 μ = 0 ∨ cv_47 a1 μ = 1 := by
  unfold cv_47
  (repeat' split) <;> first | exact Or.inl rfl | exact Or.inr rfl
set_option maxHeartbeats 4000000 in
set_option maxRecDepth 10000 in
theorem tf_47 {a1 : Int32} (hi : ci_47 a1 μ) (h : Q (some (.inl (cv_47 a1 μ))) μ) : xm_MW (tm_I L xs) (d + 1) 47 [.inr (some (6, 0)), .inl a1] μ Q := by
  refine xr_in2 [some (.inr (some (6, 0))), some (.inl a1)] rfl rfl ?_
  unfold cv_47 at h
  unfold ci_47 at hi
  refine xr_go 5 (pc' := 9) (ls' := [some (.inr (some (6, 0))), some (.inl a1)]) (st' := [.inl a1, .inr (some (9, 0)), .inr (some (7, 0))]) (s' := μ) rfl ?_
  refine xr_ial (n := 6) rfl rfl (hi.1) ?_
  refine xr_ial (n := 3) rfl rfl (hi.2) ?_
  suffices hj1 : xr_t (tm_I L xs) (d + 0) 47 19 [some (.inr (some (6, 0))), some (.inl a1)] [.inl ((if (μ 7 0 (((μ 9 0 ((a1).toNatClampNeg)) : Int32).toNatClampNeg)) = 0 then 0 else 1) : Int32)] μ Q by
    refine xr_br 1 (c := (μ 7 0 (((μ 9 0 ((a1).toNatClampNeg)) : Int32).toNatClampNeg)) = 0) inferInstance (a := 18) (b := 14) (ls' := [some (.inr (some (6, 0))), some (.inl a1)]) (st' := []) (s' := μ) rfl (fun c1 => ?_) (fun c1 => ?_)
    · skip
      refine xr_go 1 (pc' := 19) (ls' := [some (.inr (some (6, 0))), some (.inl a1)]) (st' := [.inl 0]) (s' := μ) rfl ?_
      have ehj1 : ((if (μ 7 0 (((μ 9 0 ((a1).toNatClampNeg)) : Int32).toNatClampNeg)) = 0 then 0 else 1) : Int32) = 0 := by first | rfl | simp only [if_pos c1]
      rw [ehj1] at hj1
      exact hj1
    · skip
      refine xr_go 2 (pc' := 19) (ls' := [some (.inr (some (6, 0))), some (.inl a1)]) (st' := [.inl 1]) (s' := μ) rfl ?_
      have ehj1 : ((if (μ 7 0 (((μ 9 0 ((a1).toNatClampNeg)) : Int32).toNatClampNeg)) = 0 then 0 else 1) : Int32) = 1 := by first | rfl | simp only [if_neg c1]
      rw [ehj1] at hj1
      exact hj1
  exact xr_zr rfl (fun _ => (by (repeat' split) <;> first | exact Or.inl rfl | exact Or.inr rfl)) h
-- BootNet$Layout.firstOfPool(I)I
def cv_48 (a1 : Int32) (μ : tm_M) : Int32 := ((10 * (μ 9 0 ((a1).toNatClampNeg))) + (μ 7 0 (((μ 9 0 ((a1).toNatClampNeg)) : Int32).toNatClampNeg)))
def ci_48 (a1 : Int32) (μ : tm_M) : Prop := (tm_ix a1 6 = true) ∧ (tm_ix (μ 9 0 ((a1).toNatClampNeg)) 3 = true)
set_option maxHeartbeats 4000000 in
set_option maxRecDepth 10000 in
theorem tf_48 {a1 : Int32} (hi : ci_48 a1 μ) (h : Q (some (.inl (cv_48 a1 μ))) μ) : xm_MW (tm_I L xs) (d + 1) 48 [.inr (some (6, 0)), .inl a1] μ Q := by
  refine xr_in2 [some (.inr (some (6, 0))), some (.inl a1)] rfl rfl ?_
  unfold cv_48 at h
  unfold ci_48 at hi
  refine xr_go 4 (pc' := 7) (ls' := [some (.inr (some (6, 0))), some (.inl a1)]) (st' := [.inl a1, .inr (some (9, 0)), .inl 10]) (s' := μ) rfl ?_
  refine xr_ial (n := 6) rfl rfl (hi.1) ?_
  refine xr_go 6 (pc' := 18) (ls' := [some (.inr (some (6, 0))), some (.inl a1)]) (st' := [.inl a1, .inr (some (9, 0)), .inr (some (7, 0)), .inl (10 * (μ 9 0 ((a1).toNatClampNeg)))]) (s' := μ) rfl ?_
  refine xr_ial (n := 6) rfl rfl (hi.1) ?_
  refine xr_ial (n := 3) rfl rfl (hi.2) ?_
  refine xr_go 1 (pc' := 21) (ls' := [some (.inr (some (6, 0))), some (.inl a1)]) (st' := [.inl ((10 * (μ 9 0 ((a1).toNatClampNeg))) + (μ 7 0 (((μ 9 0 ((a1).toNatClampNeg)) : Int32).toNatClampNeg)))]) (s' := μ) rfl ?_
  exact xr_rt (v := some (.inl ((10 * (μ 9 0 ((a1).toNatClampNeg))) + (μ 7 0 (((μ 9 0 ((a1).toNatClampNeg)) : Int32).toNatClampNeg))))) rfl h
-- BootNet$Layout.lastOfPool(I)I
def cv_49 (a1 : Int32) (μ : tm_M) : Int32 := ((10 * (μ 9 0 ((a1).toNatClampNeg))) + (μ 8 0 (((μ 9 0 ((a1).toNatClampNeg)) : Int32).toNatClampNeg)))
def ci_49 (a1 : Int32) (μ : tm_M) : Prop := (tm_ix a1 6 = true) ∧ (tm_ix (μ 9 0 ((a1).toNatClampNeg)) 3 = true)
set_option maxHeartbeats 4000000 in
set_option maxRecDepth 10000 in
theorem tf_49 {a1 : Int32} (hi : ci_49 a1 μ) (h : Q (some (.inl (cv_49 a1 μ))) μ) : xm_MW (tm_I L xs) (d + 1) 49 [.inr (some (6, 0)), .inl a1] μ Q := by
  refine xr_in2 [some (.inr (some (6, 0))), some (.inl a1)] rfl rfl ?_
  unfold cv_49 at h
  unfold ci_49 at hi
  refine xr_go 4 (pc' := 7) (ls' := [some (.inr (some (6, 0))), some (.inl a1)]) (st' := [.inl a1, .inr (some (9, 0)), .inl 10]) (s' := μ) rfl ?_
  refine xr_ial (n := 6) rfl rfl (hi.1) ?_
  refine xr_go 6 (pc' := 18) (ls' := [some (.inr (some (6, 0))), some (.inl a1)]) (st' := [.inl a1, .inr (some (9, 0)), .inr (some (8, 0)), .inl (10 * (μ 9 0 ((a1).toNatClampNeg)))]) (s' := μ) rfl ?_
  refine xr_ial (n := 6) rfl rfl (hi.1) ?_
  refine xr_ial (n := 3) rfl rfl (hi.2) ?_
  refine xr_go 1 (pc' := 21) (ls' := [some (.inr (some (6, 0))), some (.inl a1)]) (st' := [.inl ((10 * (μ 9 0 ((a1).toNatClampNeg))) + (μ 8 0 (((μ 9 0 ((a1).toNatClampNeg)) : Int32).toNatClampNeg)))]) (s' := μ) rfl ?_
  exact xr_rt (v := some (.inl ((10 * (μ 9 0 ((a1).toNatClampNeg))) + (μ 8 0 (((μ 9 0 ((a1).toNatClampNeg)) : Int32).toNatClampNeg))))) rfl h
-- BootNet$Library.isFile(I)Z
def cv_51 (a1 : Int32) (μ : tm_M) : Int32 := ((if a1 < 0 then 0 else ((if (4 : Int32) ≤ a1 then 0 else 1) : Int32)) : Int32)
theorem cz_51 {a1 : Int32} {μ : tm_M} : cv_51 a1 μ = 0 ∨ cv_51 a1 μ = 1 := by
  unfold cv_51
  (repeat' split) <;> first | exact Or.inl rfl | exact Or.inr rfl
set_option maxHeartbeats 4000000 in
set_option maxRecDepth 10000 in
theorem tf_51 {a1 : Int32} (h : Q (some (.inl (cv_51 a1 μ))) μ) : xm_MW (tm_I L xs) (d + 1) 51 [.inl a1] μ Q := by
  refine xr_in2 [some (.inl a1)] rfl rfl ?_
  unfold cv_51 at h
  suffices hj1 : xr_t (tm_I L xs) (d + 0) 51 14 [some (.inl a1)] [.inl ((if a1 < 0 then 0 else ((if (4 : Int32) ≤ a1 then 0 else 1) : Int32)) : Int32)] μ Q by
    refine xr_br 2 (c := a1 < 0) inferInstance (a := 13) (b := 4) (ls' := [some (.inl a1)]) (st' := []) (s' := μ) rfl (fun c1 => ?_) (fun c1 => ?_)
    · skip
      refine xr_go 1 (pc' := 14) (ls' := [some (.inl a1)]) (st' := [.inl 0]) (s' := μ) rfl ?_
      have ehj1 : ((if a1 < 0 then 0 else ((if (4 : Int32) ≤ a1 then 0 else 1) : Int32)) : Int32) = 0 := by first | rfl | simp only [if_pos c1]
      rw [ehj1] at hj1
      exact hj1
    · skip
      suffices hj2 : xr_t (tm_I L xs) (d + 0) 51 14 [some (.inl a1)] [.inl ((if (4 : Int32) ≤ a1 then 0 else 1) : Int32)] μ Q by
        refine xr_br 3 (c := (4 : Int32) ≤ a1) inferInstance (a := 13) (b := 9) (ls' := [some (.inl a1)]) (st' := []) (s' := μ) rfl (fun c2 => ?_) (fun c2 => ?_)
        · skip
          refine xr_go 1 (pc' := 14) (ls' := [some (.inl a1)]) (st' := [.inl 0]) (s' := μ) rfl ?_
          have ehj2 : ((if (4 : Int32) ≤ a1 then 0 else 1) : Int32) = 0 := by first | rfl | simp only [if_pos c2]
          rw [ehj2] at hj2
          exact hj2
        · skip
          refine xr_go 2 (pc' := 14) (ls' := [some (.inl a1)]) (st' := [.inl 1]) (s' := μ) rfl ?_
          have ehj2 : ((if (4 : Int32) ≤ a1 then 0 else 1) : Int32) = 1 := by first | rfl | simp only [if_neg c2]
          rw [ehj2] at hj2
          exact hj2
      have ehj1 : ((if a1 < 0 then 0 else ((if (4 : Int32) ≤ a1 then 0 else 1) : Int32)) : Int32) = ((if (4 : Int32) ≤ a1 then 0 else 1) : Int32) := by first | rfl | simp only [if_neg c1]
      rw [ehj1] at hj1
      exact hj1
  exact xr_zr rfl (fun _ => (by (repeat' split) <;> first | exact Or.inl rfl | exact Or.inr rfl)) h
-- BootNet$Library.has(I)Z
def cv_55 (a1 : Int32) (μ : tm_M) : Int32 := ((if (cv_51 a1 μ) = 0 then 0 else ((if (μ 15 0 ((a1).toNatClampNeg)) ≤ 0 then 0 else 1) : Int32)) : Int32)
def ci_55 (a1 : Int32) (μ : tm_M) : Prop := ((¬ ((cv_51 a1 μ) = 0)) → tm_ix a1 4 = true)
theorem cz_55 {a1 : Int32} {μ : tm_M} : cv_55 a1 μ = 0 ∨ cv_55 a1 μ = 1 := by
  unfold cv_55
  (repeat' split) <;> first | exact Or.inl rfl | exact Or.inr rfl | exact cz_51
set_option maxHeartbeats 4000000 in
set_option maxRecDepth 10000 in
theorem tf_55 {a1 : Int32} (hi : ci_55 a1 μ) (h : Q (some (.inl (cv_55 a1 μ))) μ) : xm_MW (tm_I L xs) (d + 2) 55 [.inr (some (12, 0)), .inl a1] μ Q := by
  refine xr_in2 [some (.inr (some (12, 0))), some (.inl a1)] rfl rfl ?_
  unfold cv_55 at h
  unfold ci_55 at hi
  refine xr_go 1 (pc' := 1) (ls' := [some (.inr (some (12, 0))), some (.inl a1)]) (st' := [.inl a1]) (s' := μ) rfl ?_
  refine xr_cl (y' := 51) (as := [.inl a1]) (r := []) rfl rfl ?_
  refine tf_51 (d := d + 0) (μ := μ) (a1 := a1) ?_
  show xr_t (tm_I L xs) (d + 1) 55 4 [some (.inr (some (12, 0))), some (.inl a1)] [.inl (cv_51 a1 μ)] μ Q
  have z1 : (cv_51 a1 μ) = 0 ∨ (cv_51 a1 μ) = 1 := cz_51
  generalize gv1 : (cv_51 a1 μ) = v1 at h hi z1 ⊢
  suffices hj1 : xr_t (tm_I L xs) (d + 1) 55 21 [some (.inr (some (12, 0))), some (.inl a1)] [.inl ((if v1 = 0 then 0 else ((if (μ 15 0 ((a1).toNatClampNeg)) ≤ 0 then 0 else 1) : Int32)) : Int32)] μ Q by
    refine xr_br 1 (c := v1 = 0) inferInstance (a := 20) (b := 7) (ls' := [some (.inr (some (12, 0))), some (.inl a1)]) (st' := []) (s' := μ) rfl (fun c1 => ?_) (fun c1 => ?_)
    · skip
      refine xr_go 1 (pc' := 21) (ls' := [some (.inr (some (12, 0))), some (.inl a1)]) (st' := [.inl 0]) (s' := μ) rfl ?_
      have ehj1 : ((if v1 = 0 then 0 else ((if (μ 15 0 ((a1).toNatClampNeg)) ≤ 0 then 0 else 1) : Int32)) : Int32) = 0 := by first | rfl | simp only [if_pos c1]
      rw [ehj1] at hj1
      exact hj1
    · skip
      refine xr_go 3 (pc' := 12) (ls' := [some (.inr (some (12, 0))), some (.inl a1)]) (st' := [.inl a1, .inr (some (15, 0))]) (s' := μ) rfl ?_
      refine xr_ial (n := 4) rfl rfl (hi c1) ?_
      suffices hj2 : xr_t (tm_I L xs) (d + 1) 55 21 [some (.inr (some (12, 0))), some (.inl a1)] [.inl ((if (μ 15 0 ((a1).toNatClampNeg)) ≤ 0 then 0 else 1) : Int32)] μ Q by
        refine xr_br 1 (c := (μ 15 0 ((a1).toNatClampNeg)) ≤ 0) inferInstance (a := 20) (b := 16) (ls' := [some (.inr (some (12, 0))), some (.inl a1)]) (st' := []) (s' := μ) rfl (fun c2 => ?_) (fun c2 => ?_)
        · skip
          refine xr_go 1 (pc' := 21) (ls' := [some (.inr (some (12, 0))), some (.inl a1)]) (st' := [.inl 0]) (s' := μ) rfl ?_
          have ehj2 : ((if (μ 15 0 ((a1).toNatClampNeg)) ≤ 0 then 0 else 1) : Int32) = 0 := by first | rfl | simp only [if_pos c2]
          rw [ehj2] at hj2
          exact hj2
        · skip
          refine xr_go 2 (pc' := 21) (ls' := [some (.inr (some (12, 0))), some (.inl a1)]) (st' := [.inl 1]) (s' := μ) rfl ?_
          have ehj2 : ((if (μ 15 0 ((a1).toNatClampNeg)) ≤ 0 then 0 else 1) : Int32) = 1 := by first | rfl | simp only [if_neg c2]
          rw [ehj2] at hj2
          exact hj2
      have ehj1 : ((if v1 = 0 then 0 else ((if (μ 15 0 ((a1).toNatClampNeg)) ≤ 0 then 0 else 1) : Int32)) : Int32) = ((if (μ 15 0 ((a1).toNatClampNeg)) ≤ 0 then 0 else 1) : Int32) := by first | rfl | simp only [if_neg c1]
      rw [ehj1] at hj1
      exact hj1
  exact xr_zr rfl (fun _ => (by (repeat' split) <;> first | exact Or.inl rfl | exact Or.inr rfl)) h
-- BootNet$Library.addEntry(III)Z
def cv_57 (a1 : Int32) (a2 : Int32) (a3 : Int32) (μ : tm_M) : Int32 := (if ((cv_51 a1 μ) = 0) ∨ ((a2 < 0) ∨ (((40 : Int32) < a2) ∨ (¬ ((μ 12 0 5) < 4)))) then 0 else 1)
def cs_57 (a1 : Int32) (a2 : Int32) (a3 : Int32) (μ : tm_M) : tm_M := (if ((cv_51 a1 μ) = 0) ∨ ((a2 < 0) ∨ (((40 : Int32) < a2) ∨ (¬ ((μ 12 0 5) < 4)))) then μ else (tm_wr (tm_wr (tm_wr (tm_wr μ 16 0 (((μ 12 0 5) : Int32).toNatClampNeg) a1) 17 0 (((μ 12 0 5) : Int32).toNatClampNeg) a2) 18 0 (((μ 12 0 5) : Int32).toNatClampNeg) a3) 12 0 5 ((μ 12 0 5) + 1)))
def ci_57 (a1 : Int32) (a2 : Int32) (a3 : Int32) (μ : tm_M) : Prop := ((¬ (((cv_51 a1 μ) = 0) ∨ ((a2 < 0) ∨ (((40 : Int32) < a2) ∨ (¬ ((μ 12 0 5) < 4)))))) → tm_ix (μ 12 0 5) 4 = true)
theorem cz_57 {a1 : Int32} {a2 : Int32} {a3 : Int32} {μ : tm_M} : cv_57 a1 a2 a3 μ = 0 ∨ cv_57 a1 a2 a3 μ = 1 := by
  unfold cv_57
  (repeat' split) <;> first | exact Or.inl rfl | exact Or.inr rfl | exact cz_51
set_option maxHeartbeats 4000000 in
set_option maxRecDepth 10000 in
theorem tf_57 {a1 : Int32} {a2 : Int32} {a3 : Int32} (hi : ci_57 a1 a2 a3 μ) (h : Q (some (.inl (cv_57 a1 a2 a3 μ))) (cs_57 a1 a2 a3 μ)) : xm_MW (tm_I L xs) (d + 2) 57 [.inr (some (12, 0)), .inl a1, .inl a2, .inl a3] μ Q := by
  refine xr_in2 [some (.inr (some (12, 0))), some (.inl a1), some (.inl a2), some (.inl a3)] rfl rfl ?_
  unfold cv_57 cs_57 at h
  unfold ci_57 at hi
  refine xr_go 1 (pc' := 1) (ls' := [some (.inr (some (12, 0))), some (.inl a1), some (.inl a2), some (.inl a3)]) (st' := [.inl a1]) (s' := μ) rfl ?_
  refine xr_cl (y' := 51) (as := [.inl a1]) (r := []) rfl rfl ?_
  refine tf_51 (d := d + 0) (μ := μ) (a1 := a1) ?_
  show xr_t (tm_I L xs) (d + 1) 57 4 [some (.inr (some (12, 0))), some (.inl a1), some (.inl a2), some (.inl a3)] [.inl (cv_51 a1 μ)] μ Q
  have z1 : (cv_51 a1 μ) = 0 ∨ (cv_51 a1 μ) = 1 := cz_51
  generalize gv1 : (cv_51 a1 μ) = v1 at h hi z1 ⊢
  suffices hE1 : (((v1 = 0) ∨ ((a2 < 0) ∨ (((40 : Int32) < a2) ∨ (¬ ((μ 12 0 5) < 4))))) → xr_t (tm_I L xs) (d + 1) 57 25 [some (.inr (some (12, 0))), some (.inl a1), some (.inl a2), some (.inl a3)] [] μ Q) ∧ (¬ ((v1 = 0) ∨ ((a2 < 0) ∨ (((40 : Int32) < a2) ∨ (¬ ((μ 12 0 5) < 4))))) → xr_t (tm_I L xs) (d + 1) 57 27 [some (.inr (some (12, 0))), some (.inl a1), some (.inl a2), some (.inl a3)] [] μ Q) by
    refine xr_br 1 (c := v1 = 0) inferInstance (a := 25) (b := 7) (ls' := [some (.inr (some (12, 0))), some (.inl a1), some (.inl a2), some (.inl a3)]) (st' := []) (s' := μ) rfl (fun c1 => ?_) (fun c1 => ?_)
    · skip
      exact hE1.1 (Or.inl c1)
    · skip
      refine xr_br 2 (c := a2 < 0) inferInstance (a := 25) (b := 11) (ls' := [some (.inr (some (12, 0))), some (.inl a1), some (.inl a2), some (.inl a3)]) (st' := []) (s' := μ) rfl (fun c2 => ?_) (fun c2 => ?_)
      · skip
        exact hE1.1 (Or.inr (Or.inl c2))
      · skip
        refine xr_br 3 (c := (40 : Int32) < a2) inferInstance (a := 25) (b := 17) (ls' := [some (.inr (some (12, 0))), some (.inl a1), some (.inl a2), some (.inl a3)]) (st' := []) (s' := μ) rfl (fun c3 => ?_) (fun c3 => ?_)
        · skip
          exact hE1.1 (Or.inr (Or.inr (Or.inl c3)))
        · skip
          refine xr_br 4 (c := (μ 12 0 5) < 4) inferInstance (a := 27) (b := 25) (ls' := [some (.inr (some (12, 0))), some (.inl a1), some (.inl a2), some (.inl a3)]) (st' := []) (s' := μ) rfl (fun c4 => ?_) (fun c4 => ?_)
          · skip
            exact hE1.2 (fun z => z.elim c1 (fun z => z.elim c2 (fun z => z.elim c3 (fun z => z c4))))
          · skip
            exact hE1.1 (Or.inr (Or.inr (Or.inr c4)))
  refine ⟨fun c5 => ?_, fun c5 => ?_⟩
  · skip
    refine xr_go 1 (pc' := 26) (ls' := [some (.inr (some (12, 0))), some (.inl a1), some (.inl a2), some (.inl a3)]) (st' := [.inl 0]) (s' := μ) rfl ?_
    try simp only [if_pos c5] at h
    exact xr_rt (v := some (.inl 0)) rfl h
  · skip
    refine xr_go 5 (pc' := 36) (ls' := [some (.inr (some (12, 0))), some (.inl a1), some (.inl a2), some (.inl a3)]) (st' := [.inl a1, .inl (μ 12 0 5), .inr (some (16, 0))]) (s' := μ) rfl ?_
    refine xr_ias (n := 4) rfl rfl (hi c5) ?_
    refine xr_go 5 (pc' := 46) (ls' := [some (.inr (some (12, 0))), some (.inl a1), some (.inl a2), some (.inl a3)]) (st' := [.inl a2, .inl (μ 12 0 5), .inr (some (17, 0))]) (s' := (tm_wr μ 16 0 (((μ 12 0 5) : Int32).toNatClampNeg) a1)) rfl ?_
    refine xr_ias (n := 4) rfl rfl (hi c5) ?_
    refine xr_go 5 (pc' := 56) (ls' := [some (.inr (some (12, 0))), some (.inl a1), some (.inl a2), some (.inl a3)]) (st' := [.inl a3, .inl (μ 12 0 5), .inr (some (18, 0))]) (s' := (tm_wr (tm_wr μ 16 0 (((μ 12 0 5) : Int32).toNatClampNeg) a1) 17 0 (((μ 12 0 5) : Int32).toNatClampNeg) a2)) rfl ?_
    refine xr_ias (n := 4) rfl rfl (hi c5) ?_
    refine xr_go 7 (pc' := 68) (ls' := [some (.inr (some (12, 0))), some (.inl a1), some (.inl a2), some (.inl a3)]) (st' := [.inl 1]) (s' := (tm_wr (tm_wr (tm_wr (tm_wr μ 16 0 (((μ 12 0 5) : Int32).toNatClampNeg) a1) 17 0 (((μ 12 0 5) : Int32).toNatClampNeg) a2) 18 0 (((μ 12 0 5) : Int32).toNatClampNeg) a3) 12 0 5 ((μ 12 0 5) + 1))) rfl ?_
    try simp only [if_neg c5] at h
    exact xr_rt (v := some (.inl 1)) rfl h
-- BootNet$Loading.forgetAll()V
def cs_60 (i : Nat) (μ : tm_M) : tm_M := (tm_wr (tm_wr (tm_wr (tm_wr μ 34 i 11 0) 34 i 10 0) 34 i 6 0) 34 i 5 0)
set_option maxHeartbeats 4000000 in
set_option maxRecDepth 10000 in
theorem tf_60 {i : Nat} (h : Q none (cs_60 i μ)) : xm_MW (tm_I L xs) (d + 1) 60 [.inr (some (34, i))] μ Q := by
  refine xr_in2 [some (.inr (some (34, i)))] rfl rfl ?_
  unfold cs_60 at h
  refine xr_go 12 (pc' := 20) (ls' := [some (.inr (some (34, i)))]) (st' := []) (s' := (tm_wr (tm_wr (tm_wr (tm_wr μ 34 i 11 0) 34 i 10 0) 34 i 6 0) 34 i 5 0)) rfl ?_
  exact xr_rt (v := none) rfl h
-- BootNet$Loading.interrupt()V
def cs_62 (i : Nat) (μ : tm_M) : tm_M := (if (μ 34 i 11) = 1 then (tm_wr μ 34 i 11 0) else μ)
set_option maxHeartbeats 4000000 in
set_option maxRecDepth 10000 in
theorem tf_62 {i : Nat} (h : Q none (cs_62 i μ)) : xm_MW (tm_I L xs) (d + 1) 62 [.inr (some (34, i))] μ Q := by
  refine xr_in2 [some (.inr (some (34, i)))] rfl rfl ?_
  unfold cs_62 at h
  refine xr_br 4 (c := (μ 34 i 11) = 1) inferInstance (a := 8) (b := 13) (ls' := [some (.inr (some (34, i)))]) (st' := []) (s' := μ) rfl (fun c1 => ?_) (fun c1 => ?_)
  · skip
    refine xr_go 3 (pc' := 13) (ls' := [some (.inr (some (34, i)))]) (st' := []) (s' := (tm_wr μ 34 i 11 0)) rfl ?_
    try simp only [if_pos c1] at h
    exact xr_rt (v := none) rfl h
  · skip
    try simp only [if_neg c1] at h
    exact xr_rt (v := none) rfl h
-- BootNet$Loading.isLate()Z
def cv_65 (i : Nat) (μ : tm_M) : Int32 := ((if (μ 34 i 11) = 1 then ((if (μ 1 0 3) < (μ 34 i 9) then 0 else 1) : Int32) else 0) : Int32)
theorem cz_65 {i : Nat} {μ : tm_M} : cv_65 i μ = 0 ∨ cv_65 i μ = 1 := by
  unfold cv_65
  (repeat' split) <;> first | exact Or.inl rfl | exact Or.inr rfl
set_option maxHeartbeats 4000000 in
set_option maxRecDepth 10000 in
theorem tf_65 {i : Nat} (h : Q (some (.inl (cv_65 i μ))) μ) : xm_MW (tm_I L xs) (d + 1) 65 [.inr (some (34, i))] μ Q := by
  refine xr_in2 [some (.inr (some (34, i)))] rfl rfl ?_
  unfold cv_65 at h
  suffices hj1 : xr_t (tm_I L xs) (d + 0) 65 27 [some (.inr (some (34, i)))] [.inl ((if (μ 34 i 11) = 1 then ((if (μ 1 0 3) < (μ 34 i 9) then 0 else 1) : Int32) else 0) : Int32)] μ Q by
    refine xr_br 4 (c := (μ 34 i 11) = 1) inferInstance (a := 8) (b := 26) (ls' := [some (.inr (some (34, i)))]) (st' := []) (s' := μ) rfl (fun c1 => ?_) (fun c1 => ?_)
    · skip
      suffices hj2 : xr_t (tm_I L xs) (d + 0) 65 27 [some (.inr (some (34, i)))] [.inl ((if (μ 1 0 3) < (μ 34 i 9) then 0 else 1) : Int32)] μ Q by
        refine xr_br 6 (c := (μ 1 0 3) < (μ 34 i 9)) inferInstance (a := 26) (b := 22) (ls' := [some (.inr (some (34, i)))]) (st' := []) (s' := μ) rfl (fun c2 => ?_) (fun c2 => ?_)
        · skip
          refine xr_go 1 (pc' := 27) (ls' := [some (.inr (some (34, i)))]) (st' := [.inl 0]) (s' := μ) rfl ?_
          have ehj2 : ((if (μ 1 0 3) < (μ 34 i 9) then 0 else 1) : Int32) = 0 := by first | rfl | simp only [if_pos c2]
          rw [ehj2] at hj2
          exact hj2
        · skip
          refine xr_go 2 (pc' := 27) (ls' := [some (.inr (some (34, i)))]) (st' := [.inl 1]) (s' := μ) rfl ?_
          have ehj2 : ((if (μ 1 0 3) < (μ 34 i 9) then 0 else 1) : Int32) = 1 := by first | rfl | simp only [if_neg c2]
          rw [ehj2] at hj2
          exact hj2
      have ehj1 : ((if (μ 34 i 11) = 1 then ((if (μ 1 0 3) < (μ 34 i 9) then 0 else 1) : Int32) else 0) : Int32) = ((if (μ 1 0 3) < (μ 34 i 9) then 0 else 1) : Int32) := by first | rfl | simp only [if_pos c1]
      rw [ehj1] at hj1
      exact hj1
    · skip
      refine xr_go 1 (pc' := 27) (ls' := [some (.inr (some (34, i)))]) (st' := [.inl 0]) (s' := μ) rfl ?_
      have ehj1 : ((if (μ 34 i 11) = 1 then ((if (μ 1 0 3) < (μ 34 i 9) then 0 else 1) : Int32) else 0) : Int32) = 0 := by first | rfl | simp only [if_neg c1]
      rw [ehj1] at hj1
      exact hj1
  exact xr_zr rfl (fun _ => (by (repeat' split) <;> first | exact Or.inl rfl | exact Or.inr rfl)) h
-- BootNet$Loading.bytesOfEntry()I
def cv_67 (i : Nat) (μ : tm_M) : Int32 := ((μ 34 i 5) - (μ 34 i 6))
set_option maxHeartbeats 4000000 in
set_option maxRecDepth 10000 in
theorem tf_67 {i : Nat} (h : Q (some (.inl (cv_67 i μ))) μ) : xm_MW (tm_I L xs) (d + 1) 67 [.inr (some (34, i))] μ Q := by
  refine xr_in2 [some (.inr (some (34, i)))] rfl rfl ?_
  unfold cv_67 at h
  refine xr_go 5 (pc' := 9) (ls' := [some (.inr (some (34, i)))]) (st' := [.inl ((μ 34 i 5) - (μ 34 i 6))]) (s' := μ) rfl ?_
  exact xr_rt (v := some (.inl ((μ 34 i 5) - (μ 34 i 6)))) rfl h
-- BootNet$Loading.byteAt(I)I
def cv_68 (i : Nat) (a1 : Int32) (μ : tm_M) : Int32 := ((if a1 < 0 then (-1) else ((if (μ 34 i 5) ≤ a1 then (-1) else (μ 35 i ((a1).toNatClampNeg))) : Int32)) : Int32)
def ci_68 (i : Nat) (a1 : Int32) (μ : tm_M) : Prop := ((¬ (a1 < 0)) → (¬ ((μ 34 i 5) ≤ a1)) → tm_ix a1 172 = true)
set_option maxHeartbeats 4000000 in
set_option maxRecDepth 10000 in
theorem tf_68 {i : Nat} {a1 : Int32} (hi : ci_68 i a1 μ) (h : Q (some (.inl (cv_68 i a1 μ))) μ) : xm_MW (tm_I L xs) (d + 1) 68 [.inr (some (34, i)), .inl a1] μ Q := by
  refine xr_in2 [some (.inr (some (34, i))), some (.inl a1)] rfl rfl ?_
  unfold cv_68 at h
  unfold ci_68 at hi
  suffices hj1 : xr_t (tm_I L xs) (d + 0) 68 22 [some (.inr (some (34, i))), some (.inl a1)] [.inl ((if a1 < 0 then (-1) else ((if (μ 34 i 5) ≤ a1 then (-1) else (μ 35 i ((a1).toNatClampNeg))) : Int32)) : Int32)] μ Q by
    refine xr_br 2 (c := a1 < 0) inferInstance (a := 21) (b := 4) (ls' := [some (.inr (some (34, i))), some (.inl a1)]) (st' := []) (s' := μ) rfl (fun c1 => ?_) (fun c1 => ?_)
    · skip
      refine xr_go 1 (pc' := 22) (ls' := [some (.inr (some (34, i))), some (.inl a1)]) (st' := [.inl (-1)]) (s' := μ) rfl ?_
      have ehj1 : ((if a1 < 0 then (-1) else ((if (μ 34 i 5) ≤ a1 then (-1) else (μ 35 i ((a1).toNatClampNeg))) : Int32)) : Int32) = (-1) := by first | rfl | simp only [if_pos c1]
      rw [ehj1] at hj1
      exact hj1
    · skip
      suffices hj2 : xr_t (tm_I L xs) (d + 0) 68 22 [some (.inr (some (34, i))), some (.inl a1)] [.inl ((if (μ 34 i 5) ≤ a1 then (-1) else (μ 35 i ((a1).toNatClampNeg))) : Int32)] μ Q by
        refine xr_br 4 (c := (μ 34 i 5) ≤ a1) inferInstance (a := 21) (b := 12) (ls' := [some (.inr (some (34, i))), some (.inl a1)]) (st' := []) (s' := μ) rfl (fun c2 => ?_) (fun c2 => ?_)
        · skip
          refine xr_go 1 (pc' := 22) (ls' := [some (.inr (some (34, i))), some (.inl a1)]) (st' := [.inl (-1)]) (s' := μ) rfl ?_
          have ehj2 : ((if (μ 34 i 5) ≤ a1 then (-1) else (μ 35 i ((a1).toNatClampNeg))) : Int32) = (-1) := by first | rfl | simp only [if_pos c2]
          rw [ehj2] at hj2
          exact hj2
        · skip
          refine xr_go 3 (pc' := 17) (ls' := [some (.inr (some (34, i))), some (.inl a1)]) (st' := [.inl a1, .inr (some (35, i))]) (s' := μ) rfl ?_
          refine xr_ial (n := 172) rfl rfl (hi c1 c2) ?_
          refine xr_go 1 (pc' := 22) (ls' := [some (.inr (some (34, i))), some (.inl a1)]) (st' := [.inl (μ 35 i ((a1).toNatClampNeg))]) (s' := μ) rfl ?_
          have ehj2 : ((if (μ 34 i 5) ≤ a1 then (-1) else (μ 35 i ((a1).toNatClampNeg))) : Int32) = (μ 35 i ((a1).toNatClampNeg)) := by first | rfl | simp only [if_neg c2]
          rw [ehj2] at hj2
          exact hj2
      have ehj1 : ((if a1 < 0 then (-1) else ((if (μ 34 i 5) ≤ a1 then (-1) else (μ 35 i ((a1).toNatClampNeg))) : Int32)) : Int32) = ((if (μ 34 i 5) ≤ a1 then (-1) else (μ 35 i ((a1).toNatClampNeg))) : Int32) := by first | rfl | simp only [if_neg c1]
      rw [ehj1] at hj1
      exact hj1
  exact xr_rt (v := some (.inl ((if a1 < 0 then (-1) else ((if (μ 34 i 5) ≤ a1 then (-1) else (μ 35 i ((a1).toNatClampNeg))) : Int32)) : Int32))) rfl h
-- BootNet$Loading.waitAnew()V
def cs_72 (i : Nat) (μ : tm_M) : tm_M := (tm_wr (tm_wr μ 34 i 8 1) 34 i 9 ((μ 1 0 3) + 3))
set_option maxHeartbeats 4000000 in
set_option maxRecDepth 10000 in
theorem tf_72 {i : Nat} (h : Q none (cs_72 i μ)) : xm_MW (tm_I L xs) (d + 1) 72 [.inr (some (34, i))] μ Q := by
  refine xr_in2 [some (.inr (some (34, i)))] rfl rfl ?_
  unfold cs_72 at h
  refine xr_go 10 (pc' := 18) (ls' := [some (.inr (some (34, i)))]) (st' := []) (s' := (tm_wr (tm_wr μ 34 i 8 1) 34 i 9 ((μ 1 0 3) + 3))) rfl ?_
  exact xr_rt (v := none) rfl h
-- BootNet$Message.goesToServer()Z
def cv_75 (i : Nat) (μ : tm_M) : Int32 := ((if (μ 4 i 0) = 0 then 1 else ((if (μ 4 i 0) = 2 then 1 else ((if (μ 4 i 0) = 5 then 1 else ((if (μ 4 i 0) = 8 then 1 else ((if (μ 4 i 0) = 10 then 1 else 0) : Int32)) : Int32)) : Int32)) : Int32)) : Int32)
theorem cz_75 {i : Nat} {μ : tm_M} : cv_75 i μ = 0 ∨ cv_75 i μ = 1 := by
  unfold cv_75
  (repeat' split) <;> first | exact Or.inl rfl | exact Or.inr rfl
set_option maxHeartbeats 4000000 in
set_option maxRecDepth 10000 in
theorem tf_75 {i : Nat} (h : Q (some (.inl (cv_75 i μ))) μ) : xm_MW (tm_I L xs) (d + 1) 75 [.inr (some (4, i))] μ Q := by
  refine xr_in2 [some (.inr (some (4, i)))] rfl rfl ?_
  unfold cv_75 at h
  suffices hj1 : xr_t (tm_I L xs) (d + 0) 75 46 [some (.inr (some (4, i)))] [.inl ((if (μ 4 i 0) = 0 then 1 else ((if (μ 4 i 0) = 2 then 1 else ((if (μ 4 i 0) = 5 then 1 else ((if (μ 4 i 0) = 8 then 1 else ((if (μ 4 i 0) = 10 then 1 else 0) : Int32)) : Int32)) : Int32)) : Int32)) : Int32)] μ Q by
    refine xr_br 3 (c := (μ 4 i 0) = 0) inferInstance (a := 41) (b := 7) (ls' := [some (.inr (some (4, i)))]) (st' := []) (s' := μ) rfl (fun c1 => ?_) (fun c1 => ?_)
    · skip
      refine xr_go 2 (pc' := 46) (ls' := [some (.inr (some (4, i)))]) (st' := [.inl 1]) (s' := μ) rfl ?_
      have ehj1 : ((if (μ 4 i 0) = 0 then 1 else ((if (μ 4 i 0) = 2 then 1 else ((if (μ 4 i 0) = 5 then 1 else ((if (μ 4 i 0) = 8 then 1 else ((if (μ 4 i 0) = 10 then 1 else 0) : Int32)) : Int32)) : Int32)) : Int32)) : Int32) = 1 := by first | rfl | simp only [if_pos c1]
      rw [ehj1] at hj1
      exact hj1
    · skip
      suffices hj2 : xr_t (tm_I L xs) (d + 0) 75 46 [some (.inr (some (4, i)))] [.inl ((if (μ 4 i 0) = 2 then 1 else ((if (μ 4 i 0) = 5 then 1 else ((if (μ 4 i 0) = 8 then 1 else ((if (μ 4 i 0) = 10 then 1 else 0) : Int32)) : Int32)) : Int32)) : Int32)] μ Q by
        refine xr_br 4 (c := (μ 4 i 0) = 2) inferInstance (a := 41) (b := 15) (ls' := [some (.inr (some (4, i)))]) (st' := []) (s' := μ) rfl (fun c2 => ?_) (fun c2 => ?_)
        · skip
          refine xr_go 2 (pc' := 46) (ls' := [some (.inr (some (4, i)))]) (st' := [.inl 1]) (s' := μ) rfl ?_
          have ehj2 : ((if (μ 4 i 0) = 2 then 1 else ((if (μ 4 i 0) = 5 then 1 else ((if (μ 4 i 0) = 8 then 1 else ((if (μ 4 i 0) = 10 then 1 else 0) : Int32)) : Int32)) : Int32)) : Int32) = 1 := by first | rfl | simp only [if_pos c2]
          rw [ehj2] at hj2
          exact hj2
        · skip
          suffices hj3 : xr_t (tm_I L xs) (d + 0) 75 46 [some (.inr (some (4, i)))] [.inl ((if (μ 4 i 0) = 5 then 1 else ((if (μ 4 i 0) = 8 then 1 else ((if (μ 4 i 0) = 10 then 1 else 0) : Int32)) : Int32)) : Int32)] μ Q by
            refine xr_br 4 (c := (μ 4 i 0) = 5) inferInstance (a := 41) (b := 23) (ls' := [some (.inr (some (4, i)))]) (st' := []) (s' := μ) rfl (fun c3 => ?_) (fun c3 => ?_)
            · skip
              refine xr_go 2 (pc' := 46) (ls' := [some (.inr (some (4, i)))]) (st' := [.inl 1]) (s' := μ) rfl ?_
              have ehj3 : ((if (μ 4 i 0) = 5 then 1 else ((if (μ 4 i 0) = 8 then 1 else ((if (μ 4 i 0) = 10 then 1 else 0) : Int32)) : Int32)) : Int32) = 1 := by first | rfl | simp only [if_pos c3]
              rw [ehj3] at hj3
              exact hj3
            · skip
              suffices hj4 : xr_t (tm_I L xs) (d + 0) 75 46 [some (.inr (some (4, i)))] [.inl ((if (μ 4 i 0) = 8 then 1 else ((if (μ 4 i 0) = 10 then 1 else 0) : Int32)) : Int32)] μ Q by
                refine xr_br 4 (c := (μ 4 i 0) = 8) inferInstance (a := 41) (b := 32) (ls' := [some (.inr (some (4, i)))]) (st' := []) (s' := μ) rfl (fun c4 => ?_) (fun c4 => ?_)
                · skip
                  refine xr_go 2 (pc' := 46) (ls' := [some (.inr (some (4, i)))]) (st' := [.inl 1]) (s' := μ) rfl ?_
                  have ehj4 : ((if (μ 4 i 0) = 8 then 1 else ((if (μ 4 i 0) = 10 then 1 else 0) : Int32)) : Int32) = 1 := by first | rfl | simp only [if_pos c4]
                  rw [ehj4] at hj4
                  exact hj4
                · skip
                  suffices hj5 : xr_t (tm_I L xs) (d + 0) 75 46 [some (.inr (some (4, i)))] [.inl ((if (μ 4 i 0) = 10 then 1 else 0) : Int32)] μ Q by
                    refine xr_br 4 (c := (μ 4 i 0) = 10) inferInstance (a := 41) (b := 45) (ls' := [some (.inr (some (4, i)))]) (st' := []) (s' := μ) rfl (fun c5 => ?_) (fun c5 => ?_)
                    · skip
                      refine xr_go 2 (pc' := 46) (ls' := [some (.inr (some (4, i)))]) (st' := [.inl 1]) (s' := μ) rfl ?_
                      have ehj5 : ((if (μ 4 i 0) = 10 then 1 else 0) : Int32) = 1 := by first | rfl | simp only [if_pos c5]
                      rw [ehj5] at hj5
                      exact hj5
                    · skip
                      refine xr_go 1 (pc' := 46) (ls' := [some (.inr (some (4, i)))]) (st' := [.inl 0]) (s' := μ) rfl ?_
                      have ehj5 : ((if (μ 4 i 0) = 10 then 1 else 0) : Int32) = 0 := by first | rfl | simp only [if_neg c5]
                      rw [ehj5] at hj5
                      exact hj5
                  have ehj4 : ((if (μ 4 i 0) = 8 then 1 else ((if (μ 4 i 0) = 10 then 1 else 0) : Int32)) : Int32) = ((if (μ 4 i 0) = 10 then 1 else 0) : Int32) := by first | rfl | simp only [if_neg c4]
                  rw [ehj4] at hj4
                  exact hj4
              have ehj3 : ((if (μ 4 i 0) = 5 then 1 else ((if (μ 4 i 0) = 8 then 1 else ((if (μ 4 i 0) = 10 then 1 else 0) : Int32)) : Int32)) : Int32) = ((if (μ 4 i 0) = 8 then 1 else ((if (μ 4 i 0) = 10 then 1 else 0) : Int32)) : Int32) := by first | rfl | simp only [if_neg c3]
              rw [ehj3] at hj3
              exact hj3
          have ehj2 : ((if (μ 4 i 0) = 2 then 1 else ((if (μ 4 i 0) = 5 then 1 else ((if (μ 4 i 0) = 8 then 1 else ((if (μ 4 i 0) = 10 then 1 else 0) : Int32)) : Int32)) : Int32)) : Int32) = ((if (μ 4 i 0) = 5 then 1 else ((if (μ 4 i 0) = 8 then 1 else ((if (μ 4 i 0) = 10 then 1 else 0) : Int32)) : Int32)) : Int32) := by first | rfl | simp only [if_neg c2]
          rw [ehj2] at hj2
          exact hj2
      have ehj1 : ((if (μ 4 i 0) = 0 then 1 else ((if (μ 4 i 0) = 2 then 1 else ((if (μ 4 i 0) = 5 then 1 else ((if (μ 4 i 0) = 8 then 1 else ((if (μ 4 i 0) = 10 then 1 else 0) : Int32)) : Int32)) : Int32)) : Int32)) : Int32) = ((if (μ 4 i 0) = 2 then 1 else ((if (μ 4 i 0) = 5 then 1 else ((if (μ 4 i 0) = 8 then 1 else ((if (μ 4 i 0) = 10 then 1 else 0) : Int32)) : Int32)) : Int32)) : Int32) := by first | rfl | simp only [if_neg c1]
      rw [ehj1] at hj1
      exact hj1
  exact xr_zr rfl (fun _ => (by (repeat' split) <;> first | exact Or.inl rfl | exact Or.inr rfl)) h
-- BootNet$Message.tell(I)I
def cv_76 (i : Nat) (a1 : Int32) (μ : tm_M) : Int32 := (if a1 = 0 then (μ 4 i 0) else (if a1 = 1 then (μ 4 i 1) else (if a1 = 2 then (μ 4 i 2) else (if a1 = 3 then (μ 4 i 3) else (if a1 = 4 then (μ 4 i 4) else (if a1 = 5 then (μ 4 i 6) else (if a1 = 6 then (μ 4 i 5) else (-1))))))))
set_option maxHeartbeats 4000000 in
set_option maxRecDepth 10000 in
theorem tf_76 {i : Nat} {a1 : Int32} (h : Q (some (.inl (cv_76 i a1 μ))) μ) : xm_MW (tm_I L xs) (d + 1) 76 [.inr (some (4, i)), .inl a1] μ Q := by
  refine xr_in2 [some (.inr (some (4, i))), some (.inl a1)] rfl rfl ?_
  unfold cv_76 at h
  refine xr_go 1 (pc' := 1) (ls' := [some (.inr (some (4, i))), some (.inl a1)]) (st' := [.inl a1]) (s' := μ) rfl ?_
  refine xr_ts rfl (fun c1 => ?_) (fun j hj c1 => ?_)
  · skip
    have c1_0 : ¬ ((a1 : Int32) = 0) := fun e => by rw [e] at c1; revert c1; decide
    have c1_1 : ¬ ((a1 : Int32) = 1) := fun e => by rw [e] at c1; revert c1; decide
    have c1_2 : ¬ ((a1 : Int32) = 2) := fun e => by rw [e] at c1; revert c1; decide
    have c1_3 : ¬ ((a1 : Int32) = 3) := fun e => by rw [e] at c1; revert c1; decide
    have c1_4 : ¬ ((a1 : Int32) = 4) := fun e => by rw [e] at c1; revert c1; decide
    have c1_5 : ¬ ((a1 : Int32) = 5) := fun e => by rw [e] at c1; revert c1; decide
    have c1_6 : ¬ ((a1 : Int32) = 6) := fun e => by rw [e] at c1; revert c1; decide
    refine xr_go 1 (pc' := 80) (ls' := [some (.inr (some (4, i))), some (.inl a1)]) (st' := [.inl (-1)]) (s' := μ) rfl ?_
    try simp only [if_neg c1_0, if_neg c1_1, if_neg c1_2, if_neg c1_3, if_neg c1_4, if_neg c1_5, if_neg c1_6] at h
    exact xr_rt (v := some (.inl (-1))) rfl h
  · have hj2 : j < 7 := by omega
    match j, hj2, c1 with
    | 0, _, c1 =>
      replace c1 : (a1 : Int32) = 0 := c1
      show xr_t _ _ _ 44 _ _ _ _
      refine xr_go 2 (pc' := 48) (ls' := [some (.inr (some (4, i))), some (.inl a1)]) (st' := [.inl (μ 4 i 0)]) (s' := μ) rfl ?_
      try simp only [if_pos c1] at h
      exact xr_rt (v := some (.inl (μ 4 i 0))) rfl h
    | 1, _, c1 =>
      replace c1 : (a1 : Int32) = 1 := c1
      show xr_t _ _ _ 49 _ _ _ _
      have c1_0 : ¬ ((a1 : Int32) = 0) := by rw [c1]; decide
      refine xr_go 2 (pc' := 53) (ls' := [some (.inr (some (4, i))), some (.inl a1)]) (st' := [.inl (μ 4 i 1)]) (s' := μ) rfl ?_
      try simp only [if_neg c1_0, if_pos c1] at h
      exact xr_rt (v := some (.inl (μ 4 i 1))) rfl h
    | 2, _, c1 =>
      replace c1 : (a1 : Int32) = 2 := c1
      show xr_t _ _ _ 54 _ _ _ _
      have c1_0 : ¬ ((a1 : Int32) = 0) := by rw [c1]; decide
      have c1_1 : ¬ ((a1 : Int32) = 1) := by rw [c1]; decide
      refine xr_go 2 (pc' := 58) (ls' := [some (.inr (some (4, i))), some (.inl a1)]) (st' := [.inl (μ 4 i 2)]) (s' := μ) rfl ?_
      try simp only [if_neg c1_0, if_neg c1_1, if_pos c1] at h
      exact xr_rt (v := some (.inl (μ 4 i 2))) rfl h
    | 3, _, c1 =>
      replace c1 : (a1 : Int32) = 3 := c1
      show xr_t _ _ _ 59 _ _ _ _
      have c1_0 : ¬ ((a1 : Int32) = 0) := by rw [c1]; decide
      have c1_1 : ¬ ((a1 : Int32) = 1) := by rw [c1]; decide
      have c1_2 : ¬ ((a1 : Int32) = 2) := by rw [c1]; decide
      refine xr_go 2 (pc' := 63) (ls' := [some (.inr (some (4, i))), some (.inl a1)]) (st' := [.inl (μ 4 i 3)]) (s' := μ) rfl ?_
      try simp only [if_neg c1_0, if_neg c1_1, if_neg c1_2, if_pos c1] at h
      exact xr_rt (v := some (.inl (μ 4 i 3))) rfl h
    | 4, _, c1 =>
      replace c1 : (a1 : Int32) = 4 := c1
      show xr_t _ _ _ 64 _ _ _ _
      have c1_0 : ¬ ((a1 : Int32) = 0) := by rw [c1]; decide
      have c1_1 : ¬ ((a1 : Int32) = 1) := by rw [c1]; decide
      have c1_2 : ¬ ((a1 : Int32) = 2) := by rw [c1]; decide
      have c1_3 : ¬ ((a1 : Int32) = 3) := by rw [c1]; decide
      refine xr_go 2 (pc' := 68) (ls' := [some (.inr (some (4, i))), some (.inl a1)]) (st' := [.inl (μ 4 i 4)]) (s' := μ) rfl ?_
      try simp only [if_neg c1_0, if_neg c1_1, if_neg c1_2, if_neg c1_3, if_pos c1] at h
      exact xr_rt (v := some (.inl (μ 4 i 4))) rfl h
    | 5, _, c1 =>
      replace c1 : (a1 : Int32) = 5 := c1
      show xr_t _ _ _ 69 _ _ _ _
      have c1_0 : ¬ ((a1 : Int32) = 0) := by rw [c1]; decide
      have c1_1 : ¬ ((a1 : Int32) = 1) := by rw [c1]; decide
      have c1_2 : ¬ ((a1 : Int32) = 2) := by rw [c1]; decide
      have c1_3 : ¬ ((a1 : Int32) = 3) := by rw [c1]; decide
      have c1_4 : ¬ ((a1 : Int32) = 4) := by rw [c1]; decide
      refine xr_go 2 (pc' := 73) (ls' := [some (.inr (some (4, i))), some (.inl a1)]) (st' := [.inl (μ 4 i 6)]) (s' := μ) rfl ?_
      try simp only [if_neg c1_0, if_neg c1_1, if_neg c1_2, if_neg c1_3, if_neg c1_4, if_pos c1] at h
      exact xr_rt (v := some (.inl (μ 4 i 6))) rfl h
    | 6, _, c1 =>
      replace c1 : (a1 : Int32) = 6 := c1
      show xr_t _ _ _ 74 _ _ _ _
      have c1_0 : ¬ ((a1 : Int32) = 0) := by rw [c1]; decide
      have c1_1 : ¬ ((a1 : Int32) = 1) := by rw [c1]; decide
      have c1_2 : ¬ ((a1 : Int32) = 2) := by rw [c1]; decide
      have c1_3 : ¬ ((a1 : Int32) = 3) := by rw [c1]; decide
      have c1_4 : ¬ ((a1 : Int32) = 4) := by rw [c1]; decide
      have c1_5 : ¬ ((a1 : Int32) = 5) := by rw [c1]; decide
      refine xr_go 2 (pc' := 78) (ls' := [some (.inr (some (4, i))), some (.inl a1)]) (st' := [.inl (μ 4 i 5)]) (s' := μ) rfl ?_
      try simp only [if_neg c1_0, if_neg c1_1, if_neg c1_2, if_neg c1_3, if_neg c1_4, if_neg c1_5, if_pos c1] at h
      exact xr_rt (v := some (.inl (μ 4 i 5))) rfl h
-- BootNet$Station.holds()Z
def cv_98 (i : Nat) (μ : tm_M) : Int32 := ((if (μ 33 i 4) = 4 then 1 else ((if (μ 33 i 4) = 5 then 1 else ((if (μ 33 i 4) = 6 then 1 else 0) : Int32)) : Int32)) : Int32)
theorem cz_98 {i : Nat} {μ : tm_M} : cv_98 i μ = 0 ∨ cv_98 i μ = 1 := by
  unfold cv_98
  (repeat' split) <;> first | exact Or.inl rfl | exact Or.inr rfl
set_option maxHeartbeats 4000000 in
set_option maxRecDepth 10000 in
theorem tf_98 {i : Nat} (h : Q (some (.inl (cv_98 i μ))) μ) : xm_MW (tm_I L xs) (d + 1) 98 [.inr (some (33, i))] μ Q := by
  refine xr_in2 [some (.inr (some (33, i)))] rfl rfl ?_
  unfold cv_98 at h
  suffices hj1 : xr_t (tm_I L xs) (d + 0) 98 30 [some (.inr (some (33, i)))] [.inl ((if (μ 33 i 4) = 4 then 1 else ((if (μ 33 i 4) = 5 then 1 else ((if (μ 33 i 4) = 6 then 1 else 0) : Int32)) : Int32)) : Int32)] μ Q by
    refine xr_br 4 (c := (μ 33 i 4) = 4) inferInstance (a := 25) (b := 8) (ls' := [some (.inr (some (33, i)))]) (st' := []) (s' := μ) rfl (fun c1 => ?_) (fun c1 => ?_)
    · skip
      refine xr_go 2 (pc' := 30) (ls' := [some (.inr (some (33, i)))]) (st' := [.inl 1]) (s' := μ) rfl ?_
      have ehj1 : ((if (μ 33 i 4) = 4 then 1 else ((if (μ 33 i 4) = 5 then 1 else ((if (μ 33 i 4) = 6 then 1 else 0) : Int32)) : Int32)) : Int32) = 1 := by first | rfl | simp only [if_pos c1]
      rw [ehj1] at hj1
      exact hj1
    · skip
      suffices hj2 : xr_t (tm_I L xs) (d + 0) 98 30 [some (.inr (some (33, i)))] [.inl ((if (μ 33 i 4) = 5 then 1 else ((if (μ 33 i 4) = 6 then 1 else 0) : Int32)) : Int32)] μ Q by
        refine xr_br 4 (c := (μ 33 i 4) = 5) inferInstance (a := 25) (b := 16) (ls' := [some (.inr (some (33, i)))]) (st' := []) (s' := μ) rfl (fun c2 => ?_) (fun c2 => ?_)
        · skip
          refine xr_go 2 (pc' := 30) (ls' := [some (.inr (some (33, i)))]) (st' := [.inl 1]) (s' := μ) rfl ?_
          have ehj2 : ((if (μ 33 i 4) = 5 then 1 else ((if (μ 33 i 4) = 6 then 1 else 0) : Int32)) : Int32) = 1 := by first | rfl | simp only [if_pos c2]
          rw [ehj2] at hj2
          exact hj2
        · skip
          suffices hj3 : xr_t (tm_I L xs) (d + 0) 98 30 [some (.inr (some (33, i)))] [.inl ((if (μ 33 i 4) = 6 then 1 else 0) : Int32)] μ Q by
            refine xr_br 4 (c := (μ 33 i 4) = 6) inferInstance (a := 25) (b := 29) (ls' := [some (.inr (some (33, i)))]) (st' := []) (s' := μ) rfl (fun c3 => ?_) (fun c3 => ?_)
            · skip
              refine xr_go 2 (pc' := 30) (ls' := [some (.inr (some (33, i)))]) (st' := [.inl 1]) (s' := μ) rfl ?_
              have ehj3 : ((if (μ 33 i 4) = 6 then 1 else 0) : Int32) = 1 := by first | rfl | simp only [if_pos c3]
              rw [ehj3] at hj3
              exact hj3
            · skip
              refine xr_go 1 (pc' := 30) (ls' := [some (.inr (some (33, i)))]) (st' := [.inl 0]) (s' := μ) rfl ?_
              have ehj3 : ((if (μ 33 i 4) = 6 then 1 else 0) : Int32) = 0 := by first | rfl | simp only [if_neg c3]
              rw [ehj3] at hj3
              exact hj3
          have ehj2 : ((if (μ 33 i 4) = 5 then 1 else ((if (μ 33 i 4) = 6 then 1 else 0) : Int32)) : Int32) = ((if (μ 33 i 4) = 6 then 1 else 0) : Int32) := by first | rfl | simp only [if_neg c2]
          rw [ehj2] at hj2
          exact hj2
      have ehj1 : ((if (μ 33 i 4) = 4 then 1 else ((if (μ 33 i 4) = 5 then 1 else ((if (μ 33 i 4) = 6 then 1 else 0) : Int32)) : Int32)) : Int32) = ((if (μ 33 i 4) = 5 then 1 else ((if (μ 33 i 4) = 6 then 1 else 0) : Int32)) : Int32) := by first | rfl | simp only [if_neg c1]
      rw [ehj1] at hj1
      exact hj1
  exact xr_zr rfl (fun _ => (by (repeat' split) <;> first | exact Or.inl rfl | exact Or.inr rfl)) h
-- BootNet$Station.fail(I)V
def cs_106 (i : Nat) (a1 : Int32) (μ : tm_M) : tm_M := (tm_wr (tm_wr (tm_wr μ 33 i 4 7) 33 i 5 0) 34 i 11 a1)
set_option maxHeartbeats 4000000 in
set_option maxRecDepth 10000 in
theorem tf_106 {i : Nat} {a1 : Int32} (h : Q none (cs_106 i a1 μ)) : xm_MW (tm_I L xs) (d + 1) 106 [.inr (some (33, i)), .inl a1] μ Q := by
  refine xr_in2 [some (.inr (some (33, i))), some (.inl a1)] rfl rfl ?_
  unfold cs_106 at h
  refine xr_go 10 (pc' := 19) (ls' := [some (.inr (some (33, i))), some (.inl a1)]) (st' := []) (s' := (tm_wr (tm_wr (tm_wr μ 33 i 4 7) 33 i 5 0) 34 i 11 a1)) rfl ?_
  exact xr_rt (v := none) rfl h
-- BootNet$Station.isTimeToRebind()Z
def cv_109 (i : Nat) (μ : tm_M) : Int32 := ((if (8 * ((μ 1 0 3) - ((μ 33 i 8) - (μ 1 0 0)))) < (7 * (μ 1 0 0)) then 0 else 1) : Int32)
theorem cz_109 {i : Nat} {μ : tm_M} : cv_109 i μ = 0 ∨ cv_109 i μ = 1 := by
  unfold cv_109
  (repeat' split) <;> first | exact Or.inl rfl | exact Or.inr rfl
set_option maxHeartbeats 4000000 in
set_option maxRecDepth 10000 in
theorem tf_109 {i : Nat} (h : Q (some (.inl (cv_109 i μ))) μ) : xm_MW (tm_I L xs) (d + 1) 109 [.inr (some (33, i))] μ Q := by
  refine xr_in2 [some (.inr (some (33, i)))] rfl rfl ?_
  unfold cv_109 at h
  suffices hj1 : xr_t (tm_I L xs) (d + 0) 109 41 [some (.inr (some (33, i)))] [.inl ((if (8 * ((μ 1 0 3) - ((μ 33 i 8) - (μ 1 0 0)))) < (7 * (μ 1 0 0)) then 0 else 1) : Int32)] μ Q by
    refine xr_br 18 (c := (8 * ((μ 1 0 3) - ((μ 33 i 8) - (μ 1 0 0)))) < (7 * (μ 1 0 0))) inferInstance (a := 40) (b := 36) (ls' := [some (.inr (some (33, i)))]) (st' := []) (s' := μ) rfl (fun c1 => ?_) (fun c1 => ?_)
    · skip
      refine xr_go 1 (pc' := 41) (ls' := [some (.inr (some (33, i)))]) (st' := [.inl 0]) (s' := μ) rfl ?_
      have ehj1 : ((if (8 * ((μ 1 0 3) - ((μ 33 i 8) - (μ 1 0 0)))) < (7 * (μ 1 0 0)) then 0 else 1) : Int32) = 0 := by first | rfl | simp only [if_pos c1]
      rw [ehj1] at hj1
      exact hj1
    · skip
      refine xr_go 2 (pc' := 41) (ls' := [some (.inr (some (33, i)))]) (st' := [.inl 1]) (s' := μ) rfl ?_
      have ehj1 : ((if (8 * ((μ 1 0 3) - ((μ 33 i 8) - (μ 1 0 0)))) < (7 * (μ 1 0 0)) then 0 else 1) : Int32) = 1 := by first | rfl | simp only [if_neg c1]
      rw [ehj1] at hj1
      exact hj1
  exact xr_zr rfl (fun _ => (by (repeat' split) <;> first | exact Or.inl rfl | exact Or.inr rfl)) h
-- BootNet$Wire.has(I)Z
def cv_116 (a1 : Int32) (μ : tm_M) : Int32 := ((if a1 < 0 then 0 else ((if (μ 2 0 1) ≤ a1 then 0 else 1) : Int32)) : Int32)
theorem cz_116 {a1 : Int32} {μ : tm_M} : cv_116 a1 μ = 0 ∨ cv_116 a1 μ = 1 := by
  unfold cv_116
  (repeat' split) <;> first | exact Or.inl rfl | exact Or.inr rfl
set_option maxHeartbeats 4000000 in
set_option maxRecDepth 10000 in
theorem tf_116 {a1 : Int32} (h : Q (some (.inl (cv_116 a1 μ))) μ) : xm_MW (tm_I L xs) (d + 1) 116 [.inr (some (2, 0)), .inl a1] μ Q := by
  refine xr_in2 [some (.inr (some (2, 0))), some (.inl a1)] rfl rfl ?_
  unfold cv_116 at h
  suffices hj1 : xr_t (tm_I L xs) (d + 0) 116 17 [some (.inr (some (2, 0))), some (.inl a1)] [.inl ((if a1 < 0 then 0 else ((if (μ 2 0 1) ≤ a1 then 0 else 1) : Int32)) : Int32)] μ Q by
    refine xr_br 2 (c := a1 < 0) inferInstance (a := 16) (b := 4) (ls' := [some (.inr (some (2, 0))), some (.inl a1)]) (st' := []) (s' := μ) rfl (fun c1 => ?_) (fun c1 => ?_)
    · skip
      refine xr_go 1 (pc' := 17) (ls' := [some (.inr (some (2, 0))), some (.inl a1)]) (st' := [.inl 0]) (s' := μ) rfl ?_
      have ehj1 : ((if a1 < 0 then 0 else ((if (μ 2 0 1) ≤ a1 then 0 else 1) : Int32)) : Int32) = 0 := by first | rfl | simp only [if_pos c1]
      rw [ehj1] at hj1
      exact hj1
    · skip
      suffices hj2 : xr_t (tm_I L xs) (d + 0) 116 17 [some (.inr (some (2, 0))), some (.inl a1)] [.inl ((if (μ 2 0 1) ≤ a1 then 0 else 1) : Int32)] μ Q by
        refine xr_br 4 (c := (μ 2 0 1) ≤ a1) inferInstance (a := 16) (b := 12) (ls' := [some (.inr (some (2, 0))), some (.inl a1)]) (st' := []) (s' := μ) rfl (fun c2 => ?_) (fun c2 => ?_)
        · skip
          refine xr_go 1 (pc' := 17) (ls' := [some (.inr (some (2, 0))), some (.inl a1)]) (st' := [.inl 0]) (s' := μ) rfl ?_
          have ehj2 : ((if (μ 2 0 1) ≤ a1 then 0 else 1) : Int32) = 0 := by first | rfl | simp only [if_pos c2]
          rw [ehj2] at hj2
          exact hj2
        · skip
          refine xr_go 2 (pc' := 17) (ls' := [some (.inr (some (2, 0))), some (.inl a1)]) (st' := [.inl 1]) (s' := μ) rfl ?_
          have ehj2 : ((if (μ 2 0 1) ≤ a1 then 0 else 1) : Int32) = 1 := by first | rfl | simp only [if_neg c2]
          rw [ehj2] at hj2
          exact hj2
      have ehj1 : ((if a1 < 0 then 0 else ((if (μ 2 0 1) ≤ a1 then 0 else 1) : Int32)) : Int32) = ((if (μ 2 0 1) ≤ a1 then 0 else 1) : Int32) := by first | rfl | simp only [if_neg c1]
      rw [ehj1] at hj1
      exact hj1
  exact xr_zr rfl (fun _ => (by (repeat' split) <;> first | exact Or.inl rfl | exact Or.inr rfl)) h
end TF
