/-! Rows of the typed memory: arrays at an index that is within, switches. -/
theorem nI_toInt' (x : Int32) (h : 0 ≤ x.toInt) : (Int32.ofNat x.toNatClampNeg).toInt = x.toInt := by
  have h1 : x.toNatClampNeg = x.toInt.toNat := rfl
  have h2 : x.toInt < 2 ^ 31 := by
    have := Int32.toInt_lt x
    simpa using this
  have h3 := nI_toInt (n := x.toNatClampNeg) (by rw [h1]; omega)
  unfold nI at h3
  rw [h3, h1]
  omega
section XT
variable {L : Nat} {xs : Nat → Int32} {d y pc : Nat} {ls : xm_L tm_R} {r : xm_S tm_R} {μ : tm_M} {Q : Option (xm_V tm_R) → tm_M → Prop}
theorem xr_ial {k i n : Nat} {j : Int32} (hat : xt_at y pc = some (.iaload, 1, 0, 0, 0)) (hk : (decide (k ≠ 99) && decide (tk_so k = 1) && decide (tk_a k = 0) && decide (tk_n k = n)) = true) (hi : tm_ix j n = true) (kk : xr_t (tm_I L xs) d y (pc + 1) ls (.inl (μ k i j.toNatClampNeg) :: r) μ Q) : xr_t (tm_I L xs) d y pc ls (.inl j :: .inr (some (k, i)) :: r) μ Q := by
  simp only [Bool.and_eq_true, decide_eq_true_eq] at hk
  obtain ⟨⟨⟨h1, h2⟩, h3⟩, rfl⟩ := hk
  refine xr_nx ?_ kk
  have h : xm_al (tm_I L xs) μ 0 (k, i) j = some (μ k i j.toNatClampNeg) := by
    show tm_al L xs μ 0 (k, i) j = _
    unfold tm_al
    rw [if_neg h1, if_pos ⟨h2, h3, hi⟩]
  unfold xm_st
  rw [hat]
  show xm_o (xm_al (tm_I L xs) μ 0 (k, i) j) _ = _
  rw [h]
  rfl
theorem xr_bal {k i n : Nat} {j : Int32} (hat : xt_at y pc = some (.baload, 1, 0, 0, 0)) (hk : (decide (k ≠ 99) && decide (tk_so k = 1) && decide (tk_a k = 1) && decide (tk_n k = n)) = true) (hi : tm_ix j n = true) (kk : xr_t (tm_I L xs) d y (pc + 1) ls (.inl (μ k i j.toNatClampNeg) :: r) μ Q) : xr_t (tm_I L xs) d y pc ls (.inl j :: .inr (some (k, i)) :: r) μ Q := by
  simp only [Bool.and_eq_true, decide_eq_true_eq] at hk
  obtain ⟨⟨⟨h1, h2⟩, h3⟩, rfl⟩ := hk
  refine xr_nx ?_ kk
  have h : xm_al (tm_I L xs) μ 1 (k, i) j = some (μ k i j.toNatClampNeg) := by
    show tm_al L xs μ 1 (k, i) j = _
    unfold tm_al
    rw [if_neg h1, if_pos ⟨h2, h3, hi⟩]
  unfold xm_st
  rw [hat]
  show xm_o (xm_al (tm_I L xs) μ 1 (k, i) j) _ = _
  rw [h]
  rfl
theorem xr_ias {k i n : Nat} {j x : Int32} (hat : xt_at y pc = some (.iastore, 1, 0, 0, 0)) (hk : (decide (tk_so k = 1) && decide (tk_a k = 0) && decide (tk_n k = n)) = true) (hi : tm_ix j n = true) (kk : xr_t (tm_I L xs) d y (pc + 1) ls r (tm_wr μ k i j.toNatClampNeg x) Q) : xr_t (tm_I L xs) d y pc ls (.inl x :: .inl j :: .inr (some (k, i)) :: r) μ Q := by
  simp only [Bool.and_eq_true, decide_eq_true_eq] at hk
  obtain ⟨⟨h2, h3⟩, rfl⟩ := hk
  refine xr_nx ?_ kk
  have h : xm_as (tm_I L xs) μ 0 (k, i) j x = some (tm_wr μ k i j.toNatClampNeg x) := by
    show tm_as μ 0 (k, i) j x = _
    unfold tm_as
    rw [if_pos ⟨h2, h3, hi⟩]
    rfl
  unfold xm_st
  rw [hat]
  show xm_o (xm_as (tm_I L xs) μ 0 (k, i) j x) _ = _
  rw [h]
  rfl
theorem xr_bas {k i n : Nat} {j x : Int32} (hat : xt_at y pc = some (.bastore, 1, 0, 0, 0)) (hk : (decide (tk_so k = 1) && decide (tk_a k = 1) && decide (tk_n k = n)) = true) (hi : tm_ix j n = true) (kk : xr_t (tm_I L xs) d y (pc + 1) ls r (tm_wr μ k i j.toNatClampNeg (vp_nar .boolean x)) Q) : xr_t (tm_I L xs) d y pc ls (.inl x :: .inl j :: .inr (some (k, i)) :: r) μ Q := by
  simp only [Bool.and_eq_true, decide_eq_true_eq] at hk
  obtain ⟨⟨h2, h3⟩, rfl⟩ := hk
  refine xr_nx ?_ kk
  have h : xm_as (tm_I L xs) μ 1 (k, i) j x = some (tm_wr μ k i j.toNatClampNeg (vp_nar .boolean x)) := by
    show tm_as μ 1 (k, i) j x = _
    unfold tm_as
    rw [if_pos ⟨h2, h3, hi⟩]
    rfl
  unfold xm_st
  rw [hat]
  show xm_o (xm_as (tm_I L xs) μ 1 (k, i) j x) _ = _
  rw [h]
  rfl
theorem xr_aal {k i n : Nat} {j : Int32} {w : tm_R} (hat : xt_at y pc = some (.aaload, 1, 0, 0, 0)) (hk : (decide (tk_so k = 2) && decide (tk_n k = n)) = true) (hi : tm_ix j n = true) (hw : tm_rf μ k i j.toNatClampNeg = some w) (kk : xr_t (tm_I L xs) d y (pc + 1) ls (.inr (some w) :: r) μ Q) : xr_t (tm_I L xs) d y pc ls (.inl j :: .inr (some (k, i)) :: r) μ Q := by
  simp only [Bool.and_eq_true, decide_eq_true_eq] at hk
  obtain ⟨h2, rfl⟩ := hk
  refine xr_nx ?_ kk
  have h : xm_rl (tm_I L xs) μ (k, i) j = some (.inr (some w)) := by
    show tm_rl μ (k, i) j = _
    unfold tm_rl
    rw [if_pos ⟨h2, hi⟩, hw]
  unfold xm_st
  rw [hat]
  show xm_o (xm_rl (tm_I L xs) μ (k, i) j) _ = _
  rw [h]
  rfl
theorem xr_aas {k i n : Nat} {j : Int32} {w : tm_R} (hat : xt_at y pc = some (.aastore, 1, 0, 0, 0)) (hk : (decide (tk_so k = 2) && decide (tk_sp k 0 = (3, w.1, 0)) && decide (tk_n k = n)) = true) (hi : tm_ix j n = true) (kk : xr_t (tm_I L xs) d y (pc + 1) ls r (tm_wr μ k i j.toNatClampNeg (Int32.ofNat w.2)) Q) : xr_t (tm_I L xs) d y pc ls (.inr (some w) :: .inl j :: .inr (some (k, i)) :: r) μ Q := by
  simp only [Bool.and_eq_true, decide_eq_true_eq] at hk
  obtain ⟨⟨h2, h3⟩, rfl⟩ := hk
  refine xr_nx ?_ kk
  have h : xm_rs (tm_I L xs) μ (k, i) j w = some (tm_wr μ k i j.toNatClampNeg (Int32.ofNat w.2)) := by
    show tm_rs μ (k, i) j w = _
    unfold tm_rs
    rw [if_pos ⟨h2, h3, hi⟩]
  unfold xm_st
  rw [hat]
  show xm_o (xm_rs (tm_I L xs) μ (k, i) j w) _ = _
  rw [h]
  rfl
/-- the end of a method that answers a boolean or an int -/
theorem xr_zr {x : Int32} {b : Nat} (hat : xt_at y pc = some (.ireturn, 1, 0, b, 0)) (hx : b = 1 → x = 0 ∨ x = 1) (kk : Q (some (.inl x)) μ) : xr_t (tm_I L xs) d y pc ls [.inl x] μ Q := by
  refine xr_rt (v := some (.inl x)) ?_ kk
  unfold xm_st
  rw [hat]
  show (if b = 1 ∧ ¬ (x = 0 ∨ x = 1) then xm_no else xm_rt (some (.inl x))) = _
  rw [if_neg (fun h => h.2 (hx h.1))]
  rfl
/-- a switch from 0 on -/
theorem xr_ts {x : Int32} {df hi : Int} {offs : Array Int} {ln a b : Nat} {v : Int32} (hat : xt_at y pc = some (.tableswitch df 0 hi offs, ln, a, b, v)) (hd : x.toInt < 0 ∨ hi < x.toInt → xr_t (tm_I L xs) d y a ls r μ Q) (hc : ∀ j : Nat, (j : Int) ≤ hi → x = Int32.ofNat j → xr_t (tm_I L xs) d y ((pc : Int) + (offs.toList[j]?).getD 0).toNat ls r μ Q) : xr_t (tm_I L xs) d y pc ls (.inl x :: r) μ Q := by
  refine xr_nx (pc' := if x.toInt < 0 ∨ hi < x.toInt then a else ((pc : Int) + (offs.toList[(x.toInt - 0).toNat]?).getD 0).toNat) (ls' := ls) (st' := r) (s' := μ) ?_ ?_
  · unfold xm_st
    rw [hat]
    rfl
  · by_cases h : x.toInt < 0 ∨ hi < x.toInt
    · rw [if_pos h]
      exact hd h
    · rw [if_neg h]
      have h1 : ((x.toInt - 0).toNat : Int) = x.toInt := by omega
      refine hc (x.toInt - 0).toNat (by omega) ?_
      have h2 : (x.toInt - 0).toNat = x.toNatClampNeg := by show _ = x.toInt.toNat; rw [Int.sub_zero]
      rw [h2]
      apply Int32.toInt_inj.mp
      rw [nI_toInt' x (by omega)]
theorem xr_in2 {d : Nat} {as : xm_S tm_R} (ls : xm_L tm_R) (h1 : (decide (xt_gc y = 0) && decide (xt_gs y = 0)) = true) (h2 : xm_in y as = ls) (k : xr_t (tm_I L xs) d y 0 ls [] μ Q) : xm_MW (tm_I L xs) (d + 1) y as μ Q := by
  subst h2
  exact xr_in h1 k
end XT
