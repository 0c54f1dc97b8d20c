/-! Arrays at a place that is a number. -/
section XLI
variable {L : Nat} {xs : Nat → Int32} {d y pc : Nat} {ls : xm_L tm_R} {r : xm_S tm_R} {μ : tm_M} {Q : Option (xm_V tm_R) → tm_M → Prop}
theorem tm_ixl {j n : Nat} (h : j < n) (hn : n ≤ 10000) : tm_ix (Int32.ofNat j) n = true := by
  unfold tm_ix
  have := vp_in_nI h (show n < 2 ^ 31 by omega)
  unfold vp_in nI at this
  simpa using this
theorem xr_iall {k i n : Nat} (j : Nat) {x : Int32} (hat : xt_at y pc = some (.iaload, 1, 0, 0, 0)) (hk : (decide (k ≠ 99) && decide (tk_so k = 1) && decide (tk_a k = 0) && decide (tk_n k = n) && decide (j < n) && decide (n ≤ 10000)) = true) (hx : μ k i j = x) (kk : xr_t (tm_I L xs) d y (pc + 1) ls (.inl x :: r) μ Q) : xr_t (tm_I L xs) d y pc ls (.inl (Int32.ofNat j) :: .inr (some (k, i)) :: r) μ Q := by
  simp only [Bool.and_eq_true, decide_eq_true_eq] at hk
  obtain ⟨⟨⟨⟨⟨h1, h2⟩, h3⟩, h4⟩, h5⟩, h6⟩ := hk
  refine xr_ial (n := n) hat (by simp [h1, h2, h3, h4]) (tm_ixl h5 h6) ?_
  rw [show (Int32.ofNat j).toNatClampNeg = j from nI_clamp (by omega), hx]
  exact kk
theorem xr_iasl {k i n : Nat} (j : Nat) {x : Int32} (hat : xt_at y pc = some (.iastore, 1, 0, 0, 0)) (hk : (decide (tk_so k = 1) && decide (tk_a k = 0) && decide (tk_n k = n) && decide (j < n) && decide (n ≤ 10000)) = true) (kk : xr_t (tm_I L xs) d y (pc + 1) ls r (tm_wr μ k i j x) Q) : xr_t (tm_I L xs) d y pc ls (.inl x :: .inl (Int32.ofNat j) :: .inr (some (k, i)) :: r) μ Q := by
  simp only [Bool.and_eq_true, decide_eq_true_eq] at hk
  obtain ⟨⟨⟨⟨h2, h3⟩, h4⟩, h5⟩, h6⟩ := hk
  refine xr_ias (n := n) hat (by simp [h2, h3, h4]) (tm_ixl h5 h6) ?_
  rw [show (Int32.ofNat j).toNatClampNeg = j from nI_clamp (by omega)]
  exact kk
end XLI
