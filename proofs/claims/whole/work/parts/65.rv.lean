/-! Reads with the value named. -/
section XRV
variable {L : Nat} {xs : Nat → Int32} {d y pc : Nat} {ls : xm_L tm_R} {r : xm_S tm_R} {μ : tm_M} {Q : Option (xm_V tm_R) → tm_M → Prop}
theorem xr_gfv {k i p ci ix : Nat} {x v : Int32} (hat : xt_at y pc = some (.getfield ix, 3, ci, p, v)) (hk : (decide (tk_so k = 0) && decide (tk_a k = ci) && decide (p < tk_f k) && decide (tk_sp k p = (0, 0, 0))) = true) (hx : μ k i p = x) (kk : xr_t (tm_I L xs) d y (pc + 3) ls (.inl x :: r) μ Q) : xr_t (tm_I L xs) d y pc ls (.inr (some (k, i)) :: r) μ Q := by
  simp only [Bool.and_eq_true, decide_eq_true_eq] at hk
  obtain ⟨⟨⟨h1, h2⟩, h3⟩, h4⟩ := hk
  refine xr_nx ?_ kk
  have h : xm_gf (tm_I L xs) μ (k, i) ci p = some (.inl x) := by
    show tm_gf μ (k, i) ci p = _
    unfold tm_gf
    rw [if_pos ⟨h1, h2, h3⟩]
    unfold tm_sv
    show some (match tk_sp k p with
      | (0, _, _) => Sum.inl (μ k i p)
      | _ => Sum.inr (tm_rf μ k i p)) = _
    rw [h4]
    show some (Sum.inl (μ k i p)) = _
    rw [hx]
  unfold xm_st
  rw [hat]
  show xm_o (xm_gf (tm_I L xs) μ (k, i) ci p) _ = _
  rw [h]
  rfl
theorem xr_ialv {k i n : Nat} {j x : Int32} (hat : xt_at y pc = some (.iaload, 1, 0, 0, 0)) (hk : (decide (k ≠ 99) && decide (tk_so k = 1) && decide (tk_a k = 0) && decide (tk_n k = n)) = true) (hi : tm_ix j n = true) (hx : μ k i j.toNatClampNeg = x) (kk : xr_t (tm_I L xs) d y (pc + 1) ls (.inl x :: r) μ Q) : xr_t (tm_I L xs) d y pc ls (.inl j :: .inr (some (k, i)) :: r) μ Q :=
  xr_ial hat hk hi (by rw [hx]; exact kk)
theorem xr_balv {k i n : Nat} {j x : Int32} (hat : xt_at y pc = some (.baload, 1, 0, 0, 0)) (hk : (decide (k ≠ 99) && decide (tk_so k = 1) && decide (tk_a k = 1) && decide (tk_n k = n)) = true) (hi : tm_ix j n = true) (hx : μ k i j.toNatClampNeg = x) (kk : xr_t (tm_I L xs) d y (pc + 1) ls (.inl x :: r) μ Q) : xr_t (tm_I L xs) d y pc ls (.inl j :: .inr (some (k, i)) :: r) μ Q :=
  xr_bal hat hk hi (by rw [hx]; exact kk)
end XRV
