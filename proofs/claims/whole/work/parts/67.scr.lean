/-! The script's ints. -/
section XSC
variable {L : Nat} {xs : Nat → Int32} {d y pc : Nat} {ls : xm_L tm_R} {r : xm_S tm_R} {μ : tm_M} {Q : Option (xm_V tm_R) → tm_M → Prop}
theorem xr_scr {j : Int32} (hat : xt_at y pc = some (.iaload, 1, 0, 0, 0)) (hi : tm_ix j L = true) (kk : xr_t (tm_I L xs) d y (pc + 1) ls (.inl (xs j.toNatClampNeg) :: r) μ Q) : xr_t (tm_I L xs) d y pc ls (.inl j :: .inr (some (99, 0)) :: r) μ Q := by
  refine xr_nx ?_ kk
  have h : xm_al (tm_I L xs) μ 0 (99, 0) j = some (xs j.toNatClampNeg) := by
    show tm_al L xs μ 0 (99, 0) j = _
    unfold tm_al
    rw [if_pos rfl, if_pos ⟨rfl, hi⟩]
  unfold xm_st
  rw [hat]
  show xm_o (xm_al (tm_I L xs) μ 0 (99, 0) j) _ = _
  rw [h]
  rfl
end XSC
