/-! Copying of ints between arrays of the typed memory. -/
section XA
variable {L : Nat} {xs : Nat → Int32} {d y pc : Nat} {ls : xm_L tm_R} {r : xm_S tm_R} {μ : tm_M} {Q : Option (xm_V tm_R) → tm_M → Prop}
def tc_ok (n0 n1 : Nat) (sp dp n : Int32) : Prop := ¬ sp < 0 ∧ ¬ dp < 0 ∧ ¬ n < 0 ∧ sp.toNatClampNeg + n.toNatClampNeg ≤ n0 ∧ dp.toNatClampNeg + n.toNatClampNeg ≤ n1
theorem xr_acp {k i k2 i2 n0 n1 b ix : Nat} {sp dp n v : Int32} (hat : xt_at y pc = some (.invokestatic ix, 3, 4, b, v)) (hk : (decide (tk_so k = 1) && decide (tk_so k2 = 1) && decide (tk_a k = 0) && decide (tk_a k2 = 0) && decide (tk_n k = n0) && decide (tk_n k2 = n1) && decide (r.length ≤ 8)) = true) (hc : tc_ok n0 n1 sp dp n) (kk : xr_t (tm_I L xs) d y (pc + 3) ls r (tm_cb μ k i k2 i2 sp.toNatClampNeg dp.toNatClampNeg n.toNatClampNeg) Q) : xr_t (tm_I L xs) d y pc ls (.inl n :: .inl dp :: .inr (some (k2, i2)) :: .inl sp :: .inr (some (k, i)) :: r) μ Q := by
  simp only [Bool.and_eq_true, decide_eq_true_eq] at hk
  obtain ⟨⟨⟨⟨⟨⟨h1, h2⟩, h3⟩, h4⟩, rfl⟩, rfl⟩, h5⟩ := hk
  obtain ⟨g1, g2, g3, g4, g5⟩ := hc
  refine xr_nx ?_ kk
  have h : xm_cp (tm_I L xs) μ (k, i) sp (k2, i2) dp n = some (tm_cb μ k i k2 i2 sp.toNatClampNeg dp.toNatClampNeg n.toNatClampNeg) := by
    show tm_cp μ (k, i) sp (k2, i2) dp n = _
    unfold tm_cp
    rw [if_pos ⟨h1, h2, h3, h4, g1, g2, g3, g4, g5⟩]
  unfold xm_st
  rw [hat]
  show (if r.length ≤ 8 then xm_o (xm_cp (tm_I L xs) μ (k, i) sp (k2, i2) dp n) _ else xm_no) = _
  rw [if_pos h5, h]
  rfl
end XA
