/-! Runs with new cells (for the constructors). -/
section XQ
variable {σ R : Type} {I : xm_I σ R}
def xq_t (I : xm_I σ R) (d y mc ms pc : Nat) (ls : xm_L R) (st : xm_S R) (s : σ) (Q : Option (xm_V R) → σ → Prop) : Prop := ∃ n, xm_lp I (xm_MW I d) y xm_F n mc ms pc ls st s Q
variable {d y mc ms pc : Nat} {ls : xm_L R} {st : xm_S R} {s : σ} {Q : Option (xm_V R) → σ → Prop}
theorem xq_nx {pc' a b : Nat} {ls' : xm_L R} {st' : xm_S R} {s' : σ} (h : xm_st I y pc ls st s = .inl (pc', ls', st', s', a, b)) (ha : a ≤ mc) (hb : b ≤ ms) (k : xq_t I d y (mc - a) (ms - b) pc' ls' st' s' Q) : xq_t I d y mc ms pc ls st s Q := by
  obtain ⟨n, hn⟩ := k
  refine ⟨n + 1, ?_⟩
  unfold xm_lp
  rw [h]
  exact ⟨ha, hb, hn⟩
theorem xq_rt {v : Option (xm_V R)} (h : xm_st I y pc ls st s = .inr (.inl v)) (k : Q v s) : xq_t I d y mc ms pc ls st s Q := by
  refine ⟨1, ?_⟩
  unfold xm_lp
  rw [h]
  exact k
theorem xq_cl {y' : Nat} {as r : xm_S R} (h : xm_st I y pc ls st s = .inr (.inr (.inl (y', as, r)))) (h1 : (decide (y' < xt_N) && decide (xt_gc y' ≤ mc) && decide (xt_gs y' ≤ ms) && decide (r.length ≤ 8) && decide (as.length ≤ xt_ml y')) = true) (k : xm_MW I d y' as s (fun v t => xq_t I d y (mc - xt_gc y') (ms - xt_gs y') (pc + 3) ls (v.toList ++ r) t Q)) : xq_t I d y mc ms pc ls st s Q := by
  simp only [Bool.and_eq_true, decide_eq_true_eq] at h1
  obtain ⟨⟨⟨⟨h1, h2⟩, h3⟩, h4⟩, h5⟩ := h1
  obtain ⟨v, t, ⟨n, hn⟩, hw⟩ := xr_MW_wi _ _ _ _ _ k
  refine ⟨n + 1, ?_⟩
  unfold xm_lp
  rw [h]
  refine ⟨h1, h2, h3, h4, h5, xr_MW_mo _ _ _ _ _ _ (fun v' t' hh => ?_) hw⟩
  obtain ⟨rfl, rfl⟩ := hh
  exact hn
theorem xq_in {as : xm_S R} (ls : xm_L R) (h2 : xm_in y as = ls) (k : xq_t I d y (xt_gc y) (xt_gs y) 0 ls [] s Q) : xm_MW I (d + 1) y as s Q := by
  subst h2
  exact k
/-- n steps at once, with what is left of cells and slots -/
def xq_ad (I : xm_I σ R) (y : Nat) : Nat → Nat → Nat → Nat → xm_L R → xm_S R → σ → Option (Nat × Nat × Nat × xm_L R × xm_S R × σ)
  | 0, mc, ms, pc, ls, st, s => some (mc, ms, pc, ls, st, s)
  | n + 1, mc, ms, pc, ls, st, s => match xm_st I y pc ls st s with
    | .inl (pc', ls', st', s', a, b) => if a ≤ mc ∧ b ≤ ms then xq_ad I y n (mc - a) (ms - b) pc' ls' st' s' else none
    | _ => none
theorem xq_go (n : Nat) {mc' ms' pc' : Nat} {ls' : xm_L R} {st' : xm_S R} {s' : σ} (h : xq_ad I y n mc ms pc ls st s = some (mc', ms', pc', ls', st', s')) (k : xq_t I d y mc' ms' pc' ls' st' s' Q) : xq_t I d y mc ms pc ls st s Q := by
  induction n generalizing mc ms pc ls st s with
  | zero =>
    cases h
    exact k
  | succ n ih =>
    unfold xq_ad at h
    split at h
    · rename_i hst
      split at h
      · rename_i hc
        exact xq_nx hst hc.1 hc.2 (ih h)
      · cases h
    · cases h
end XQ
