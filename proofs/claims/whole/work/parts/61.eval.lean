/-! Runs by evaluation (for the constructors). -/
section XV
variable {σ R : Type} {I : xm_I σ R}
def xe_lp (I : xm_I σ R) (C : Nat → xm_S R → σ → Option (Option (xm_V R) × σ)) (y : Nat) : Nat → Nat → Nat → Nat → xm_L R → xm_S R → σ → Option (Option (xm_V R) × σ)
  | 0, _, _, _, _, _, _ => none
  | n + 1, mc, ms, pc, ls, st, s => match xm_st I y pc ls st s with
    | .inl (pc', ls', st', s', a, b) => if a ≤ mc ∧ b ≤ ms then xe_lp I C y n (mc - a) (ms - b) pc' ls' st' s' else none
    | .inr (.inl v) => some (v, s)
    | .inr (.inr (.inl (y', as, r))) => if y' < xt_N ∧ xt_gc y' ≤ mc ∧ xt_gs y' ≤ ms ∧ r.length ≤ 8 ∧ as.length ≤ xt_ml y' then
        match C y' as s with
        | some (v, t) => xe_lp I C y n (mc - xt_gc y') (ms - xt_gs y') (pc + 3) ls (v.toList ++ r) t
        | none => none
      else none
    | .inr (.inr (.inr _)) => none
def xe_M (I : xm_I σ R) (F : Nat) : Nat → Nat → xm_S R → σ → Option (Option (xm_V R) × σ)
  | 0, _, _, _ => none
  | d + 1, y, as, s => xe_lp I (xe_M I F d) y F (xt_gc y) (xt_gs y) 0 (xm_in y as) [] s
theorem xe_lp_ok {C : Nat → xm_S R → σ → Option (Option (xm_V R) × σ)} {C' : Nat → xm_S R → σ → (Option (xm_V R) → σ → Prop) → Prop} (hC' : xr_mo C') (h : ∀ y as s v t, C y as s = some (v, t) → C' y as s (fun v' t' => v' = v ∧ t' = t)) {y : Nat} : ∀ (n mc ms pc : Nat) (ls : xm_L R) (st : xm_S R) (s : σ) (v : Option (xm_V R)) (t : σ), xe_lp I C y n mc ms pc ls st s = some (v, t) → xm_lp I C' y xm_F n mc ms pc ls st s (fun v' t' => v' = v ∧ t' = t) := by
  intro n
  induction n with
  | zero => intro mc ms pc ls st s v t h; cases h
  | succ n ih =>
    intro mc ms pc ls st s v t hh
    unfold xe_lp at hh
    unfold xm_lp
    split at hh
    · rename_i hst
      rw [hst]
      split at hh
      · rename_i hc
        exact ⟨hc.1, hc.2, ih _ _ _ _ _ _ _ _ hh⟩
      · cases hh
    · rename_i hst
      rw [hst]
      cases hh
      exact ⟨rfl, rfl⟩
    · rename_i hst
      rw [hst]
      split at hh
      · rename_i hc
        split at hh
        · rename_i v1 t1 h1
          refine ⟨hc.1, hc.2.1, hc.2.2.1, hc.2.2.2.1, hc.2.2.2.2, hC' _ _ _ _ _ (fun v' t' h2 => ?_) (h _ _ _ _ _ h1)⟩
          obtain ⟨rfl, rfl⟩ := h2
          exact ih _ _ _ _ _ _ _ _ hh
        · cases hh
      · cases hh
    · cases hh
theorem xe_M_ok {F : Nat} : ∀ (d y : Nat) (as : xm_S R) (s : σ) (v : Option (xm_V R)) (t : σ), xe_M I F d y as s = some (v, t) → xm_MW I d y as s (fun v' t' => v' = v ∧ t' = t) := by
  intro d
  induction d with
  | zero => intro y as s v t h; cases h
  | succ d ih =>
    intro y as s v t h
    exact ⟨F, xe_lp_ok (xr_MW_mo d) ih _ _ _ _ _ _ _ _ _ h⟩
end XV
