/-! Runs of the X machine: monotone, with a witness, row by row. -/
section XR
variable {σ R : Type} {I : xm_I σ R}
def xr_mo (C : Nat → xm_S R → σ → (Option (xm_V R) → σ → Prop) → Prop) : Prop := ∀ y as s (Q Q' : Option (xm_V R) → σ → Prop), (∀ v t, Q v t → Q' v t) → C y as s Q → C y as s Q'
def xr_wi (C : Nat → xm_S R → σ → (Option (xm_V R) → σ → Prop) → Prop) : Prop := ∀ y as s (Q : Option (xm_V R) → σ → Prop), C y as s Q → ∃ v t, Q v t ∧ C y as s (fun v' t' => v' = v ∧ t' = t)
theorem xr_lp_mo {C : Nat → xm_S R → σ → (Option (xm_V R) → σ → Prop) → Prop} (hC : xr_mo C) {y : Nat} : ∀ (n mc ms pc : Nat) (ls : xm_L R) (st : xm_S R) (s : σ) (Q Q' : Option (xm_V R) → σ → Prop), (∀ v t, Q v t → Q' v t) → xm_lp I C y xm_F n mc ms pc ls st s Q → xm_lp I C y xm_F n mc ms pc ls st s Q' := by
  intro n
  induction n with
  | zero => intro mc ms pc ls st s Q Q' _ h; exact h.elim
  | succ n ih =>
    intro mc ms pc ls st s Q Q' hQ h
    unfold xm_lp at h ⊢
    split at h
    · exact ⟨h.1, h.2.1, ih _ _ _ _ _ _ _ _ hQ h.2.2⟩
    · exact hQ _ _ h
    · exact ⟨h.1, h.2.1, h.2.2.1, h.2.2.2.1, h.2.2.2.2.1, hC _ _ _ _ _ (fun v t hh => ih _ _ _ _ _ _ _ _ hQ hh) h.2.2.2.2.2⟩
    · exact h.elim
theorem xr_lp_fu {C : Nat → xm_S R → σ → (Option (xm_V R) → σ → Prop) → Prop} (hC : xr_mo C) {y : Nat} : ∀ (n mc ms pc : Nat) (ls : xm_L R) (st : xm_S R) (s : σ) (Q : Option (xm_V R) → σ → Prop), xm_lp I C y xm_F n mc ms pc ls st s Q → xm_lp I C y xm_F (n + 1) mc ms pc ls st s Q := by
  intro n
  induction n with
  | zero => intro mc ms pc ls st s Q h; exact h.elim
  | succ n ih =>
    intro mc ms pc ls st s Q h
    unfold xm_lp at h ⊢
    split at h
    · exact ⟨h.1, h.2.1, ih _ _ _ _ _ _ _ h.2.2⟩
    · exact h
    · exact ⟨h.1, h.2.1, h.2.2.1, h.2.2.2.1, h.2.2.2.2.1, hC _ _ _ _ _ (fun v t hh => ih _ _ _ _ _ _ _ hh) h.2.2.2.2.2⟩
    · exact h.elim
theorem xr_lp_wi {C : Nat → xm_S R → σ → (Option (xm_V R) → σ → Prop) → Prop} (hC : xr_mo C) (hW : xr_wi C) {y : Nat} : ∀ (n mc ms pc : Nat) (ls : xm_L R) (st : xm_S R) (s : σ) (Q : Option (xm_V R) → σ → Prop), xm_lp I C y xm_F n mc ms pc ls st s Q → ∃ v t, Q v t ∧ xm_lp I C y xm_F n mc ms pc ls st s (fun v' t' => v' = v ∧ t' = t) := by
  intro n
  induction n with
  | zero => intro mc ms pc ls st s Q h; exact h.elim
  | succ n ih =>
    intro mc ms pc ls st s Q h
    unfold xm_lp at h
    split at h
    · rename_i q hst
      obtain ⟨v, t, hQ, h3⟩ := ih _ _ _ _ _ _ _ h.2.2
      refine ⟨v, t, hQ, ?_⟩
      unfold xm_lp
      rw [hst]
      exact ⟨h.1, h.2.1, h3⟩
    · rename_i v hst
      refine ⟨v, s, h, ?_⟩
      unfold xm_lp
      rw [hst]
      exact ⟨rfl, rfl⟩
    · rename_i q hst
      obtain ⟨v1, t1, h1, h2⟩ := hW _ _ _ _ h.2.2.2.2.2
      obtain ⟨v, t, hQ, h3⟩ := ih _ _ _ _ _ _ _ h1
      refine ⟨v, t, hQ, ?_⟩
      unfold xm_lp
      rw [hst]
      refine ⟨h.1, h.2.1, h.2.2.1, h.2.2.2.1, h.2.2.2.2.1, hC _ _ _ _ _ (fun v' t' hh => ?_) h2⟩
      obtain ⟨rfl, rfl⟩ := hh
      exact h3
    · exact h.elim
theorem xr_MW_mo : ∀ d, xr_mo (xm_MW I d) := by
  intro d
  induction d with
  | zero => intro y as s Q Q' _ h; exact h.elim
  | succ d ih =>
    intro y as s Q Q' hQ h
    obtain ⟨n, hn⟩ := h
    exact ⟨n, xr_lp_mo ih _ _ _ _ _ _ _ _ _ hQ hn⟩
theorem xr_MW_wi : ∀ d, xr_wi (xm_MW I d) := by
  intro d
  induction d with
  | zero => intro y as s Q h; exact h.elim
  | succ d ih =>
    intro y as s Q h
    obtain ⟨n, hn⟩ := h
    obtain ⟨v, t, hQ, h2⟩ := xr_lp_wi (xr_MW_mo d) ih _ _ _ _ _ _ _ _ hn
    exact ⟨v, t, hQ, n, h2⟩
/-- the depth may be greater -/
theorem xr_lp_C {C C' : Nat → xm_S R → σ → (Option (xm_V R) → σ → Prop) → Prop} (hC' : xr_mo C') (h : ∀ y as s Q, C y as s Q → C' y as s Q) {y : Nat} : ∀ (n mc ms pc : Nat) (ls : xm_L R) (st : xm_S R) (s : σ) (Q : Option (xm_V R) → σ → Prop), xm_lp I C y xm_F n mc ms pc ls st s Q → xm_lp I C' y xm_F n mc ms pc ls st s Q := by
  intro n
  induction n with
  | zero => intro mc ms pc ls st s Q h; exact h.elim
  | succ n ih =>
    intro mc ms pc ls st s Q hh
    unfold xm_lp at hh ⊢
    split at hh
    · exact ⟨hh.1, hh.2.1, ih _ _ _ _ _ _ _ hh.2.2⟩
    · exact hh
    · exact ⟨hh.1, hh.2.1, hh.2.2.1, hh.2.2.2.1, hh.2.2.2.2.1, hC' _ _ _ _ _ (fun v t h3 => ih _ _ _ _ _ _ _ h3) (h _ _ _ _ hh.2.2.2.2.2)⟩
    · exact hh.elim
theorem xr_MW_d : ∀ (d y : Nat) (as : xm_S R) (s : σ) (Q : Option (xm_V R) → σ → Prop), xm_MW I d y as s Q → xm_MW I (d + 1) y as s Q := by
  intro d
  induction d with
  | zero => intro y as s Q h; exact h.elim
  | succ d ih =>
    intro y as s Q h
    obtain ⟨n, hn⟩ := h
    exact ⟨n, xr_lp_C (xr_MW_mo _) ih _ _ _ _ _ _ _ _ hn⟩
theorem xr_MW_le {d d' y : Nat} {as : xm_S R} {s : σ} {Q : Option (xm_V R) → σ → Prop} (hd : d ≤ d') (h : xm_MW I d y as s Q) : xm_MW I d' y as s Q := by
  induction hd with
  | refl => exact h
  | step _ ih => exact xr_MW_d _ _ _ _ _ ih
/-- a run with no new cells -/
def xr_t (I : xm_I σ R) (d y pc : Nat) (ls : xm_L R) (st : xm_S R) (s : σ) (Q : Option (xm_V R) → σ → Prop) : Prop := ∃ n, xm_lp I (xm_MW I d) y xm_F n 0 0 pc ls st s Q
variable {d y pc : Nat} {ls : xm_L R} {st : xm_S R} {s : σ} {Q : Option (xm_V R) → σ → Prop}
theorem xr_nx {pc' : Nat} {ls' : xm_L R} {st' : xm_S R} {s' : σ} (h : xm_st I y pc ls st s = .inl (pc', ls', st', s', 0, 0)) (k : xr_t I d y pc' ls' st' s' Q) : xr_t I d y pc ls st s Q := by
  obtain ⟨n, hn⟩ := k
  refine ⟨n + 1, ?_⟩
  unfold xm_lp
  rw [h]
  exact ⟨Nat.le_refl _, Nat.le_refl _, hn⟩
theorem xr_rt {v : Option (xm_V R)} (h : xm_st I y pc ls st s = .inr (.inl v)) (k : Q v s) : xr_t I d y pc ls st s Q := by
  refine ⟨1, ?_⟩
  unfold xm_lp
  rw [h]
  exact k
theorem xr_cl {y' : Nat} {as r : xm_S R} (h : xm_st I y pc ls st s = .inr (.inr (.inl (y', as, r)))) (h1 : (decide (y' < xt_N) && decide (xt_gc y' = 0) && decide (xt_gs y' = 0) && decide (r.length ≤ 8) && decide (as.length ≤ xt_ml y')) = true) (k : xm_MW I d y' as s (fun v t => xr_t I d y (pc + 3) ls (v.toList ++ r) t Q)) : xr_t I d y pc ls st s Q := by
  simp only [Bool.and_eq_true, decide_eq_true_eq] at h1
  obtain ⟨⟨⟨⟨h1, h2⟩, h3⟩, h4⟩, h5⟩ := h1
  obtain ⟨v, t, ⟨n, hn⟩, hw⟩ := xr_MW_wi _ _ _ _ _ k
  refine ⟨n + 1, ?_⟩
  unfold xm_lp
  rw [h]
  refine ⟨h1, by show xt_gc y' ≤ 0; omega, by show xt_gs y' ≤ 0; omega, h4, h5, xr_MW_mo _ _ _ _ _ _ (fun v' t' hh => ?_) hw⟩
  obtain ⟨rfl, rfl⟩ := hh
  show xm_lp I _ y xm_F n (0 - xt_gc y') (0 - xt_gs y') _ _ _ _ _
  rw [h2, h3]
  exact hn
theorem xr_in {as : xm_S R} (h1 : (decide (xt_gc y = 0) && decide (xt_gs y = 0)) = true) (k : xr_t I d y 0 (xm_in y as) [] s Q) : xm_MW I (d + 1) y as s Q := by
  simp only [Bool.and_eq_true, decide_eq_true_eq] at h1
  obtain ⟨n, hn⟩ := k
  refine ⟨n, ?_⟩
  rw [h1.1, h1.2]
  exact hn
/-- n steps at once -/
def xr_ad (I : xm_I σ R) (y : Nat) : Nat → Nat → xm_L R → xm_S R → σ → Option (Nat × xm_L R × xm_S R × σ)
  | 0, pc, ls, st, s => some (pc, ls, st, s)
  | n + 1, pc, ls, st, s => match xm_st I y pc ls st s with
    | .inl (pc', ls', st', s', 0, 0) => xr_ad I y n pc' ls' st' s'
    | _ => none
theorem xr_go (n : Nat) {pc' : Nat} {ls' : xm_L R} {st' : xm_S R} {s' : σ} (h : xr_ad I y n pc ls st s = some (pc', ls', st', s')) (k : xr_t I d y pc' ls' st' s' Q) : xr_t I d y pc ls st s Q := by
  induction n generalizing pc ls st s with
  | zero =>
    cases h
    exact k
  | succ n ih =>
    unfold xr_ad at h
    split at h
    · rename_i hst
      exact xr_nx hst (ih h)
    · cases h
theorem xr_br (n : Nat) {c : Prop} (hc : Decidable c) {a b : Nat} {ls' : xm_L R} {st' : xm_S R} {s' : σ} (h : xr_ad I y n pc ls st s = some (if c then a else b, ls', st', s')) (kt : c → xr_t I d y a ls' st' s' Q) (kf : ¬ c → xr_t I d y b ls' st' s' Q) : xr_t I d y pc ls st s Q := by
  refine xr_go n h ?_
  by_cases hh : c
  · rw [if_pos hh]; exact kt hh
  · rw [if_neg hh]; exact kf hh
end XR
