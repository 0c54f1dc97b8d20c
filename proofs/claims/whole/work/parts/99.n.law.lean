/-! The law's loop, over every script. -/
section LW
variable {q q' : Int32 × Nat} {t t' r r' w : Nat} {α β α' β' : tm_M}
theorem Rel_mem (h : Rel q t r w α β) (fa : ∀ k, k ≤ 35 → α' k = α k) (fb : ∀ k, 36 ≤ k → β' k = β k) : Rel q t r w α' β' := by
  obtain ⟨hQ, hG, hT, hW, hL, hF, hB, hJ, hTr, hS, hN⟩ := h
  refine ⟨?_, ?_, ?_, ?_, ?_, ?_, ?_, ?_, ?_, ?_, ?_⟩
  · unfold RQ at *
    rw [fa 4 (by decide), fa 2 (by decide)]; exact hQ
  · unfold RG at *
    rw [fa 1 (by decide), fb 36 (by decide)]; exact hG
  · rw [fb 36 (by decide)]; exact hT
  · exact RW_fr hW (fa _ (by decide)) (fa _ (by decide)) (fa _ (by decide)) (fa _ (by decide)) (by rw [fb 36 (by decide)]) (fb _ (by decide)) (fb _ (by decide)) (fb _ (by decide)) (fb _ (by decide)) (fb _ (by decide)) (fb _ (by decide)) (fb _ (by decide)) (fb _ (by decide)) (fb _ (by decide))
  · exact RL_fr hL (fa _ (by decide)) (fa _ (by decide)) (fa _ (by decide)) (fa _ (by decide)) (fa _ (by decide)) (fa _ (by decide)) (by rw [fb 36 (by decide)]) (fb _ (by decide)) (fb _ (by decide)) (fb _ (by decide)) (fb _ (by decide)) (fb _ (by decide))
  · exact RF_fr hF (fa _ (by decide)) (fa _ (by decide)) (fa _ (by decide)) (fa _ (by decide)) (fa _ (by decide)) (fa _ (by decide)) (by rw [fb 36 (by decide)]) (fb _ (by decide)) (fb _ (by decide)) (fb _ (by decide)) (fb _ (by decide)) (fb _ (by decide))
  · exact RB_fr hB (fa _ (by decide)) (fa _ (by decide)) (fa _ (by decide)) (fa _ (by decide)) (fa _ (by decide)) (by rw [fb 36 (by decide)]) (fb _ (by decide)) (fb _ (by decide)) (fb _ (by decide)) (fb _ (by decide)) (fb _ (by decide))
  · exact RJ_fr hJ (fa _ (by decide)) (fa _ (by decide)) (fa _ (by decide)) (fa _ (by decide)) (by rw [fb 36 (by decide)]) (fb _ (by decide)) (fb _ (by decide)) (fb _ (by decide))
  · intro j hj
    exact RT_fr (hTr j hj) (by rw [fa _ (by decide)]) (by rw [fb 36 (by decide)]) (by rw [fb 36 (by decide)]) (fb _ (by decide)) (by rw [fb _ (by decide)]) (by rw [fb _ (by decide)]) (by rw [fb _ (by decide)]) (by rw [fb _ (by decide)]) (by rw [fb _ (by decide)])
  · intro j hj
    exact RS_fr (hS j hj) (by rw [fa _ (by decide)]) (by rw [fa _ (by decide)]) (by rw [fa _ (by decide)]) (by rw [fb 36 (by decide)]) (by rw [fb 36 (by decide)]) (fb _ (by decide)) (fun k h1 h2 => by rw [fb k (by omega)]) (fun k _ => by rw [fb 83 (by decide)])
  · intro j hj hjw
    exact RN_fr (hN j hj hjw) (by rw [fa _ (by decide)]) (by rw [fb _ (by decide)]) (by rw [fb _ (by decide)])
theorem Rel_t (h : Rel q t r w α β) (ht : t < 100000) : Rel q (t + 1) r w α β := by
  obtain ⟨hQ, hG, hT, hR⟩ := h
  refine ⟨hQ, hG, ?_, hR⟩
  have : Int32.ofNat t ≤ Int32.ofNat (t + 1) := by rw [of_le (by omega) (by omega)]; omega
  grind
theorem nin_lo {l : List Nat} (hl : l.all (fun x => decide (x ≤ 35)) = true) {k : Nat} (hk : 36 ≤ k) : k ∉ l := fun h => by
  have := List.all_eq_true.mp hl k h
  simp at this
  omega
theorem nin_hi {l : List Nat} (hl : l.all (fun x => decide (36 ≤ x)) = true) {k : Nat} (hk : k ≤ 35) : k ∉ l := fun h => by
  have := List.all_eq_true.mp hl k h
  simp at this
  omega
theorem op0 (h : Rel q t r 6 α α) (ht : t < 100000) (a b c : Int32) : cv_1 a b c α = cv_125 a b c (cs_1 a b c α) ∧ ci_1 a b c α ∧ ci_125 a b c (cs_1 a b c α) ∧ ∃ q' r', Rel q' (t + 1) r' 6 (cs_125 a b c (cs_1 a b c α)) (cs_125 a b c (cs_1 a b c α)) := by
  have hP : Rel q t r 6 α (cs_1 a b c α) := Rel_mem h (fun _ _ => rfl) (fun k hk => fr_1 _ _ _ _ k (nin_lo (by decide) hk))
  obtain ⟨y1, y2, y3, y4⟩ := pool_ok hP a b c
  exact ⟨y1, y2, y3, q, r, Rel_t (Rel_mem y4 (fun k hk => fr_125 _ _ _ _ k (nin_hi (by decide) hk)) (fun _ _ => rfl)) ht⟩
theorem op1 (h : Rel q t r 6 α α) (ht : t < 100000) (a : Int32) : cv_2 a α = cv_126 a (cs_2 a α) ∧ ci_2 a α ∧ ci_126 a (cs_2 a α) ∧ ∃ q' r', Rel q' (t + 1) r' 6 (cs_126 a (cs_2 a α)) (cs_126 a (cs_2 a α)) := by
  have hP : Rel q t r 6 α (cs_2 a α) := Rel_mem h (fun _ _ => rfl) (fun k hk => fr_2 _ _ k (nin_lo (by decide) hk))
  obtain ⟨y1, y2, y3, y4⟩ := attach_ok hP a
  exact ⟨y1, y2, y3, q, r, Rel_t (Rel_mem y4 (fun k hk => fr_126 _ _ k (nin_hi (by decide) hk)) (fun _ _ => rfl)) ht⟩
theorem op2 (h : Rel q t r 6 α α) (ht : t < 100000) (a b : Int32) : cv_3 a b α = cv_127 a b (cs_3 a b α) ∧ ci_3 a b α ∧ ci_127 a b (cs_3 a b α) ∧ ∃ q' r', Rel q' (t + 1) r' 6 (cs_127 a b (cs_3 a b α)) (cs_127 a b (cs_3 a b α)) := by
  have hP : Rel q t r 6 α (cs_3 a b α) := Rel_mem h (fun _ _ => rfl) (fun k hk => fr_3 _ _ _ k (nin_lo (by decide) hk))
  obtain ⟨y1, y2, y3, y4⟩ := reserve_ok hP a b
  exact ⟨y1, y2, y3, q, r, Rel_t (Rel_mem y4 (fun k hk => fr_127 _ _ _ k (nin_hi (by decide) hk)) (fun _ _ => rfl)) ht⟩
theorem op3 (h : Rel q t r 6 α α) (ht : t < 100000) (a bb : Int32) : cv_4 a bb α = cv_128 a bb (cs_4 a bb α) ∧ ci_4 a bb α ∧ ci_128 a bb (cs_4 a bb α) ∧ ∃ q' r', Rel q' (t + 1) r' 6 (cs_128 a bb (cs_4 a bb α)) (cs_128 a bb (cs_4 a bb α)) := by
  have hP : Rel q t r 6 α (cs_4 a bb α) := Rel_mem h (fun _ _ => rfl) (fun k hk => fr_4 _ _ _ k (nin_lo (by decide) hk))
  obtain ⟨y1, y2, y3, y4⟩ := stranger_ok hP a bb
  exact ⟨y1, y2, y3, q, r, Rel_t (Rel_mem y4 (fun k hk => fr_128 _ _ _ k (nin_hi (by decide) hk)) (fun _ _ => rfl)) ht⟩
theorem op4 (h : Rel q t r 6 α α) (ht : t < 100000) (a b : Int32) : cv_5 a b α = cv_129 a b (cs_5 a b α) ∧ ci_5 a b α ∧ ci_129 a b (cs_5 a b α) ∧ ∃ q' r', Rel q' (t + 1) r' 6 (cs_129 a b (cs_5 a b α)) (cs_129 a b (cs_5 a b α)) := by
  have hP : Rel q t r 6 α (cs_5 a b α) := Rel_mem h (fun _ _ => rfl) (fun k hk => fr_5 _ _ _ k (nin_lo (by decide) hk))
  obtain ⟨y1, y2, y3, y4⟩ := put_ok hP a b
  exact ⟨y1, y2, y3, q, r, Rel_t (Rel_mem y4 (fun k hk => fr_129 _ _ _ k (nin_hi (by decide) hk)) (fun _ _ => rfl)) ht⟩
theorem op5 (h : Rel q t r 6 α α) (ht : t < 100000) (a b c : Int32) : cv_6 a b c α = cv_130 a b c (cs_6 a b c α) ∧ ci_6 a b c α ∧ ci_130 a b c (cs_6 a b c α) ∧ ∃ q' r', Rel q' (t + 1) r' 6 (cs_130 a b c (cs_6 a b c α)) (cs_130 a b c (cs_6 a b c α)) := by
  have hP : Rel q t r 6 α (cs_6 a b c α) := Rel_mem h (fun _ _ => rfl) (fun k hk => fr_6 _ _ _ _ k (nin_lo (by decide) hk))
  obtain ⟨y1, y2, y3, y4⟩ := entry_ok hP a b c
  exact ⟨y1, y2, y3, q, r, Rel_t (Rel_mem y4 (fun k hk => fr_130 _ _ _ _ k (nin_hi (by decide) hk)) (fun _ _ => rfl)) ht⟩
theorem op7 (h : Rel q t r 6 α α) (ht : t < 100000) (a : Int32) : cv_8 a α = cv_162 a (cs_8 a α) ∧ ci_8 a α ∧ ci_162 a (cs_8 a α) ∧ ∃ q' r', Rel q' (t + 1) r' 6 (cs_162 a (cs_8 a α)) (cs_162 a (cs_8 a α)) := by
  have hP : Rel q t r 6 α (cs_8 a α) := Rel_mem h (fun _ _ => rfl) (fun k hk => fr_8 _ _ k (nin_lo (by decide) hk))
  obtain ⟨y1, y2, y3, r', y4⟩ := boot_ok hP a
  exact ⟨y1, y2, y3, q, r', Rel_t (Rel_mem y4 (fun k hk => fr_162 _ _ k (nin_hi (by decide) hk)) (fun _ _ => rfl)) ht⟩
theorem op8 (h : Rel q t r 6 α α) (ht : t < 100000) (a : Int32) : cv_9 a α = cv_139 a (cs_9 a α) ∧ ci_9 a α ∧ ci_139 a (cs_9 a α) ∧ ∃ q' r', Rel q' (t + 1) r' 6 (cs_139 a (cs_9 a α)) (cs_139 a (cs_9 a α)) := by
  have hP : Rel q t r 6 α (cs_9 a α) := Rel_mem h (fun _ _ => rfl) (fun k hk => fr_9 _ _ k (nin_lo (by decide) hk))
  obtain ⟨y1, y2, y3, q', r', y4⟩ := deliver_ok hP a
  exact ⟨y1, y2, y3, q', r', Rel_t (Rel_mem y4 (fun k hk => fr_139 _ _ k (nin_hi (by decide) hk)) (fun _ _ => rfl)) ht⟩
theorem op9 (h : Rel q t r 6 α α) (ht : t < 100000) (a bb : Int32) : cv_10 a bb α = cv_138 a bb (cs_10 a bb α) ∧ ci_10 a bb α ∧ ci_138 a bb (cs_10 a bb α) ∧ ∃ q' r', Rel q' (t + 1) r' 6 (cs_138 a bb (cs_10 a bb α)) (cs_138 a bb (cs_10 a bb α)) := by
  have hP : Rel q t r 6 α (cs_10 a bb α) := Rel_mem h (fun _ _ => rfl) (fun k hk => fr_10 _ _ _ k (nin_lo (by decide) hk))
  obtain ⟨y1, y2, y3, q', r', y4⟩ := alter_ok hP a bb
  exact ⟨y1, y2, y3, q', r', Rel_t (Rel_mem y4 (fun k hk => fr_138 _ _ _ k (nin_hi (by decide) hk)) (fun _ _ => rfl)) ht⟩
theorem op10 (h : Rel q t r 6 α α) (ht : t < 100000) : cv_11 α = cv_171 (cs_11 α) ∧ ci_11 α ∧ ci_171 (cs_11 α) ∧ ∃ q' r', Rel q' (t + 1) r' 6 (cs_171 (cs_11 α)) (cs_171 (cs_11 α)) := by
  have hP : Rel q t r 6 α (cs_11 α) := Rel_mem h (fun _ _ => rfl) (fun k hk => fr_11 _ k (nin_lo (by decide) hk))
  obtain ⟨y1, y2, y3, r', y4⟩ := tick_ok hP ht
  exact ⟨y1, y2, y3, q, r', Rel_mem y4 (fun k hk => fr_171 _ k (nin_hi (by decide) hk)) (fun _ _ => rfl)⟩
theorem op11 (h : Rel q t r 6 α α) (ht : t < 100000) : cv_12 α = cv_153 (cs_12 α) ∧ ci_12 α ∧ ci_153 (cs_12 α) ∧ ∃ q' r', Rel q' (t + 1) r' 6 (cs_153 (cs_12 α)) (cs_153 (cs_12 α)) := by
  have hP : Rel q t r 6 α (cs_12 α) := Rel_mem h (fun _ _ => rfl) (fun k hk => fr_12 _ k (nin_lo (by decide) hk))
  obtain ⟨y1, y2, y3, y4⟩ := crash_ok hP
  exact ⟨y1, y2, y3, q, r, Rel_t (Rel_mem y4 (fun k hk => fr_153 _ k (nin_hi (by decide) hk)) (fun _ _ => rfl)) ht⟩
theorem x17 (x : Int32) : x = 0 ∨ x = 1 ∨ x = 2 ∨ x = 3 ∨ x = 4 ∨ x = 5 ∨ x = 6 ∨ x = 7 ∨ x = 8 ∨ x = 9 ∨ x = 10 ∨ x = 11 ∨ x = 12 ∨ x = 13 ∨ x = 14 ∨ x = 15 ∨ x = 16 ∨ x.toInt < 0 ∨ 16 < x.toInt := by
  simp only [tI_eq]
  have e0 : (0 : Int32).toInt = 0 := rfl
  have e1 : (1 : Int32).toInt = 1 := rfl
  have e2 : (2 : Int32).toInt = 2 := rfl
  have e3 : (3 : Int32).toInt = 3 := rfl
  have e4 : (4 : Int32).toInt = 4 := rfl
  have e5 : (5 : Int32).toInt = 5 := rfl
  have e6 : (6 : Int32).toInt = 6 := rfl
  have e7 : (7 : Int32).toInt = 7 := rfl
  have e8 : (8 : Int32).toInt = 8 := rfl
  have e9 : (9 : Int32).toInt = 9 := rfl
  have e10 : (10 : Int32).toInt = 10 := rfl
  have e11 : (11 : Int32).toInt = 11 := rfl
  have e12 : (12 : Int32).toInt = 12 := rfl
  have e13 : (13 : Int32).toInt = 13 := rfl
  have e14 : (14 : Int32).toInt = 14 := rfl
  have e15 : (15 : Int32).toInt = 15 := rfl
  have e16 : (16 : Int32).toInt = 16 := rfl
  omega
set_option maxHeartbeats 4000000 in
theorem law_st {L : Nat} {xs : Nat → Int32} {n : Nat} {l l' : Int32} {μ : tm_M} (h : Rel q t r 6 μ μ) (ht : t < 100000) (hc : ¬ Int32.ofNat L - 4 < l) (el : l + 4 = l') (i0 : tm_ix l L = true) (i1 : tm_ix (l + 1) L = true) (i2 : tm_ix (l + 2) L = true) (i3 : tm_ix (l + 3) L = true) (IH : ∀ q' r' B, Rel q' (t + 1) r' 6 B B → ci_176_48 L xs n l' B ∧ cv_176_48 L xs n l' B = 1) : ci_176_48 L xs (n + 1) l μ ∧ cv_176_48 L xs (n + 1) l μ = 1 := by
  have hS := IH _ _ _ (Rel_t h ht)
  rw [ci_176_48, cv_176_48, el]
  generalize hx : xs l.toNatClampNeg &&& 31 = x
  generalize xs (l + 1).toNatClampNeg = a
  generalize xs (l + 2).toNatClampNeg = b
  generalize xs (l + 3).toNatClampNeg = c
  generalize hbb : ((if b = 0 then 0 else 1) : Int32) = bb
  rcases x17 x with z | z | z | z | z | z | z | z | z | z | z | z | z | z | z | z | z | z | z
  · subst z
    obtain ⟨y1, y2, y3, q', r', y4⟩ := op0 h ht a b c
    obtain ⟨w1, w2⟩ := IH _ _ _ y4
    simp [hc, i0, i1, i2, i3, y1, y2, y3, w1, w2]
  · subst z
    obtain ⟨y1, y2, y3, q', r', y4⟩ := op1 h ht a
    obtain ⟨w1, w2⟩ := IH _ _ _ y4
    simp [hc, i0, i1, i2, i3, y1, y2, y3, w1, w2]
  · subst z
    obtain ⟨y1, y2, y3, q', r', y4⟩ := op2 h ht a b
    obtain ⟨w1, w2⟩ := IH _ _ _ y4
    simp [hc, i0, i1, i2, i3, y1, y2, y3, w1, w2]
  · subst z
    obtain ⟨y1, y2, y3, q', r', y4⟩ := op3 h ht a bb
    obtain ⟨w1, w2⟩ := IH _ _ _ y4
    simp [hc, i0, i1, i2, i3, y1, y2, y3, w1, w2]
  · subst z
    obtain ⟨y1, y2, y3, q', r', y4⟩ := op4 h ht a b
    obtain ⟨w1, w2⟩ := IH _ _ _ y4
    simp [hc, i0, i1, i2, i3, y1, y2, y3, w1, w2]
  · subst z
    obtain ⟨y1, y2, y3, q', r', y4⟩ := op5 h ht a b c
    obtain ⟨w1, w2⟩ := IH _ _ _ y4
    simp [hc, i0, i1, i2, i3, y1, y2, y3, w1, w2]
  · subst z
    obtain ⟨y1, y2, y3⟩ := check_ok h a
    obtain ⟨w1, w2⟩ := hS
    simp [hc, i0, i1, i2, i3, y1, y2, y3, w1, w2]
  · subst z
    obtain ⟨y1, y2, y3, q', r', y4⟩ := op7 h ht a
    obtain ⟨w1, w2⟩ := IH _ _ _ y4
    simp [hc, i0, i1, i2, i3, y1, y2, y3, w1, w2]
  · subst z
    obtain ⟨y1, y2, y3, q', r', y4⟩ := op8 h ht a
    obtain ⟨w1, w2⟩ := IH _ _ _ y4
    simp [hc, i0, i1, i2, i3, y1, y2, y3, w1, w2]
  · subst z
    obtain ⟨y1, y2, y3, q', r', y4⟩ := op9 h ht a bb
    obtain ⟨w1, w2⟩ := IH _ _ _ y4
    simp [hc, i0, i1, i2, i3, y1, y2, y3, w1, w2]
  · subst z
    obtain ⟨y1, y2, y3, q', r', y4⟩ := op10 h ht
    obtain ⟨w1, w2⟩ := IH _ _ _ y4
    simp [hc, i0, i1, i2, i3, y1, y2, y3, w1, w2]
  · subst z
    obtain ⟨y1, y2, y3, q', r', y4⟩ := op11 h ht
    obtain ⟨w1, w2⟩ := IH _ _ _ y4
    simp [hc, i0, i1, i2, i3, y1, y2, y3, w1, w2]
  · subst z
    obtain ⟨y1, y2, y3⟩ := message_ok h a b
    obtain ⟨w1, w2⟩ := hS
    simp [hc, i0, i1, i2, i3, y1, y2, y3, w1, w2]
  · subst z
    obtain ⟨y1, y2, y3⟩ := station_ok h a b
    obtain ⟨w1, w2⟩ := hS
    simp [hc, i0, i1, i2, i3, y1, y2, y3, w1, w2]
  · subst z
    obtain ⟨y1, y2, y3⟩ := image_ok h a b
    obtain ⟨w1, w2⟩ := hS
    simp [hc, i0, i1, i2, i3, y1, y2, y3, w1, w2]
  · subst z
    obtain ⟨y1, y2, y3⟩ := lease_eq h a b
    obtain ⟨w1, w2⟩ := hS
    simp [hc, i0, i1, i2, i3, y1, y2, y3, w1, w2]
  · subst z
    have y1 := journal_ok h
    obtain ⟨w1, w2⟩ := hS
    simp [hc, i0, i1, i2, i3, y1, w1, w2]
  all_goals
    have zz : x.toInt < 0 ∨ 16 < x.toInt := by
      first
        | exact Or.inl z
        | exact Or.inr z
    obtain ⟨w1, w2⟩ := hS
    have n0 : ¬ x = 0 := by
      intro hq; rw [hq] at zz; exact absurd zz (by decide)
    have n1 : ¬ x = 1 := by
      intro hq; rw [hq] at zz; exact absurd zz (by decide)
    have n2 : ¬ x = 2 := by
      intro hq; rw [hq] at zz; exact absurd zz (by decide)
    have n3 : ¬ x = 3 := by
      intro hq; rw [hq] at zz; exact absurd zz (by decide)
    have n4 : ¬ x = 4 := by
      intro hq; rw [hq] at zz; exact absurd zz (by decide)
    have n5 : ¬ x = 5 := by
      intro hq; rw [hq] at zz; exact absurd zz (by decide)
    have n6 : ¬ x = 6 := by
      intro hq; rw [hq] at zz; exact absurd zz (by decide)
    have n7 : ¬ x = 7 := by
      intro hq; rw [hq] at zz; exact absurd zz (by decide)
    have n8 : ¬ x = 8 := by
      intro hq; rw [hq] at zz; exact absurd zz (by decide)
    have n9 : ¬ x = 9 := by
      intro hq; rw [hq] at zz; exact absurd zz (by decide)
    have n10 : ¬ x = 10 := by
      intro hq; rw [hq] at zz; exact absurd zz (by decide)
    have n11 : ¬ x = 11 := by
      intro hq; rw [hq] at zz; exact absurd zz (by decide)
    have n12 : ¬ x = 12 := by
      intro hq; rw [hq] at zz; exact absurd zz (by decide)
    have n13 : ¬ x = 13 := by
      intro hq; rw [hq] at zz; exact absurd zz (by decide)
    have n14 : ¬ x = 14 := by
      intro hq; rw [hq] at zz; exact absurd zz (by decide)
    have n15 : ¬ x = 15 := by
      intro hq; rw [hq] at zz; exact absurd zz (by decide)
    have n16 : ¬ x = 16 := by
      intro hq; rw [hq] at zz; exact absurd zz (by decide)
    simp [hc, i0, i1, i2, i3, w1, w2, n0, n1, n2, n3, n4, n5, n6, n7, n8, n9, n10, n11, n12, n13, n14, n15, n16]
theorem law_lp {L : Nat} (hL : L ≤ 2051) {xs : Nat → Int32} (d : Nat) : ∀ (n c r : Nat) (q : Int32 × Nat) (μ : tm_M), d < n → L < 7 + 4 * (c + d) → c ≤ 600 → Rel q c r 6 μ μ → ci_176_48 L xs n (Int32.ofNat (3 + 4 * c)) μ ∧ cv_176_48 L xs n (Int32.ofNat (3 + 4 * c)) μ = 1 := by
  have e4 : (4 : Int32).toInt = 4 := rfl
  have hlt : ∀ c, c ≤ 600 → (Int32.ofNat L - 4 < Int32.ofNat (3 + 4 * c) ↔ L < 7 + 4 * c) := by
    intro c hc
    rw [tI_lt, tI_sub (by rw [tI_of (by omega), e4]; omega) (by rw [tI_of (by omega), e4]; omega), tI_of (by omega), tI_of (by omega), e4]
    omega
  have done : ∀ n c μ, c ≤ 600 → L < 7 + 4 * c → ci_176_48 L xs (n + 1) (Int32.ofNat (3 + 4 * c)) μ ∧ cv_176_48 L xs (n + 1) (Int32.ofNat (3 + 4 * c)) μ = 1 := by
    intro n c μ hc hq
    have k := (hlt c hc).mpr hq
    generalize Int32.ofNat (3 + 4 * c) = l at k ⊢
    rw [ci_176_48, cv_176_48]
    generalize Int32.ofNat L - 4 = y at k ⊢
    simp [k]
  induction d with
  | zero =>
    intro n c r q μ hn hc hc6 h
    obtain ⟨n, rfl⟩ : ∃ m, n = m + 1 := ⟨n - 1, by omega⟩
    exact done n c μ hc6 (by omega)
  | succ d ih =>
    intro n c r q μ hn hc hc6 h
    obtain ⟨n, rfl⟩ : ∃ m, n = m + 1 := ⟨n - 1, by omega⟩
    by_cases hq : L < 7 + 4 * c
    · exact done n c μ hc6 hq
    · have k : ¬ Int32.ofNat L - 4 < Int32.ofNat (3 + 4 * c) := fun z => hq ((hlt c hc6).mp z)
      have a1 : Int32.ofNat (3 + 4 * c) + 1 = Int32.ofNat (3 + 4 * c + 1) := of_add (b := 1) (by omega)
      have a2 : Int32.ofNat (3 + 4 * c) + 2 = Int32.ofNat (3 + 4 * c + 2) := of_add (b := 2) (by omega)
      have a3 : Int32.ofNat (3 + 4 * c) + 3 = Int32.ofNat (3 + 4 * c + 3) := of_add (b := 3) (by omega)
      have a4 : Int32.ofNat (3 + 4 * c) + 4 = Int32.ofNat (3 + 4 * (c + 1)) := by
        have := of_add (a := 3 + 4 * c) (b := 4) (by omega)
        rw [show 3 + 4 * (c + 1) = 3 + 4 * c + 4 by omega]
        exact this
      refine law_st h (by omega) k a4 (ix_n (by omega) (by omega)) (by rw [a1]; exact ix_n (by omega) (by omega)) (by rw [a2]; exact ix_n (by omega) (by omega)) (by rw [a3]; exact ix_n (by omega) (by omega)) ?_
      intro q' r' B hB
      exact ih n (c + 1) r' q' B (by omega) (by omega) (by omega) hB
end LW
