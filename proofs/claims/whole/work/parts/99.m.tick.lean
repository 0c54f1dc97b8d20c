/-! Tick. -/
section TI
variable {q : Int32 × Nat} {t r w : Nat} {α β α' β' : tm_M}
theorem now_ok (h : Rel q t r w α β) (ht : t < 100000) : Rel q (t + 1) r w (tm_wr α 1 0 3 (α 1 0 3 + 1)) (tm_wr β 36 0 3 (β 36 0 3 + 1)) := by
  obtain ⟨hQ, hG, hT, hW, hL, hF, hB, hJ, hTr, hS, hN⟩ := h
  have fA : ∀ k, k ≠ 1 → tm_wr α 1 0 3 (α 1 0 3 + 1) k = α k := fun k hk => tm_wr_ne hk
  have fB : ∀ k, k ≠ 36 → tm_wr β 36 0 3 (β 36 0 3 + 1) k = β k := fun k hk => tm_wr_ne hk
  have fp : ∀ p, p ≠ 3 → tm_wr β 36 0 3 (β 36 0 3 + 1) 36 0 p = β 36 0 p := fun p hp => by simp [tm_ap, hp]
  have fq : ∀ p, p ≠ 3 → tm_wr α 1 0 3 (α 1 0 3 + 1) 1 0 p = α 1 0 p := fun p hp => by simp [tm_ap, hp]
  have e3 : tm_wr β 36 0 3 (β 36 0 3 + 1) 36 0 3 = β 36 0 3 + 1 := by simp [tm_ap]
  have e3' : tm_wr α 1 0 3 (α 1 0 3 + 1) 1 0 3 = α 1 0 3 + 1 := by simp [tm_ap]
  have now0 : 0 ≤ β 36 0 3 := hG.2.2.2.2.2.2.2.2.2.2.2
  obtain ⟨x, hx, hxt⟩ := nat_of (x := β 36 0 3) (n := t) (by omega) now0 hT
  have le1 : β 36 0 3 ≤ β 36 0 3 + 1 := by rw [hx, tI_of1, of_le (by omega) (by omega)]; omega
  refine ⟨?_, ?_, ?_, ?_, ?_, ?_, ?_, ?_, ?_, ?_, ?_⟩
  · unfold RQ at *
    rw [fA 4 (by decide), fA 2 (by decide)]; exact hQ
  · unfold RG at *
    rw [fq 0 (by decide), fq 1 (by decide), fq 2 (by decide), fq 4 (by decide), e3', e3, fp 0 (by decide), fp 1 (by decide), fp 2 (by decide), fp 4 (by decide)]
    obtain ⟨h1, h2, h3, h4, h5, h6, h7, h8, h9, h10, h11, h12⟩ := hG
    refine ⟨h1, h2, h3, by rw [h4], h5, h6, h7, h8, h9, h10, h11, ?_⟩
    rw [hx, tI_of1]; exact of0 (by omega)
  · rw [e3, hx, tI_of1, of_le (by omega) (by omega)]; omega
  · exact RW_fr hW (fA _ (by decide)) (fA _ (by decide)) (fA _ (by decide)) (fA _ (by decide)) (fp _ (by decide)) (fB _ (by decide)) (fB _ (by decide)) (fB _ (by decide)) (fB _ (by decide)) (fB _ (by decide)) (fB _ (by decide)) (fB _ (by decide)) (fB _ (by decide)) (fB _ (by decide))
  · exact RL_fr hL (fA _ (by decide)) (fA _ (by decide)) (fA _ (by decide)) (fA _ (by decide)) (fA _ (by decide)) (fA _ (by decide)) (fp _ (by decide)) (fB _ (by decide)) (fB _ (by decide)) (fB _ (by decide)) (fB _ (by decide)) (fB _ (by decide))
  · exact RF_fr hF (fA _ (by decide)) (fA _ (by decide)) (fA _ (by decide)) (fA _ (by decide)) (fA _ (by decide)) (fA _ (by decide)) (fp _ (by decide)) (fB _ (by decide)) (fB _ (by decide)) (fB _ (by decide)) (fB _ (by decide)) (fB _ (by decide))
  · intro a ha
    obtain ⟨b1, b2, b3, b4, b5, b6, b7, b8, b9⟩ := hB a ha
    rw [fA 23 (by decide), fA 24 (by decide), fA 25 (by decide), fA 26 (by decide), fA 27 (by decide), fB 54 (by decide), fB 55 (by decide), fB 56 (by decide), fB 57 (by decide), fB 58 (by decide), e3]
    refine ⟨b1, b2, b3, b4, ?_, b6, b7, fun z1 z2 => b8 (by grind) (by grind), fun z => b9 (by grind)⟩
    rcases b5 with b5 | ⟨b5, b5'⟩
    · exact Or.inl b5
    · exact Or.inr ⟨by grind, by grind⟩
  · exact RJ_fr hJ (fA _ (by decide)) (fA _ (by decide)) (fA _ (by decide)) (fA _ (by decide)) (fp _ (by decide)) (fB _ (by decide)) (fB _ (by decide)) (fB _ (by decide))
  · intro j hj
    exact RT_fr (hTr j hj) (by rw [fA _ (by decide)]) (fp _ (by decide)) (fp _ (by decide)) (fB _ (by decide)) (by rw [fB _ (by decide)]) (by rw [fB _ (by decide)]) (by rw [fB _ (by decide)]) (by rw [fB _ (by decide)]) (by rw [fB _ (by decide)])
  · intro j hj
    exact RS_fr (hS j hj) (by rw [fA _ (by decide)]) (by rw [fA _ (by decide)]) (by rw [fA _ (by decide)]) (fp _ (by decide)) (fp _ (by decide)) (fB _ (by decide)) (fun k h1 h2 => by rw [fB k (by omega)]) (fun k _ => by rw [fB 83 (by decide)])
  · intro j hj hjw
    exact RN_fr (hN j hj hjw) (by rw [fA _ (by decide)]) (by rw [fB _ (by decide)]) (by rw [fB _ (by decide)])
theorem due_ok (h : Rel q t r 6 α β) {l : Nat} (hl : l < 6) : (α 21 l 0 = 0 ∨ α 1 0 3 < α 21 l 4 ↔ β 62 0 l ≤ 0 ∨ β 36 0 3 < β 66 0 l) ∧ (α 21 l 3 < α 1 0 1 ↔ ¬ β 65 0 l = β 36 0 1) ∧ (¬ (β 62 0 l ≤ 0 ∨ β 36 0 3 < β 66 0 l) → ¬ β 65 0 l = β 36 0 1 → ci_95 (Int32.ofNat l) l (tm_wr α 21 l 3 (α 21 l 3 + 1)) ∧ ci_152 (Int32.ofNat l) β ∧ Rel q t (nx r) 6 (cs_95 (Int32.ofNat l) l (tm_wr α 21 l 3 (α 21 l 3 + 1))) (cs_152 (Int32.ofNat l) β)) := by
  obtain ⟨g0, g1, g2, g3, g4, g5, g6, g7, g8, g9, g10, g11⟩ := h.2.1
  obtain ⟨t1, t2, t3, t4, t5, t6⟩ := h.2.2.2.2.2.2.2.2.1 l hl
  rw [t3, t2, g3, g1]
  refine ⟨?_, by grind, ?_⟩
  · rcases t6 with ⟨u1, u2⟩ | ⟨u0, u1, u2, u3, u4, u5, u6, u7⟩
    · rw [u1, u2]; simp
    · rw [u0, u1]
      have k1 : ¬ (1 : Int32) = 0 := by decide
      have k2 : ¬ α 21 l 1 + 1 ≤ 0 := by grind
      simp [k1, k2]
  · intro hd hne
    rcases t6 with ⟨u1, u2⟩ | ⟨u0, u1, u2, u3, u4, u5, u6, u7⟩
    · exact absurd (Or.inl (by rw [u2]; decide)) hd
    · have el : (Int32.ofNat l).toNatClampNeg = l := tn_of (by omega)
      have l0 : 0 ≤ Int32.ofNat l := of0 (by omega)
      have l6 : Int32.ofNat l < 6 := by
        show Int32.ofNat l < Int32.ofNat 6
        rw [of_lt (by omega) (by decide)]; exact hl
      obtain ⟨f, hf, hf3⟩ := nat_of (x := α 21 l 1) (n := 3) (by decide) u2 u3
      obtain ⟨bk, hbk, hb11⟩ := nat_of (x := β 63 0 l) (n := 11) (by decide) (by grind) u5
      have hb1 : 1 ≤ bk := by
        rw [hbk] at u4
        have : Int32.ofNat 1 ≤ Int32.ofNat bk := u4
        rw [of_le (by decide) (by omega)] at this
        exact this
      have tf : (Int32.ofNat f).toNatClampNeg = f := tn_of (by omega)
      have B := block_ok h (Int32.ofNat l) l0 l6 (f := f) (bk := bk) (tr := β 65 0 l + 1) (by omega) hb1 hb11 (by
        rw [hbk, hf, tf] at u6
        exact u6) (by grind) (tm_wr α 21 l 3 (β 65 0 l + 1)) β
        (fun k hk => tm_wr_ne hk)
        (fun j hj => by rw [el] at hj; funext p; simp [tm_ap, hj])
        (fun k _ _ _ => rfl)
        (fun k j _ => rfl)
        (by rw [el]; simpa [tm_ap] using u0) (by rw [el]; simpa [tm_ap] using hf) (by rw [el]; simpa [tm_ap, hbk] using t1) (by rw [el]; simp [tm_ap]) (by rw [el, u1, hf]) (by rw [el]; exact hbk) (by rw [el])
      rw [el] at B
      exact B
theorem lp_84 {c : Nat} (hc : c ≤ 6) (d : Nat) : ∀ (n l r : Nat) (α β : tm_M), d < n → l + d = c → Rel q t r 6 α β → β 36 0 38 = Int32.ofNat c → ci_84_2 n (Int32.ofNat l) α ∧ ci_171_33 n (Int32.ofNat l) β ∧ cv_171_33 n (Int32.ofNat l) β = cs_171_33 n (Int32.ofNat l) β 36 0 9 ∧ ∃ r', Rel q t r' 6 (cs_84_2 n (Int32.ofNat l) α) (cs_171_33 n (Int32.ofNat l) β) := by
  induction d with
  | zero =>
    intro n l r α β hn hl h e
    obtain ⟨n, rfl⟩ : ∃ m, n = m + 1 := ⟨n - 1, by omega⟩
    have e' : α 6 0 5 = Int32.ofNat c := h.2.2.2.2.1.1.trans e
    have k : Int32.ofNat c ≤ Int32.ofNat l := by rw [of_le (by omega) (by omega)]; omega
    simp only [ci_84_2, ci_171_33, cv_171_33, cs_171_33, cs_84_2, e, e', if_pos k]
    exact ⟨⟨fun z => absurd k z, fun z => absurd k z, fun z => absurd k z, fun z => absurd k z, fun z => absurd k z⟩, ⟨fun z => absurd k z, fun z => absurd k z, fun z => absurd k z, fun z => absurd k z, fun z => absurd k z⟩, (by trivial), r, h⟩
  | succ d ih =>
    intro n l r α β hn hl h e
    obtain ⟨n, rfl⟩ : ∃ m, n = m + 1 := ⟨n - 1, by omega⟩
    have e' : α 6 0 5 = Int32.ofNat c := h.2.2.2.2.1.1.trans e
    have k : ¬ Int32.ofNat c ≤ Int32.ofNat l := by rw [of_le (by omega) (by omega)]; omega
    have el : (Int32.ofNat l).toNatClampNeg = l := tn_of (by omega)
    have ix : tm_ix (Int32.ofNat l) 6 = true := ix_n (by decide) (by omega)
    obtain ⟨D1, D2, D3⟩ := due_ok h (by omega : l < 6)
    simp only [ci_84_2, ci_171_33, cv_171_33, cs_171_33, cs_84_2, e, e', if_neg k, el]
    rw [tI_of1]
    by_cases c1 : β 62 0 l ≤ 0 ∨ β 36 0 3 < β 66 0 l
    · have c1' := D1.mpr c1
      obtain ⟨i1, i2, i3, i4⟩ := ih n (l + 1) r α β (by omega) (by omega) h e
      simp only [if_pos c1, if_pos c1']
      exact ⟨⟨fun _ => ix, fun _ _ => i1, fun _ z => absurd c1' z, fun _ z => absurd c1' z, fun _ z => absurd c1' z⟩, ⟨fun _ => ix, fun _ _ => i2, fun _ z => absurd c1 z, fun _ z => absurd c1 z, fun _ z => absurd c1 z⟩, i3, i4⟩
    · have c1' : ¬ (α 21 l 0 = 0 ∨ α 1 0 3 < α 21 l 4) := fun z => c1 (D1.mp z)
      simp only [if_neg c1, if_neg c1']
      by_cases c2 : β 65 0 l = β 36 0 1
      · have c2' : ¬ α 21 l 3 < α 1 0 1 := fun z => D2.mp z c2
        have hR := shut_ok h (by omega : l < 6)
        obtain ⟨i1, i2, i3, i4⟩ := ih n (l + 1) r _ _ (by omega) (by omega) hR (by rw [tm_wr_ne (by decide)]; exact e)
        simp only [if_pos c2, if_neg c2']
        exact ⟨⟨fun _ => ix, fun _ z => absurd z c1', fun _ _ z => absurd z c2', fun _ _ z => absurd z c2', fun _ _ _ => i1⟩, ⟨fun _ => ix, fun _ z => absurd z c1, fun _ _ _ => i2, fun _ _ z => absurd c2 z, fun _ _ z => absurd c2 z⟩, i3, i4⟩
      · have c2' : α 21 l 3 < α 1 0 1 := D2.mpr c2
        obtain ⟨y1, y2, y3⟩ := D3 c1 c2
        have e2 : cs_152 (Int32.ofNat l) β 36 0 38 = Int32.ofNat c := by
          rw [← y3.2.2.2.2.1.1, fr_95 _ _ _ 6 (by decide), tm_wr_ne (by decide)]
          exact e'
        obtain ⟨i1, i2, i3, i4⟩ := ih n (l + 1) _ _ _ (by omega) (by omega) y3 e2
        simp only [if_neg c2, if_pos c2']
        exact ⟨⟨fun _ => ix, fun _ z => absurd z c1', fun _ _ _ => y1, fun _ _ _ => i1, fun _ _ z => absurd c2' z⟩, ⟨fun _ => ix, fun _ z => absurd z c1, fun _ _ z => absurd z c2, fun _ _ _ => y2, fun _ _ _ => i2⟩, i3, i4⟩
theorem lp_11 {c : Nat} (hc : c ≤ 6) (d : Nat) : ∀ (n l r : Nat) (α β : tm_M), d < n → l + d = c → Rel q t r 6 α β → β 36 0 38 = Int32.ofNat c → ∃ α' β' r', Rel q t r' 6 α' β' ∧ β' 36 0 38 = Int32.ofNat c ∧ cs_11_15 n (Int32.ofNat l) α = cs_84 α' ∧ cv_11_15 n (Int32.ofNat l) α = cs_84 α' 2 0 1 ∧ (ci_84 α' → ci_11_15 n (Int32.ofNat l) α) ∧ cs_171_12 n (Int32.ofNat l) β = cs_171_33 64 0 β' ∧ cv_171_12 n (Int32.ofNat l) β = cv_171_33 64 0 β' ∧ (ci_171_33 64 0 β' → ci_171_12 n (Int32.ofNat l) β) := by
  induction d with
  | zero =>
    intro n l r α β hn hl h e
    obtain ⟨n, rfl⟩ : ∃ m, n = m + 1 := ⟨n - 1, by omega⟩
    have e' : α 6 0 5 = Int32.ofNat c := h.2.2.2.2.1.1.trans e
    have k : Int32.ofNat c ≤ Int32.ofNat l := by rw [of_le (by omega) (by omega)]; omega
    refine ⟨α, β, r, h, e, ?_⟩
    simp only [cs_11_15, cv_11_15, ci_11_15, cs_171_12, cv_171_12, ci_171_12, e, e', if_pos k]
    exact ⟨(by trivial), (by trivial), fun z => ⟨fun _ => z, fun z => absurd k z, fun z => absurd k z, fun z => absurd k z⟩, (by trivial), (by trivial), fun z => ⟨fun _ => z, fun z => absurd k z, fun z => absurd k z⟩⟩
  | succ d ih =>
    intro n l r α β hn hl h e
    obtain ⟨n, rfl⟩ : ∃ m, n = m + 1 := ⟨n - 1, by omega⟩
    have e' : α 6 0 5 = Int32.ofNat c := h.2.2.2.2.1.1.trans e
    have k : ¬ Int32.ofNat c ≤ Int32.ofNat l := by rw [of_le (by omega) (by omega)]; omega
    have el : (Int32.ofNat l).toNatClampNeg = l := tn_of (by omega)
    have ix : tm_ix (Int32.ofNat l) 6 = true := ix_n (by decide) (by omega)
    have l0 : 0 ≤ Int32.ofNat l := of0 (by omega)
    have l6 : Int32.ofNat l < 6 := by
      show Int32.ofNat l < Int32.ofNat 6
      rw [of_lt (by omega) (by decide)]; omega
    obtain ⟨p1, p2, r1, p3⟩ := passTime_ok h (Int32.ofNat l) l0 l6
    rw [el] at p1 p3
    have e2 : cs_170 (Int32.ofNat l) β 36 0 38 = Int32.ofNat c := by
      rw [← p3.2.2.2.2.1.1, fr_101 _ _ 6 (by decide)]
      exact e'
    obtain ⟨α', β', r', j1, j2, j3, j4, j5, j6, j7, j8⟩ := ih n (l + 1) r1 _ _ (by omega) (by omega) p3 e2
    refine ⟨α', β', r', j1, j2, ?_⟩
    simp only [cs_11_15, cv_11_15, ci_11_15, cs_171_12, cv_171_12, ci_171_12, e, e', if_neg k, el]
    rw [tI_of1]
    exact ⟨j3, j4, fun z => ⟨fun z => absurd z k, fun _ => ix, fun _ => p1, fun _ => j5 z⟩, j6, j7, fun z => ⟨fun z => absurd z k, fun _ => p2, fun _ => j8 z⟩⟩
theorem tick_ok (h : Rel q t r 6 α β) (ht : t < 100000) : cv_11 α = cv_171 β ∧ ci_11 α ∧ ci_171 β ∧ ∃ r', Rel q (t + 1) r' 6 (cs_11 α) (cs_171 β) := by
  have hR := now_ok h ht
  obtain ⟨l1, l2, l3, -⟩ := h.2.2.2.2.1
  obtain ⟨c, hc, hc6⟩ := nat_of (x := β 36 0 38) (n := 6) (by decide) l2 l3
  obtain ⟨α', β', r', j1, j2, j3, j4, j5, j6, j7, j8⟩ := lp_11 hc6 c 64 0 r _ _ (by omega) (by omega) hR (by simpa [tm_ap] using hc)
  obtain ⟨i1, i2, i3, r2, i4⟩ := lp_84 hc6 c 64 0 r' α' β' (by omega) (by omega) j1 j2
  have z : Int32.ofNat 0 = (0 : Int32) := rfl
  rw [z] at i1 i2 i3 i4 j3 j4 j5 j6 j7 j8
  unfold cv_11 ci_11 cs_11 cv_171 ci_171 cs_171
  rw [j3, j4, j6, j7]
  have c84 : ci_84 α' := i1
  have s84 : cs_84 α' = cs_84_2 64 0 α' := rfl
  rw [s84, i3]
  refine ⟨?_, j5 c84, j8 i2, r2, i4⟩
  rw [i4.2.2.2.1.2.1, i4.2.2.2.1.2.2.1]
end TI
