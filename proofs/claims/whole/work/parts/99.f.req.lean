/-! The journal and the request. -/
section RQS
variable {q : Int32 × Nat} {t r w : Nat} {α β α' β' : tm_M}
theorem JJ_of {c : Nat} (h : RJ α β) (e : β 36 0 29 = Int32.ofNat c) (hc : c ≤ 16) : JJ c α β := by
  intro j hj
  obtain ⟨h1, h2, h3, h4⟩ := h
  obtain ⟨m1, m2, m3, m4, m5⟩ := h4 j hj
  refine ⟨m1, m2, m3, m4, fun hjc => m5 ?_⟩
  rw [e, of_lt (by omega) (by omega)]
  exact hjc
theorem RJ_of {c c' : Nat} (h : JJ c α β) (e1 : α 28 0 3 = Int32.ofNat c') (e2 : β 36 0 29 = Int32.ofNat c') (h1 : c' ≤ c) (h2 : c ≤ 16) : RJ α β := by
  refine ⟨by rw [e1, e2], by rw [e2]; exact of0 (by omega), ?_, ?_⟩
  · rw [e2]
    show Int32.ofNat c' ≤ Int32.ofNat 16
    rw [of_le (by omega) (by decide)]; omega
  · intro j hj
    obtain ⟨m1, m2, m3, m4, m5⟩ := h j hj
    refine ⟨m1, m2, m3, m4, fun hz => m5 ?_⟩
    rw [e2, of_lt (by omega) (by omega)] at hz
    omega
theorem add_ok (h : Rel q t r w α β) {c : Nat} (hc : c < 16) (e : β 36 0 29 = Int32.ofNat c) (a s u : Int32) (had : AD a) (s0 : 0 ≤ s) : Rel q t r w (tm_wr (tm_wr (tm_wr (tm_wr α 29 0 c a) 30 0 c s) 31 0 c u) 28 0 3 (Int32.ofNat (c + 1))) (tm_wr (tm_wr (tm_wr (tm_wr β 59 0 c a) 60 0 c s) 61 0 c u) 36 0 29 (Int32.ofNat (c + 1))) := by
  have hJ := JJ_of h.2.2.2.2.2.2.2.1 e (by omega)
  refine Rel_sv h ?_ ?_ ?_ ?_ ?_ ?_
  · intro k hk
    simp only [List.mem_cons, List.not_mem_nil, or_false, not_or] at hk
    rw [tm_wr_ne (by omega), tm_wr_ne (by omega), tm_wr_ne (by omega), tm_wr_ne (by omega)]
  · intro k hk
    simp only [List.mem_cons, List.not_mem_nil, or_false, not_or] at hk
    rw [tm_wr_ne (by omega), tm_wr_ne (by omega), tm_wr_ne (by omega), tm_wr_ne (by omega)]
  · intro p hp
    simp [tm_ap, hp]
  · refine RB_fr h.2.2.2.2.2.2.1 ?_ ?_ ?_ ?_ ?_ ?_ ?_ ?_ ?_ ?_ ?_
    all_goals first
      | (rw [tm_wr_ne (by decide), tm_wr_ne (by decide), tm_wr_ne (by decide), tm_wr_ne (by decide)]; done)
      | simp [tm_ap]
  · refine RJ_of (c := c + 1) (c' := c + 1) ?_ (by simp [tm_ap]) (by simp [tm_ap]) (by omega) (by omega)
    intro j hj
    obtain ⟨m1, m2, m3, m4, m5⟩ := hJ j hj
    simp only [tm_ap]
    by_cases hjc : j = c
    · subst hjc
      simp [s0, had]
    · simp [hjc, m1, m2, m3, m4]
      exact fun hz => m5 (by omega)
  · intro j hj
    refine RT_fr (h.2.2.2.2.2.2.2.2.1 j hj) ?_ ?_ ?_ ?_ ?_ ?_ ?_ ?_ ?_
    all_goals first
      | (rw [tm_wr_ne (by decide), tm_wr_ne (by decide), tm_wr_ne (by decide), tm_wr_ne (by decide)]; done)
      | simp [tm_ap]
theorem drop_ok (h : Rel q t r w α β) (e : β 36 0 29 = 16) : ci_79 (β 36 0 3) α ∧ ci_150 β ∧ (∃ c, c ≤ 16 ∧ cs_79 (β 36 0 3) α 28 0 3 = Int32.ofNat c ∧ cs_150 β 36 0 29 = Int32.ofNat c) ∧ cs_150 β 36 0 3 = β 36 0 3 ∧ Rel q t r w (cs_79 (β 36 0 3) α) (cs_150 β) := by
  have hJ := JJ_of (c := 16) h.2.2.2.2.2.2.2.1 e (by omega)
  obtain ⟨kp, g1, g2, g3, g4, g5, g6, g7⟩ := drop_eq (β 36 0 3) (c := 16) (by omega) 16 64 0 0 α β (by decide) (by decide) (by decide) (h.2.2.2.2.2.2.2.1.1.trans e) e rfl hJ
  have fa : ∀ k, k ∉ ([28, 29, 30, 31] : List Nat) → cs_79 (β 36 0 3) α k = α k := fun k hk => fr_79 _ _ k hk
  have fb : ∀ k, k ∉ ([36, 59, 60, 61] : List Nat) → cs_150 β k = β k := fun k hk => fr_150 _ k hk
  have fp : ∀ p, p ≠ 29 → cs_150 β 36 0 p = β 36 0 p := g6
  refine ⟨g2, g3, ⟨kp, g1, g4, g5⟩, fp 3 (by decide), Rel_sv h ?_ ?_ fp ?_ ?_ ?_⟩
  · intro k hk
    exact fa k (nin_of hk (by decide))
  · intro k hk
    exact fb k (nin_of hk (by decide))
  · exact RB_fr h.2.2.2.2.2.2.1 (fa _ (by decide)) (fa _ (by decide)) (fa _ (by decide)) (fa _ (by decide)) (fa _ (by decide)) (fp _ (by decide)) (fb _ (by decide)) (fb _ (by decide)) (fb _ (by decide)) (fb _ (by decide)) (fb _ (by decide))
  · exact RJ_of g7 g4 g5 g1 (by omega)
  · intro j hj
    exact RT_fr (h.2.2.2.2.2.2.2.2.1 j hj) (by rw [fa _ (by decide)]) (fp _ (by decide)) (fp _ (by decide)) (fb _ (by decide)) (by rw [fb _ (by decide)]) (by rw [fb _ (by decide)]) (by rw [fb _ (by decide)]) (by rw [fb _ (by decide)]) (by rw [fb _ (by decide)])
theorem rec_ok (h : Rel q t r w α β) (a s u : Int32) (had : AD a) (s0 : 0 ≤ s) : ci_78 a s u (β 36 0 3) α ∧ ci_151 a s u β ∧ ∃ β1, Rel q t r w (cs_78 a s u (β 36 0 3) α) β1 ∧ (∀ k, 54 ≤ k → k ≤ 58 → β1 k = β k) ∧ β1 36 0 3 = β 36 0 3 ∧ (cv_78 a s u (β 36 0 3) α = 0 ∧ cv_151 a s u β = 0 ∧ cs_151 a s u β = β1 ∨ cv_78 a s u (β 36 0 3) α = 1 ∧ cv_151 a s u β = 1 ∧ cs_151 a s u β = tm_wr (tm_wr β1 54 0 a.toNatClampNeg s) 55 0 a.toNatClampNeg u) := by
  obtain ⟨a0, a30, ix⟩ := AD_ix had
  obtain ⟨n1, n2, n3, n4⟩ := h.2.2.2.2.2.2.2.1
  obtain ⟨c, ec, hc⟩ : ∃ c, β 36 0 29 = Int32.ofNat c ∧ c ≤ 16 := ⟨_, (of_tn n2).symm, (tn_le n2 (by decide : (0 : Int32) ≤ 16)).mpr n3⟩
  unfold ci_78 ci_151 cv_78 cv_151 cs_78 cs_151
  rw [n1, ec]
  by_cases h16 : c = 16
  · subst h16
    have k1 : ¬ Int32.ofNat 16 < 16 := by decide
    have k2 : Int32.ofNat 16 = 16 := by decide
    obtain ⟨d1, d2, ⟨c', c1, c2, c3⟩, d4, d5⟩ := drop_ok h ec
    rw [c2, c3]
    simp only [if_neg k1, if_pos k2]
    have f5 : ∀ k, 54 ≤ k → k ≤ 58 → cs_150 β k = β k := fun k h1 h2 => fr_150 _ k (by simp only [List.mem_cons, List.not_mem_nil, or_false]; omega)
    by_cases hk : c' = 16
    · subst hk
      simp only [if_neg k1, if_pos k2]
      exact ⟨⟨fun z => absurd z k1, fun _ => d1, fun _ z => absurd z k1⟩, ⟨fun _ => d2, fun _ z => absurd k2 z, fun _ z => absurd k2 z, fun z => absurd k2 z, fun z => absurd k2 z⟩, cs_150 β, d5, f5, d4, Or.inl ⟨(by trivial), (by trivial), (by trivial)⟩⟩
    · have k3 : Int32.ofNat c' < 16 := by
        show Int32.ofNat c' < Int32.ofNat 16
        rw [of_lt (by omega) (by decide)]; omega
      have k4 : ¬ Int32.ofNat c' = 16 := by
        show ¬ Int32.ofNat c' = Int32.ofNat 16
        rw [of_eq (by omega) (by decide)]; omega
      simp only [if_pos k3, if_neg k4]
      rw [tn_of (by omega : c' < 2147483648), tI_of1]
      refine ⟨⟨fun z => absurd z k1, fun _ => d1, fun _ _ => ix_n (by decide) (by omega)⟩, ⟨fun _ => d2, fun _ _ => ix_n (by decide) (by omega), fun _ _ => ix, fun z => absurd k2 z, fun z => absurd k2 z⟩, _, add_ok d5 (by omega : c' < 16) c3 a s u had s0, ?_, ?_, Or.inr ⟨(by trivial), (by trivial), rfl⟩⟩
      · intro k h1 h2
        rw [tm_wr_ne (by omega), tm_wr_ne (by omega), tm_wr_ne (by omega), tm_wr_ne (by omega), f5 k h1 h2]
      · simp [tm_ap, d4]
  · have k3 : Int32.ofNat c < 16 := by
      show Int32.ofNat c < Int32.ofNat 16
      rw [of_lt (by omega) (by decide)]; omega
    have k4 : ¬ Int32.ofNat c = 16 := by
      show ¬ Int32.ofNat c = Int32.ofNat 16
      rw [of_eq (by omega) (by decide)]; omega
    simp only [if_pos k3, if_neg k4]
    rw [tn_of (by omega : c < 2147483648), tI_of1]
    refine ⟨⟨fun _ => ix_n (by decide) (by omega), fun z => absurd k3 z, fun z => absurd k3 z⟩, ⟨fun z => absurd z k4, fun z => absurd z k4, fun z => absurd z k4, fun _ => ix_n (by decide) (by omega), fun _ => ix⟩, _, add_ok h (by omega : c < 16) ec a s u had s0, ?_, ?_, Or.inr ⟨(by trivial), (by trivial), rfl⟩⟩
    · intro k h1 h2
      rw [tm_wr_ne (by omega), tm_wr_ne (by omega), tm_wr_ne (by omega), tm_wr_ne (by omega)]
    · simp [tm_ap]
theorem AD_36 {a : Int32} (h : AD a) (μ : tm_M) : cv_36 a μ = 1 := by
  obtain ⟨x1, x2, x3⟩ := h
  unfold cv_36
  rw [if_neg (by grind), if_neg (by grind), if_neg x3]
theorem may_eq (h : Rel q t r w α β) {a s : Int32} (had : AD a) (s0 : 0 ≤ s) : (cv_90 a s α = 0 ↔ ((if β 36 0 3 < β 58 0 a.toNatClampNeg then 0 else ((if cv_142 a s β = 0 then ((if cv_143 a s β = 0 then 0 else 1) : Int32) else 1) : Int32)) : Int32) = 0) ∧ ci_90 a s α ∧ (¬ cv_90 a s α = 0 → (if β 56 0 a.toNatClampNeg = s then 0 else β 57 0 a.toNatClampNeg) ≤ β 36 0 3) := by
  obtain ⟨a0, a30, ix⟩ := AD_ix had
  have ha := tn30 a0 a30
  obtain ⟨b1, b2, b3, b4, b5, b6, b7, b8, b9⟩ := h.2.2.2.2.2.2.1 _ ha
  have g3 : α 1 0 3 = β 36 0 3 := h.2.1.2.2.2.1
  have now0 : 0 ≤ β 36 0 3 := h.2.1.2.2.2.2.2.2.2.2.2.2.2
  unfold cv_90 ci_90 cv_25 cv_23 cv_24 cv_142 cv_143
  rw [AD_36 had, b1, b2, b3, b4, g3]
  refine ⟨?_, ⟨fun _ => ix, fun _ _ => ix, fun _ _ _ => ix⟩, ?_⟩
  · generalize β 54 0 a.toNatClampNeg = x54 at *
    generalize β 55 0 a.toNatClampNeg = x55 at *
    generalize β 56 0 a.toNatClampNeg = x56 at *
    generalize β 57 0 a.toNatClampNeg = x57 at *
    generalize β 58 0 a.toNatClampNeg = x58 at *
    generalize α 26 0 a.toNatClampNeg = y26 at *
    generalize β 36 0 3 = now at *
    grind
  · generalize β 54 0 a.toNatClampNeg = x54 at *
    generalize β 55 0 a.toNatClampNeg = x55 at *
    generalize β 56 0 a.toNatClampNeg = x56 at *
    generalize β 57 0 a.toNatClampNeg = x57 at *
    generalize β 58 0 a.toNatClampNeg = x58 at *
    generalize α 26 0 a.toNatClampNeg = y26 at *
    generalize β 36 0 3 = now at *
    grind
theorem lease_ok (h : Rel q t r w α β) (a s u : Int32) (had : AD a) (s0 : 0 ≤ s) (hle : (if β 56 0 a.toNatClampNeg = s then 0 else β 57 0 a.toNatClampNeg) ≤ β 36 0 3) : Rel q t r w (tm_wr (tm_wr (tm_wr α 23 0 a.toNatClampNeg s) 24 0 a.toNatClampNeg u) 26 0 a.toNatClampNeg 0) (tm_wr (tm_wr (tm_wr β 54 0 a.toNatClampNeg s) 55 0 a.toNatClampNeg u) 57 0 a.toNatClampNeg (if β 56 0 a.toNatClampNeg = s then 0 else β 57 0 a.toNatClampNeg)) := by
  obtain ⟨a0, a30, ix⟩ := AD_ix had
  have ha := tn30 a0 a30
  have now0 : 0 ≤ β 36 0 3 := h.2.1.2.2.2.2.2.2.2.2.2.2.2
  have ea : Int32.ofNat a.toNatClampNeg = a := of_tn a0
  generalize (if β 56 0 a.toNatClampNeg = s then 0 else β 57 0 a.toNatClampNeg) = y at *
  refine Rel_sv h ?_ ?_ ?_ ?_ ?_ ?_
  · intro k hk
    simp only [List.mem_cons, List.not_mem_nil, or_false, not_or] at hk
    rw [tm_wr_ne (by omega), tm_wr_ne (by omega), tm_wr_ne (by omega)]
  · intro k hk
    simp only [List.mem_cons, List.not_mem_nil, or_false, not_or] at hk
    rw [tm_wr_ne (by omega), tm_wr_ne (by omega), tm_wr_ne (by omega)]
  · intro p hp
    simp [tm_ap]
  · intro p hp
    obtain ⟨b1, b2, b3, b4, b5, b6, b7, b8, b9⟩ := h.2.2.2.2.2.2.1 p hp
    simp only [tm_ap]
    by_cases hpa : p = a.toNatClampNeg
    · subst hpa
      simp
      refine ⟨b3, b4, Or.inr ⟨now0, hle⟩, s0, b7, ?_, ?_⟩
      · intro _ hz
        exact absurd hz (by grind)
      · intro _
        rw [ea]; exact had
    · simp [hpa]
      exact ⟨b1, b2, b3, b4, b5, b6, b7, b8, b9⟩
  · refine RJ_fr h.2.2.2.2.2.2.2.1 ?_ ?_ ?_ ?_ ?_ ?_ ?_ ?_
    all_goals first
      | (rw [tm_wr_ne (by decide), tm_wr_ne (by decide), tm_wr_ne (by decide)]; done)
      | simp [tm_ap]
  · intro j hj
    refine RT_fr (h.2.2.2.2.2.2.2.2.1 j hj) ?_ ?_ ?_ ?_ ?_ ?_ ?_ ?_ ?_
    all_goals first
      | (rw [tm_wr_ne (by decide), tm_wr_ne (by decide), tm_wr_ne (by decide)]; done)
      | simp [tm_ap]
theorem req_ok (h : Rel q t r w α β) (m : Nat) (s n a : Int32) (h0 : 0 ≤ s) (h6 : s < 6) (e1 : α 4 m 1 = s) (e2 : α 4 m 2 = n) (e3 : α 4 m 3 = a) (had : AD a) : ci_89 m α ∧ ci_148 s n a β ∧ ∃ r', Rel q t r' w (cs_89 m α) (cs_148 s n a β) := by
  obtain ⟨a0, a30, ix⟩ := AD_ix had
  have g3 : α 1 0 3 = β 36 0 3 := h.2.1.2.2.2.1
  have g0 : α 1 0 0 = β 36 0 0 := h.2.1.1
  obtain ⟨M1, M2, M3⟩ := may_eq h had h0
  have f4 : cs_91 a s α 4 = α 4 := fr_91 _ _ _ 4 (by decide)
  have f4' : cs_29 a (cs_91 a s α) 4 = α 4 := by rw [fr_29 _ _ 4 (by decide), f4]
  unfold ci_89 cs_89 ci_148 cs_148
  rw [e1, e2, e3, f4, e3, f4', e1, e2, e3]
  by_cases hm : cv_90 a s α = 0
  · have hm' := M1.mp hm
    rw [if_pos hm, if_pos hm']
    obtain ⟨y1, y2, y3⟩ := srv_send h 4 s n a 0 h0 h6 (Or.inr (Or.inr (Or.inl rfl))) (fun _ _ => had) (fun z => absurd z (by decide))
    exact ⟨⟨M2, fun _ => y1, fun z => absurd hm z, fun z => absurd hm z, fun z => absurd hm z, fun z => absurd hm z⟩, ⟨ix, fun _ => ix, fun _ _ => ix, fun _ => y2, fun z => absurd hm' z, fun z => absurd hm' z, fun z => absurd hm' z⟩, _, y3⟩
  · have hm' : ¬ ((if β 36 0 3 < β 58 0 a.toNatClampNeg then 0 else ((if cv_142 a s β = 0 then ((if cv_143 a s β = 0 then 0 else 1) : Int32) else 1) : Int32)) : Int32) = 0 := fun z => hm (M1.mpr z)
    rw [if_neg hm, if_neg hm']
    have hle := M3 hm
    obtain ⟨R1, R2, β1, R3, R4, R5, R6⟩ := rec_ok h a s (β 36 0 3 + β 36 0 0) had h0
    have c91 : cv_91 a s α = if cv_78 a s (β 36 0 3 + β 36 0 0) (β 36 0 3) α = 0 then 0 else 1 := by
      unfold cv_91; rw [g3, g0]
    have s91 : cs_91 a s α = if cv_78 a s (β 36 0 3 + β 36 0 0) (β 36 0 3) α = 0 then cs_78 a s (β 36 0 3 + β 36 0 0) (β 36 0 3) α else cs_27 a s (β 36 0 3 + β 36 0 0) (cs_78 a s (β 36 0 3 + β 36 0 0) (β 36 0 3) α) := by
      unfold cs_91; rw [g3, g0]
    have i91 : ci_91 a s α := by
      unfold ci_91; rw [g3, g0]; exact ⟨R1, fun _ => ix⟩
    rcases R6 with ⟨v1, v2, v3⟩ | ⟨v1, v2, v3⟩
    · have c0 : cv_91 a s α = 0 := by rw [c91, v1]; rfl
      have s0 : cs_91 a s α = cs_78 a s (β 36 0 3 + β 36 0 0) (β 36 0 3) α := by rw [s91, v1]; rfl
      rw [if_pos c0, if_pos v2, s0, v3]
      obtain ⟨y1, y2, y3⟩ := srv_send R3 4 s n a 0 h0 h6 (Or.inr (Or.inr (Or.inl rfl))) (fun _ _ => had) (fun z => absurd z (by decide))
      exact ⟨⟨M2, fun z => absurd z hm, fun _ => i91, fun _ _ => y1, fun _ z => absurd c0 z, fun _ z => absurd c0 z⟩, ⟨ix, fun _ => ix, fun _ _ => ix, fun z => absurd z hm', fun _ => R2, fun _ _ => y2, fun _ z => absurd v2 z⟩, _, y3⟩
    · have c0 : cv_91 a s α = 1 := by rw [c91, v1]; rfl
      have c0' : ¬ cv_91 a s α = 0 := by rw [c0]; decide
      have v2' : ¬ cv_151 a s (β 36 0 3 + β 36 0 0) β = 0 := by rw [v2]; decide
      have s0 : cs_91 a s α = cs_27 a s (β 36 0 3 + β 36 0 0) (cs_78 a s (β 36 0 3 + β 36 0 0) (β 36 0 3) α) := by rw [s91, v1]; rfl
      rw [if_neg c0', if_neg v2', v3]
      have E1 : cs_29 a (cs_91 a s α) = tm_wr (tm_wr (tm_wr (cs_78 a s (β 36 0 3 + β 36 0 0) (β 36 0 3) α) 23 0 a.toNatClampNeg s) 24 0 a.toNatClampNeg (β 36 0 3 + β 36 0 0)) 26 0 a.toNatClampNeg 0 := by
        rw [s0]; rfl
      have E2 : ∀ k, 56 ≤ k → k ≤ 57 → tm_wr (tm_wr β1 54 0 a.toNatClampNeg s) 55 0 a.toNatClampNeg (β 36 0 3 + β 36 0 0) k 0 a.toNatClampNeg = β1 k 0 a.toNatClampNeg := by
        intro k h1 h2
        simp only [tm_ap]
        rw [if_neg (by omega), if_neg (by omega)]
      rw [E2 56 (by decide) (by decide), E2 57 (by decide) (by decide), E1]
      have hR := lease_ok R3 a s (β 36 0 3 + β 36 0 0) had h0 (by rw [R4 56 (by decide) (by decide), R4 57 (by decide) (by decide), R5]; exact hle)
      obtain ⟨y1, y2, y3⟩ := srv_send hR 3 s n a 0 h0 h6 (Or.inr (Or.inl rfl)) (fun _ _ => had) (fun z => absurd z (by decide))
      exact ⟨⟨M2, fun z => absurd z hm, fun _ => i91, fun _ z => absurd z c0', fun _ _ => ix, fun _ _ => y1⟩, ⟨ix, fun _ => ix, fun _ _ => ix, fun z => absurd z hm', fun _ => R2, fun _ z => absurd z v2', fun _ _ => y2⟩, _, y3⟩
end RQS
