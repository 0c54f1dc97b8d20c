/-! The calls that set things up, and those that tell. -/
section SI
variable {q : Int32 × Nat} {t r w : Nat} {α β α' β' : tm_M}
/-- writes of the setup -/
theorem Rel_su (h : Rel q t r w α β) (fa : ∀ k, k ∉ ([6, 7, 8, 9, 10, 11, 12, 14, 15, 16, 17, 18] : List Nat) → α' k = α k) (fb : ∀ k, k ∉ ([36, 37, 38, 39, 40, 49, 50, 51, 52, 53, 67] : List Nat) → β' k = β k) (fp : ∀ p, p ≠ 20 → p ≠ 38 → β' 36 0 p = β 36 0 p) (hL : RL α' β') (hF : RF α' β') (hW : RW r α' β') (hT : ∀ s, s < 6 → RT α' β' s) (hS : ∀ s, s < 6 → RS α' β' s) : Rel q t r w α' β' := by
  obtain ⟨hQ, hG, hTm, -, -, -, hB, hJ, -, -, hN⟩ := h
  refine ⟨?_, ?_, ?_, hW, hL, hF, ?_, ?_, hT, hS, ?_⟩
  · unfold RQ at *
    rw [fa 4 (by decide), fa 2 (by decide)]; exact hQ
  · exact RG_fr hG (by rw [fa 1 (by decide)]) (fp _ (by decide) (by decide)) (fp _ (by decide) (by decide)) (fp _ (by decide) (by decide)) (fp _ (by decide) (by decide)) (fp _ (by decide) (by decide))
  · rw [fp _ (by decide) (by decide)]; exact hTm
  · exact RB_fr hB (fa _ (by decide)) (fa _ (by decide)) (fa _ (by decide)) (fa _ (by decide)) (fa _ (by decide)) (fp _ (by decide) (by decide)) (fb _ (by decide)) (fb _ (by decide)) (fb _ (by decide)) (fb _ (by decide)) (fb _ (by decide))
  · exact RJ_fr hJ (fa _ (by decide)) (fa _ (by decide)) (fa _ (by decide)) (fa _ (by decide)) (fp _ (by decide) (by decide)) (fb _ (by decide)) (fb _ (by decide)) (fb _ (by decide))
  · intro j hj hjw
    exact RN_fr (hN j hj hjw) (by rw [fa 33 (by decide)]) (by rw [fb 68 (by decide)]) (by rw [fb 71 (by decide)])
theorem su_W (h : Rel q t r w α β) (fa : ∀ k, k ∉ ([6, 7, 8, 9, 10, 11, 12, 14, 15, 16, 17, 18] : List Nat) → α' k = α k) (fb : ∀ k, k ∉ ([36, 37, 38, 39, 40, 49, 50, 51, 52, 53] : List Nat) → β' k = β k) (fp : ∀ p, p ≠ 20 → p ≠ 38 → β' 36 0 p = β 36 0 p) : RW r α' β' :=
  RW_fr h.2.2.2.1 (fa _ (by decide)) (fa _ (by decide)) (fa _ (by decide)) (fa _ (by decide)) (fp _ (by decide) (by decide)) (fb _ (by decide)) (fb _ (by decide)) (fb _ (by decide)) (fb _ (by decide)) (fb _ (by decide)) (fb _ (by decide)) (fb _ (by decide)) (fb _ (by decide)) (fb _ (by decide))
theorem su_T (h : Rel q t r w α β) (a21 : α' 21 = α 21) (fp : ∀ p, p ≠ 20 → p ≠ 38 → β' 36 0 p = β 36 0 p) (b49 : β' 49 = β 49) (fb : ∀ k, 62 ≤ k → k ≤ 66 → β' k = β k) : ∀ s, s < 6 → RT α' β' s := fun j hj =>
  RT_fr (h.2.2.2.2.2.2.2.2.1 j hj) (by rw [a21]) (fp _ (by decide) (by decide)) (fp _ (by decide) (by decide)) b49 (by rw [fb 62 (by decide) (by decide)]) (by rw [fb 63 (by decide) (by decide)]) (by rw [fb 64 (by decide) (by decide)]) (by rw [fb 65 (by decide) (by decide)]) (by rw [fb 66 (by decide) (by decide)])
theorem su_S (h : Rel q t r w α β) (a33 : α' 33 = α 33) (a34 : α' 34 = α 34) (a35 : α' 35 = α 35) (p1 : β' 36 0 1 = β 36 0 1) (p20 : β' 36 0 20 = β 36 0 20) (b52 : β' 52 = β 52) (fb : ∀ k, 68 ≤ k → k ≤ 83 → β' k = β k) : ∀ s, s < 6 → RS α' β' s := fun j hj =>
  RS_fr (h.2.2.2.2.2.2.2.2.2.1 j hj) (by rw [a33]) (by rw [a34]) (by rw [a35]) p1 p20 b52 (fun k h1 h2 => by rw [fb k h1 (by omega)]) (fun k _ => by rw [fb 83 (by decide) (by decide)])
theorem pool_ok (h : Rel q t r w α β) (a1 a2 a3 : Int32) : cv_1 a1 a2 a3 α = cv_125 a1 a2 a3 β ∧ ci_1 a1 a2 a3 α ∧ ci_125 a1 a2 a3 β ∧ Rel q t r w (cs_1 a1 a2 a3 α) (cs_125 a1 a2 a3 β) := by
  have hL := h.2.2.2.2.1
  unfold cv_1 ci_1 cs_1 cv_39 ci_39 cs_39 cv_125 ci_125 cs_125 cv_37
  by_cases hs : 0 ≤ a1 ∧ a1 < 3
  · have ix : tm_ix a1 3 = true := ix3.mpr hs
    have hi := tn3 hs.1 hs.2
    obtain ⟨p1, p2, p3⟩ := hL.2.2.2.1 _ hi
    have n1 : ¬ a1 < 0 := by grind
    have n2 : ¬ (3 : Int32) ≤ a1 := by grind
    have n3 : ¬ (2 : Int32) < a1 := by grind
    have o1 : ¬ (1 : Int32) = 0 := by decide
    rw [p1]
    simp only [if_neg n1, if_neg n2, n1, n3, o1, false_or]
    by_cases hz : β 37 0 a1.toNatClampNeg = 0
    · have k1 : ¬ (¬ β 37 0 a1.toNatClampNeg = 0) := fun z => z hz
      have k2 : ¬ 0 < β 37 0 a1.toNatClampNeg := by rw [hz]; decide
      simp only [k1, k2, o1, if_false, false_or, or_false]
      by_cases hb : a2 < 1 ∨ a3 < a2 ∨ ¬ a3 ≤ 9
      · simp only [if_pos hb]
        exact ⟨(by trivial), ⟨fun _ => ix, fun _ z => absurd hb z⟩, ⟨fun _ _ => ix, fun z => absurd hb z⟩, h⟩
      · simp only [if_neg hb]
        refine ⟨(by trivial), ⟨fun _ => ix, fun _ _ => ix⟩, ⟨fun _ _ => ix, fun _ => ix⟩, ?_⟩
        have fA : ∀ k, k ≠ 7 → k ≠ 8 → tm_wr (tm_wr α 7 0 a1.toNatClampNeg a2) 8 0 a1.toNatClampNeg a3 k = α k := fun k h1 h2 => by rw [tm_wr_ne h2, tm_wr_ne h1]
        have fB : ∀ k, k ≠ 37 → k ≠ 38 → tm_wr (tm_wr β 37 0 a1.toNatClampNeg a2) 38 0 a1.toNatClampNeg a3 k = β k := fun k h1 h2 => by rw [tm_wr_ne h2, tm_wr_ne h1]
        have fa : ∀ k, k ∉ ([6, 7, 8, 9, 10, 11, 12, 14, 15, 16, 17, 18] : List Nat) → tm_wr (tm_wr α 7 0 a1.toNatClampNeg a2) 8 0 a1.toNatClampNeg a3 k = α k := by
          intro k hk
          simp only [List.mem_cons, List.not_mem_nil, or_false, not_or] at hk
          exact fA k (by omega) (by omega)
        have fb : ∀ k, k ∉ ([36, 37, 38, 39, 40, 49, 50, 51, 52, 53] : List Nat) → tm_wr (tm_wr β 37 0 a1.toNatClampNeg a2) 38 0 a1.toNatClampNeg a3 k = β k := by
          intro k hk
          simp only [List.mem_cons, List.not_mem_nil, or_false, not_or] at hk
          exact fB k (by omega) (by omega)
        have fp : ∀ p, p ≠ 20 → p ≠ 38 → tm_wr (tm_wr β 37 0 a1.toNatClampNeg a2) 38 0 a1.toNatClampNeg a3 36 0 p = β 36 0 p := fun p _ _ => by rw [fB 36 (by decide) (by decide)]
        refine Rel_su h fa (fun k hk => fb k (nin_of hk (by decide))) fp ?_ ?_ (su_W h fa fb fp) (su_T h (fA _ (by decide) (by decide)) fp (fB _ (by decide) (by decide)) (fun k h1 h2 => fB k (by omega) (by omega))) (su_S h (fA _ (by decide) (by decide)) (fA _ (by decide) (by decide)) (fA _ (by decide) (by decide)) (by rw [fB 36 (by decide) (by decide)]) (by rw [fB 36 (by decide) (by decide)]) (fB _ (by decide) (by decide)) (fun k h1 h2 => fB k (by omega) (by omega)))
        · obtain ⟨l1, l2, l3, l4, l5⟩ := hL
          unfold RL
          rw [fA 6 (by decide) (by decide), fA 9 (by decide) (by decide), fA 10 (by decide) (by decide), fA 11 (by decide) (by decide), fB 36 (by decide) (by decide), fB 67 (by decide) (by decide), fB 39 (by decide) (by decide), fB 40 (by decide) (by decide)]
          refine ⟨l1, l2, l3, ?_, l5⟩
          intro j hj
          obtain ⟨u1, u2, u3⟩ := l4 j hj
          simp only [tm_ap]
          by_cases hja : j = a1.toNatClampNeg
          · simp [hja]
            grind
          · simp [hja]
            exact ⟨u1, u2, u3⟩
        · exact RF_fr h.2.2.2.2.2.1 (fA _ (by decide) (by decide)) (fA _ (by decide) (by decide)) (fA _ (by decide) (by decide)) (fA _ (by decide) (by decide)) (fA _ (by decide) (by decide)) (fA _ (by decide) (by decide)) (by rw [fB 36 (by decide) (by decide)]) (fB _ (by decide) (by decide)) (fB _ (by decide) (by decide)) (fB _ (by decide) (by decide)) (fB _ (by decide) (by decide)) (fB _ (by decide) (by decide))
    · have k2 : 0 < β 37 0 a1.toNatClampNeg := by grind
      simp only [hz, k2, not_false_eq_true, if_true, true_or]
      exact ⟨(by trivial), ⟨fun _ => ix, fun z => absurd (by trivial) z⟩, ⟨fun _ _ => ix, fun z => absurd (by trivial) z⟩, h⟩
  · have hc : ((if a1 < 0 then 0 else ((if (3 : Int32) ≤ a1 then 0 else 1) : Int32)) : Int32) = 0 := by grind
    have hc2 : a1 < 0 ∨ 2 < a1 ∨ 0 < β 37 0 a1.toNatClampNeg ∨ a2 < 1 ∨ a3 < a2 ∨ ¬ a3 ≤ 9 := by grind
    simp only [hc, true_or, if_true, if_pos hc2]
    refine ⟨(by trivial), ⟨fun z => absurd (by trivial) z, fun z => absurd (by trivial) z⟩, ⟨fun z1 z2 => absurd (by grind : 0 ≤ a1 ∧ a1 < 3) hs, fun z => absurd hc2 z⟩, h⟩
theorem attach_ok (h : Rel q t r w α β) (a1 : Int32) : cv_2 a1 α = cv_126 a1 β ∧ ci_2 a1 α ∧ ci_126 a1 β ∧ Rel q t r w (cs_2 a1 α) (cs_126 a1 β) := by
  have hL := h.2.2.2.2.1
  obtain ⟨l1, l2, l3, l4, l5, l6, l7, l8⟩ := hL
  unfold cv_2 ci_2 cs_2 cv_40 ci_40 cs_40 cv_126 ci_126 cs_126 cv_37
  rw [l1]
  by_cases hc : a1 < 0 ∨ 2 < a1 ∨ β 36 0 38 = 6
  · have hc' : ((if a1 < 0 then 0 else ((if (3 : Int32) ≤ a1 then 0 else 1) : Int32)) : Int32) = 0 ∨ ¬ β 36 0 38 < 6 := by grind
    simp only [if_pos hc, if_pos hc']
    exact ⟨(by trivial), fun z => absurd hc' z, fun z => absurd hc z, h⟩
  · have hc' : ¬ (((if a1 < 0 then 0 else ((if (3 : Int32) ≤ a1 then 0 else 1) : Int32)) : Int32) = 0 ∨ ¬ β 36 0 38 < 6) := by grind
    have h6 : β 36 0 38 < 6 := by grind
    have ix : tm_ix (β 36 0 38) 6 = true := ix6.mpr ⟨l2, h6⟩
    have hi := tn6 l2 h6
    have ei := of_tn l2
    simp only [if_neg hc, if_neg hc']
    refine ⟨(by trivial), fun _ => ix, fun _ => ix, ?_⟩
    generalize hn : (β 36 0 38).toNatClampNeg = n at *
    have fA : ∀ k, k ≠ 9 → k ≠ 6 → tm_wr (tm_wr α 9 0 n a1) 6 0 5 (β 36 0 38 + 1) k = α k := fun k h1 h2 => by rw [tm_wr_ne h2, tm_wr_ne h1]
    have fB : ∀ k, k ≠ 67 → k ≠ 36 → tm_wr (tm_wr β 67 0 n a1) 36 0 38 (β 36 0 38 + 1) k = β k := fun k h1 h2 => by rw [tm_wr_ne h2, tm_wr_ne h1]
    have fa : ∀ k, k ∉ ([6, 7, 8, 9, 10, 11, 12, 14, 15, 16, 17, 18] : List Nat) → tm_wr (tm_wr α 9 0 n a1) 6 0 5 (β 36 0 38 + 1) k = α k := by
      intro k hk
      simp only [List.mem_cons, List.not_mem_nil, or_false, not_or] at hk
      exact fA k (by omega) (by omega)
    have fp : ∀ p, p ≠ 20 → p ≠ 38 → tm_wr (tm_wr β 67 0 n a1) 36 0 38 (β 36 0 38 + 1) 36 0 p = β 36 0 p := fun p _ hp => by simp [tm_ap, hp]
    have p20 : tm_wr (tm_wr β 67 0 n a1) 36 0 38 (β 36 0 38 + 1) 36 0 20 = β 36 0 20 := by simp [tm_ap]
    have hst : β 36 0 38 ≤ Int32.ofNat n := by rw [ei]; grind
    have hz := (l5 n hi).2.2.2 hst
    refine Rel_su h fa ?_ fp ?_ ?_ ?_ (su_T h (fA _ (by decide) (by decide)) fp (fB _ (by decide) (by decide)) (fun k h1 h2 => fB k (by omega) (by omega))) (su_S h (fA _ (by decide) (by decide)) (fA _ (by decide) (by decide)) (fA _ (by decide) (by decide)) (fp _ (by decide) (by decide)) p20 (fB _ (by decide) (by decide)) (fun k h1 h2 => fB k (by omega) (by omega)))
    · intro k hk
      simp only [List.mem_cons, List.not_mem_nil, or_false, not_or] at hk
      exact fB k (by omega) (by omega)
    · unfold RL
      have e38 : tm_wr (tm_wr β 67 0 n a1) 36 0 38 (β 36 0 38 + 1) 36 0 38 = β 36 0 38 + 1 := by simp [tm_ap]
      have e5 : tm_wr (tm_wr α 9 0 n a1) 6 0 5 (β 36 0 38 + 1) 6 0 5 = β 36 0 38 + 1 := by simp [tm_ap]
      rw [fA 7 (by decide) (by decide), fA 8 (by decide) (by decide), fA 10 (by decide) (by decide), fA 11 (by decide) (by decide), fB 37 (by decide) (by decide), fB 38 (by decide) (by decide), fB 39 (by decide) (by decide), fB 40 (by decide) (by decide), e38, e5]
      refine ⟨rfl, by grind, by grind, l4, ?_, l6, l7, l8⟩
      intro s hs
      obtain ⟨u1, u2, u3, u4⟩ := l5 s hs
      simp only [tm_ap]
      by_cases hsn : s = n
      · subst hsn
        simp
        refine ⟨by grind, by grind, ?_⟩
        rw [ei]
        intro hq
        exact absurd hq (by grind)
      · simp [hsn]
        refine ⟨u1, u2, u3, fun hq => u4 ?_⟩
        grind
    · exact RF_fr h.2.2.2.2.2.1 (fA _ (by decide) (by decide)) (fA _ (by decide) (by decide)) (fA _ (by decide) (by decide)) (fA _ (by decide) (by decide)) (fA _ (by decide) (by decide)) (fA _ (by decide) (by decide)) p20 (fB _ (by decide) (by decide)) (fB _ (by decide) (by decide)) (fB _ (by decide) (by decide)) (fB _ (by decide) (by decide)) (fB _ (by decide) (by decide))
    · obtain ⟨r1, r2, r3, r4, r5⟩ := h.2.2.2.1
      unfold RW RO RM
      rw [fA 2 (by decide) (by decide), fA 3 (by decide) (by decide), fA 4 (by decide) (by decide), fA 5 (by decide) (by decide), fp 9 (by decide) (by decide), fB 41 (by decide) (by decide), fB 42 (by decide) (by decide), fB 43 (by decide) (by decide), fB 44 (by decide) (by decide), fB 45 (by decide) (by decide), fB 46 (by decide) (by decide), fB 47 (by decide) (by decide), fB 48 (by decide) (by decide)]
      refine ⟨r1, r2, r3, r4, fun i hi' => ⟨(r5 i hi').1, ?_⟩⟩
      obtain ⟨v1, v2, v3, v4, v5, v6, v7, v8, v9⟩ := (r5 i hi').2
      refine ⟨v1, v2, v3, v4, v5, v6, ?_, v8, v9⟩
      rcases v7 with v7 | ⟨v7, v7', v7''⟩
      · exact Or.inl v7
      · refine Or.inr ⟨v7, ?_, v7''⟩
        have hne : (β 42 0 i).toNatClampNeg ≠ n := fun hq => v7' (by rw [hq]; exact hz)
        simpa [tm_ap, hne] using v7'
theorem nar_b (b : Int32) (h : b = 0 ∨ b = 1) : vp_nar .boolean b = b := by
  rcases h with h | h <;> subst h <;> rfl
theorem is_eq (a : Int32) (μ ν : tm_M) : cv_36 a μ = cv_123 a ν ∧ (¬ cv_36 a μ = 0 → AD a) := by
  unfold cv_36 cv_123 AD
  refine ⟨by grind, by grind⟩
theorem stranger_ok (h : Rel q t r w α β) (a1 a2 : Int32) : cv_4 a1 a2 α = cv_128 a1 a2 β ∧ ci_4 a1 a2 α ∧ ci_128 a1 a2 β ∧ Rel q t r w (cs_4 a1 a2 α) (cs_128 a1 a2 β) := by
  obtain ⟨l1, l2, l3, l4, l5, l6, l7, l8⟩ := h.2.2.2.2.1
  obtain ⟨E1, E2⟩ := is_eq a1 α β
  unfold cv_4 ci_4 cs_4 cv_44 ci_44 cs_44 cv_128 ci_128 cs_128
  rw [← E1]
  by_cases hz : cv_36 a1 α = 0
  · simp only [hz, true_or, if_true]
    exact ⟨(by trivial), ⟨fun z => absurd (by trivial) z, fun z => absurd (by trivial) z⟩, ⟨fun z => absurd (by trivial) z, fun z => absurd (by trivial) z⟩, h⟩
  · have had := E2 hz
    obtain ⟨a0, a30, ix⟩ := AD_ix had
    have e11 := l6 _ (tn30 a0 a30)
    rw [e11]
    simp only [hz, false_or]
    by_cases hq : β 40 0 a1.toNatClampNeg = a2
    · simp only [if_pos hq]
      exact ⟨(by trivial), ⟨fun _ => ix, fun z => absurd hq z⟩, ⟨fun _ => ix, fun z => absurd hq z⟩, h⟩
    · simp only [if_neg hq]
      refine ⟨(by trivial), ⟨fun _ => ix, fun _ => ix⟩, ⟨fun _ => ix, fun _ => ix⟩, ?_⟩
      generalize vp_nar .boolean a2 = y
      generalize a1.toNatClampNeg = n at *
      have fA : ∀ k, k ≠ 11 → tm_wr α 11 0 n y k = α k := fun k h1 => tm_wr_ne h1
      have fB : ∀ k, k ≠ 40 → tm_wr β 40 0 n y k = β k := fun k h1 => tm_wr_ne h1
      have fa : ∀ k, k ∉ ([6, 7, 8, 9, 10, 11, 12, 14, 15, 16, 17, 18] : List Nat) → tm_wr α 11 0 n y k = α k := by
        intro k hk
        simp only [List.mem_cons, List.not_mem_nil, or_false, not_or] at hk
        exact fA k (by omega)
      have fb : ∀ k, k ∉ ([36, 37, 38, 39, 40, 49, 50, 51, 52, 53] : List Nat) → tm_wr β 40 0 n y k = β k := by
        intro k hk
        simp only [List.mem_cons, List.not_mem_nil, or_false, not_or] at hk
        exact fB k (by omega)
      have fp : ∀ p, p ≠ 20 → p ≠ 38 → tm_wr β 40 0 n y 36 0 p = β 36 0 p := fun p _ _ => by rw [fB 36 (by decide)]
      refine Rel_su h fa (fun k hk => fb k (nin_of hk (by decide))) fp ?_ ?_ (su_W h fa fb fp) (su_T h (fA _ (by decide)) fp (fB _ (by decide)) (fun k h1 h2 => fB k (by omega))) (su_S h (fA _ (by decide)) (fA _ (by decide)) (fA _ (by decide)) (by rw [fB 36 (by decide)]) (by rw [fB 36 (by decide)]) (fB _ (by decide)) (fun k h1 h2 => fB k (by omega)))
      · unfold RL
        rw [fA 6 (by decide), fA 7 (by decide), fA 8 (by decide), fA 9 (by decide), fA 10 (by decide), fB 36 (by decide), fB 37 (by decide), fB 38 (by decide), fB 67 (by decide), fB 39 (by decide)]
        refine ⟨l1, l2, l3, l4, l5, ?_, l7, l8⟩
        intro a ha
        simp only [tm_ap]
        by_cases han : a = n
        · simp [han]
        · simp [han]
          exact l6 a ha
      · exact RF_fr h.2.2.2.2.2.1 (fA _ (by decide)) (fA _ (by decide)) (fA _ (by decide)) (fA _ (by decide)) (fA _ (by decide)) (fA _ (by decide)) (by rw [fB 36 (by decide)]) (fB _ (by decide)) (fB _ (by decide)) (fB _ (by decide)) (fB _ (by decide)) (fB _ (by decide))
theorem file_eq (a : Int32) (μ ν : tm_M) : cv_51 a μ = cv_124 a ν ∧ (¬ cv_51 a μ = 0 → 0 ≤ a ∧ a < 4) := by
  unfold cv_51 cv_124
  refine ⟨by grind, by grind⟩
theorem n40 {f l : Nat} (hf : f < 4) (hl : l < 40) : 40 * Int32.ofNat f + Int32.ofNat l = Int32.ofNat (40 * f + l) := by
  have : (40 : Int32) = Int32.ofNat 40 := rfl
  rw [this, of_mul (by omega) (by omega) (by omega), of_add (by omega)]
theorem put_ok (h : Rel q t r w α β) (a1 a2 : Int32) : cv_5 a1 a2 α = cv_129 a1 a2 β ∧ ci_5 a1 a2 α ∧ ci_129 a1 a2 β ∧ Rel q t r w (cs_5 a1 a2 α) (cs_129 a1 a2 β) := by
  obtain ⟨m1, m2, m3, m4, m5⟩ := h.2.2.2.2.2.1
  obtain ⟨E1, E2⟩ := file_eq a1 α β
  unfold cv_5 ci_5 cs_5 cv_53 ci_53 cs_53 cv_129 ci_129 cs_129
  rw [← E1]
  by_cases hz : cv_51 a1 α = 0
  · simp only [hz, true_or, if_true]
    exact ⟨(by trivial), ⟨fun z => absurd (by trivial) z, fun z => absurd (by trivial) z, fun z => absurd (by trivial) z⟩, ⟨fun z => absurd (by trivial) z, fun z => absurd (by trivial) z, fun z => absurd (by trivial) z⟩, h⟩
  · obtain ⟨f0, f4⟩ := E2 hz
    have ix : tm_ix a1 4 = true := ix4.mpr ⟨f0, f4⟩
    obtain ⟨f, rfl, hf⟩ := nat_of (n := 3) (by decide) f0 (by show a1 ≤ 3; grind)
    have tf : (Int32.ofNat f).toNatClampNeg = f := tn_of (by omega)
    obtain ⟨u1, u2, u3, u4⟩ := m4 f (by omega)
    rw [tf, u1]
    simp only [hz, false_or]
    by_cases hq : a2 < 0 ∨ 255 < a2 ∨ β 49 0 f = 40
    · have hq' : a2 < 0 ∨ 255 < a2 ∨ ¬ β 49 0 f < 40 := by grind
      simp only [if_pos hq, if_pos hq']
      exact ⟨(by trivial), ⟨fun _ _ _ => ix, fun z => absurd hq' z, fun z => absurd hq' z⟩, ⟨fun _ _ _ => ix, fun z => absurd hq z, fun z => absurd hq z⟩, h⟩
    · have hq' : ¬ (a2 < 0 ∨ 255 < a2 ∨ ¬ β 49 0 f < 40) := by grind
      obtain ⟨l, hl, hlb⟩ := nat_of (x := β 49 0 f) (n := 39) (by decide) u2 (by show β 49 0 f ≤ 39; grind)
      simp only [if_neg hq, if_neg hq']
      rw [hl, n40 (by omega) (by omega), tn_of (by omega : l < 2147483648), tn_of (by omega : 40 * f + l < 2147483648), tI_of1]
      refine ⟨(by trivial), ⟨fun _ _ _ => ix, fun _ => ix, fun _ => ix_n (by decide) (by omega)⟩, ⟨fun _ _ _ => ix, fun _ => ix, fun _ => ix_n (by decide) (by omega)⟩, ?_⟩
      have fA : ∀ k, k ≠ 14 → k ≠ 15 → tm_wr (tm_wr α 14 f l a2) 15 0 f (Int32.ofNat (l + 1)) k = α k := fun k h1 h2 => by rw [tm_wr_ne h2, tm_wr_ne h1]
      have fB : ∀ k, k ≠ 50 → k ≠ 49 → tm_wr (tm_wr β 50 0 (40 * f + l) a2) 49 0 f (Int32.ofNat (l + 1)) k = β k := fun k h1 h2 => by rw [tm_wr_ne h2, tm_wr_ne h1]
      have fa : ∀ k, k ∉ ([6, 7, 8, 9, 10, 11, 12, 14, 15, 16, 17, 18] : List Nat) → tm_wr (tm_wr α 14 f l a2) 15 0 f (Int32.ofNat (l + 1)) k = α k := by
        intro k hk
        simp only [List.mem_cons, List.not_mem_nil, or_false, not_or] at hk
        exact fA k (by omega) (by omega)
      have fb : ∀ k, k ∉ ([36, 37, 38, 39, 40, 49, 50, 51, 52, 53] : List Nat) → tm_wr (tm_wr β 50 0 (40 * f + l) a2) 49 0 f (Int32.ofNat (l + 1)) k = β k := by
        intro k hk
        simp only [List.mem_cons, List.not_mem_nil, or_false, not_or] at hk
        exact fB k (by omega) (by omega)
      have fp : ∀ p, p ≠ 20 → p ≠ 38 → tm_wr (tm_wr β 50 0 (40 * f + l) a2) 49 0 f (Int32.ofNat (l + 1)) 36 0 p = β 36 0 p := fun p _ _ => by rw [fB 36 (by decide) (by decide)]
      have gr : ∀ x, x < 4 → β 49 0 x ≤ tm_wr (tm_wr β 50 0 (40 * f + l) a2) 49 0 f (Int32.ofNat (l + 1)) 49 0 x := by
        intro x _
        simp only [tm_ap]
        by_cases hxf : x = f
        · simp [hxf]
          rw [hl, tI_of1, of_le (by omega) (by omega)]; omega
        · simp [hxf]
      refine Rel_su h fa (fun k hk => fb k (nin_of hk (by decide))) fp ?_ ?_ (su_W h fa fb fp) ?_ (su_S h (fA _ (by decide) (by decide)) (fA _ (by decide) (by decide)) (fA _ (by decide) (by decide)) (by rw [fB 36 (by decide) (by decide)]) (by rw [fB 36 (by decide) (by decide)]) (fB _ (by decide) (by decide)) (fun k h1 h2 => fB k (by omega) (by omega)))
      · exact RL_fr h.2.2.2.2.1 (fA _ (by decide) (by decide)) (fA _ (by decide) (by decide)) (fA _ (by decide) (by decide)) (fA _ (by decide) (by decide)) (fA _ (by decide) (by decide)) (fA _ (by decide) (by decide)) (by rw [fB 36 (by decide) (by decide)]) (fB _ (by decide) (by decide)) (fB _ (by decide) (by decide)) (fB _ (by decide) (by decide)) (fB _ (by decide) (by decide)) (fB _ (by decide) (by decide))
      · unfold RF
        rw [fA 12 (by decide) (by decide), fA 16 (by decide) (by decide), fA 17 (by decide) (by decide), fA 18 (by decide) (by decide), fB 36 (by decide) (by decide), fB 51 (by decide) (by decide), fB 52 (by decide) (by decide), fB 53 (by decide) (by decide)]
        refine ⟨m1, m2, m3, ?_, m5⟩
        intro x hx
        obtain ⟨v1, v2, v3, v4⟩ := m4 x hx
        simp only [tm_ap]
        by_cases hxf : x = f
        · subst hxf
          simp
          rw [tI_of1]
          refine ⟨of0 (by omega), ?_, ?_⟩
          · show Int32.ofNat (l + 1) ≤ Int32.ofNat 40
            rw [of_le (by omega) (by decide)]; omega
          · intro j hj
            rw [v4 j hj]
        · simp [hxf]
          refine ⟨v1, v2, v3, ?_⟩
          intro j hj
          rw [if_neg (by omega)]
          exact v4 j hj
      · intro j hj
        have hT := h.2.2.2.2.2.2.2.2.1 j hj
        unfold RT at hT ⊢
        rw [fA 21 (by decide) (by decide), fB 36 (by decide) (by decide), fB 62 (by decide) (by decide), fB 63 (by decide) (by decide), fB 64 (by decide) (by decide), fB 65 (by decide) (by decide), fB 66 (by decide) (by decide)]
        obtain ⟨t1, t2, t3, t4, t5, t6⟩ := hT
        refine ⟨t1, t2, t3, t4, t5, ?_⟩
        rcases t6 with t6 | ⟨w0, w1, w2, w3, w4, w5, w6, w7⟩
        · exact Or.inl t6
        · have := gr (α 21 j 1).toNatClampNeg (tn4 w2 (by grind))
          refine Or.inr ⟨w0, w1, w2, w3, w4, w5, by grind, fun z => ?_⟩
          have := w7 z
          grind
theorem entry_ok (h : Rel q t r w α β) (a1 a2 a3 : Int32) : cv_6 a1 a2 a3 α = cv_130 a1 a2 a3 β ∧ ci_6 a1 a2 a3 α ∧ ci_130 a1 a2 a3 β ∧ Rel q t r w (cs_6 a1 a2 a3 α) (cs_130 a1 a2 a3 β) := by
  obtain ⟨m1, m2, m3, m4, m5⟩ := h.2.2.2.2.2.1
  obtain ⟨E1, E2⟩ := file_eq a1 α β
  unfold cv_6 ci_6 cs_6 cv_57 ci_57 cs_57 cv_130 ci_130 cs_130
  rw [← E1, m1]
  by_cases hz : cv_51 a1 α = 0 ∨ a2 < 0 ∨ 40 < a2 ∨ β 36 0 20 = 4
  · have hz' : cv_51 a1 α = 0 ∨ a2 < 0 ∨ 40 < a2 ∨ ¬ β 36 0 20 < 4 := by grind
    simp only [if_pos hz, if_pos hz']
    exact ⟨(by trivial), fun z => absurd hz' z, fun z => absurd hz z, h⟩
  · have hz' : ¬ (cv_51 a1 α = 0 ∨ a2 < 0 ∨ 40 < a2 ∨ ¬ β 36 0 20 < 4) := by grind
    obtain ⟨f0, f4⟩ := E2 (fun z => hz (Or.inl z))
    obtain ⟨l, hl, hlb⟩ := nat_of (x := β 36 0 20) (n := 3) (by decide) m2 (by show β 36 0 20 ≤ 3; grind)
    simp only [if_neg hz, if_neg hz']
    rw [hl, tn_of (by omega : l < 2147483648), tI_of1]
    refine ⟨(by trivial), fun _ => ix_n (by decide) (by omega), fun _ => ix_n (by decide) (by omega), ?_⟩
    have fA : ∀ k, k ≠ 16 → k ≠ 17 → k ≠ 18 → k ≠ 12 → tm_wr (tm_wr (tm_wr (tm_wr α 16 0 l a1) 17 0 l a2) 18 0 l a3) 12 0 5 (Int32.ofNat (l + 1)) k = α k := fun k h1 h2 h3 h4 => by rw [tm_wr_ne h4, tm_wr_ne h3, tm_wr_ne h2, tm_wr_ne h1]
    have fB : ∀ k, k ≠ 51 → k ≠ 52 → k ≠ 53 → k ≠ 36 → tm_wr (tm_wr (tm_wr (tm_wr β 51 0 l a1) 52 0 l a2) 53 0 l a3) 36 0 20 (Int32.ofNat (l + 1)) k = β k := fun k h1 h2 h3 h4 => by rw [tm_wr_ne h4, tm_wr_ne h3, tm_wr_ne h2, tm_wr_ne h1]
    have fa : ∀ k, k ∉ ([6, 7, 8, 9, 10, 11, 12, 14, 15, 16, 17, 18] : List Nat) → tm_wr (tm_wr (tm_wr (tm_wr α 16 0 l a1) 17 0 l a2) 18 0 l a3) 12 0 5 (Int32.ofNat (l + 1)) k = α k := by
      intro k hk
      simp only [List.mem_cons, List.not_mem_nil, or_false, not_or] at hk
      exact fA k (by omega) (by omega) (by omega) (by omega)
    have fb : ∀ k, k ∉ ([36, 37, 38, 39, 40, 49, 50, 51, 52, 53] : List Nat) → tm_wr (tm_wr (tm_wr (tm_wr β 51 0 l a1) 52 0 l a2) 53 0 l a3) 36 0 20 (Int32.ofNat (l + 1)) k = β k := by
      intro k hk
      simp only [List.mem_cons, List.not_mem_nil, or_false, not_or] at hk
      exact fB k (by omega) (by omega) (by omega) (by omega)
    have fq : ∀ p, p ≠ 20 → tm_wr (tm_wr (tm_wr (tm_wr β 51 0 l a1) 52 0 l a2) 53 0 l a3) 36 0 20 (Int32.ofNat (l + 1)) 36 0 p = β 36 0 p := fun p hp => by simp [tm_ap, hp]
    have fp : ∀ p, p ≠ 20 → p ≠ 38 → tm_wr (tm_wr (tm_wr (tm_wr β 51 0 l a1) 52 0 l a2) 53 0 l a3) 36 0 20 (Int32.ofNat (l + 1)) 36 0 p = β 36 0 p := fun p hp _ => fq p hp
    have e20 : tm_wr (tm_wr (tm_wr (tm_wr β 51 0 l a1) 52 0 l a2) 53 0 l a3) 36 0 20 (Int32.ofNat (l + 1)) 36 0 20 = Int32.ofNat (l + 1) := by simp [tm_ap]
    refine Rel_su h fa (fun k hk => fb k (nin_of hk (by decide))) fp ?_ ?_ (su_W h fa fb fp) (su_T h (fA _ (by decide) (by decide) (by decide) (by decide)) fp (fB _ (by decide) (by decide) (by decide) (by decide)) (fun k h1 h2 => fB k (by omega) (by omega) (by omega) (by omega))) ?_
    · exact RL_fr h.2.2.2.2.1 (fA _ (by decide) (by decide) (by decide) (by decide)) (fA _ (by decide) (by decide) (by decide) (by decide)) (fA _ (by decide) (by decide) (by decide) (by decide)) (fA _ (by decide) (by decide) (by decide) (by decide)) (fA _ (by decide) (by decide) (by decide) (by decide)) (fA _ (by decide) (by decide) (by decide) (by decide)) (fq _ (by decide)) (fB _ (by decide) (by decide) (by decide) (by decide)) (fB _ (by decide) (by decide) (by decide) (by decide)) (fB _ (by decide) (by decide) (by decide) (by decide)) (fB _ (by decide) (by decide) (by decide) (by decide)) (fB _ (by decide) (by decide) (by decide) (by decide))
    · unfold RF
      rw [fA 14 (by decide) (by decide) (by decide) (by decide), fA 15 (by decide) (by decide) (by decide) (by decide), fB 49 (by decide) (by decide) (by decide) (by decide), fB 50 (by decide) (by decide) (by decide) (by decide), e20]
      refine ⟨by simp [tm_ap], of0 (by omega), ?_, m4, ?_⟩
      · show Int32.ofNat (l + 1) ≤ Int32.ofNat 4
        rw [of_le (by omega) (by decide)]; omega
      · intro e he
        obtain ⟨v1, v2, v3, v4, v5, v6, v7⟩ := m5 e he
        simp only [tm_ap]
        by_cases hel : e = l
        · simp [hel]
          grind
        · simp [hel]
          exact ⟨v1, v2, v3, v4, v5, v6, v7⟩
    · intro j hj
      have hS := h.2.2.2.2.2.2.2.2.2.1 j hj
      unfold RS at hS ⊢
      rw [fA 33 (by decide) (by decide) (by decide) (by decide), fA 34 (by decide) (by decide) (by decide) (by decide), fA 35 (by decide) (by decide) (by decide) (by decide), fq 1 (by decide), e20, fB 68 (by decide) (by decide) (by decide) (by decide), fB 69 (by decide) (by decide) (by decide) (by decide), fB 70 (by decide) (by decide) (by decide) (by decide), fB 72 (by decide) (by decide) (by decide) (by decide), fB 73 (by decide) (by decide) (by decide) (by decide), fB 74 (by decide) (by decide) (by decide) (by decide), fB 75 (by decide) (by decide) (by decide) (by decide), fB 76 (by decide) (by decide) (by decide) (by decide), fB 77 (by decide) (by decide) (by decide) (by decide), fB 78 (by decide) (by decide) (by decide) (by decide), fB 79 (by decide) (by decide) (by decide) (by decide), fB 80 (by decide) (by decide) (by decide) (by decide), fB 81 (by decide) (by decide) (by decide) (by decide), fB 82 (by decide) (by decide) (by decide) (by decide), fB 83 (by decide) (by decide) (by decide) (by decide)]
      obtain ⟨s1, s2, s3, s4, s5, s6, s7, s8, s9, s10, s11, s12, s13, s14, s15, s16, s17, s18, s19, s20, s21, s22, s23, s24, s25, s26, s27⟩ := hS
      refine ⟨s1, s2, s3, s4, s5, s6, s7, s8, s9, s10, s11, s12, s13, s14, s15, s16, s17, s18, s19, s20, s21, s22, s23, s24, s25, s26, fun z => ?_⟩
      obtain ⟨z1, z2, z3, z4, z5⟩ := s27 z
      rw [hl] at z2
      have hle : (β 77 0 j).toNatClampNeg ≤ l := by
        rw [← of_tn z1, of_lt (tn_b _) (by omega)] at z2
        omega
      refine ⟨z1, ?_, ?_, z4, z5⟩
      · rw [← of_tn z1, of_lt (tn_b _) (by omega)] at z2
        rw [← of_tn z1, of_lt (tn_b _) (by omega)]
        omega
      · rw [z3]
        refine SL_cong _ (fun x hx => ?_)
        have hxl : x ≠ l := by omega
        simp [tm_ap, hxl]
end SI
