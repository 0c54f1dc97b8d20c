/-! Sending and station writes keep the relation. -/
section ST
variable {q : Int32 × Nat} {t r w : Nat} {α β α' β' : tm_M}
theorem tm_ap (μ : tm_M) (k i p : Nat) (x : Int32) (k' i' p' : Nat) : tm_wr μ k i p x k' i' p' = if k' = k ∧ p' = p ∧ i' = i then x else μ k' i' p' := rfl
theorem tm_id (μ : tm_M) (k i p : Nat) : tm_wr μ k i p (μ k i p) = μ := by
  funext a b c
  rw [tm_ap]
  split
  · rename_i h; rw [h.1, h.2.1, h.2.2]
  · rfl
theorem tm_cm {k k' : Nat} (h : k ≠ k') (μ : tm_M) (i p i' p' : Nat) (x y : Int32) : tm_wr (tm_wr μ k' i' p' y) k i p x = tm_wr (tm_wr μ k i p x) k' i' p' y := by
  funext a b c
  simp only [tm_ap]
  split
  · rename_i h1
    rw [if_neg (by omega)]
  · rfl
theorem nin_of {k : Nat} {l l' : List Nat} (h : k ∉ l) (hl : l'.all (fun x => decide (x ∈ l)) = true) : k ∉ l' := fun hk => h (by
  have := List.all_eq_true.mp hl k hk
  simpa using this)
theorem p36 (k s n it b : Int32) (μ : tm_M) (p : Nat) (hp : p ≠ 9) : cs_135 k s n it b μ 36 0 p = μ 36 0 p := by
  unfold cs_135
  split <;> simp [tm_ap, hp]
theorem wr_117 {k : Nat} (h2 : k ≠ 2) (h3 : k ≠ 3) (h4 : k ≠ 4) (a1 a2 a3 a4 a5 a6 : Int32) (μ : tm_M) (i p : Nat) (x : Int32) : tm_wr (cs_117 a1 a2 a3 a4 a5 a6 μ) k i p x = cs_117 a1 a2 a3 a4 a5 a6 (tm_wr μ k i p x) := by
  have e2 : tm_wr μ k i p x 2 = μ 2 := tm_wr_ne (Ne.symm h2)
  have e3 : tm_wr μ k i p x 3 = μ 3 := tm_wr_ne (Ne.symm h3)
  unfold cs_117
  rw [e2, e3]
  by_cases hc : (32 : Int32) ≤ μ 2 0 1
  · simp only [if_pos hc, tm_cm h4, tm_cm h2]
  · simp only [if_neg hc, tm_cm h4, tm_cm h2]
theorem wr_135 {k : Nat} (h : k ∉ ([36, 41, 42, 43, 44, 45, 46, 47, 67] : List Nat)) (a1 a2 a3 a4 a5 : Int32) (μ : tm_M) (i p : Nat) (x : Int32) : tm_wr (cs_135 a1 a2 a3 a4 a5 μ) k i p x = cs_135 a1 a2 a3 a4 a5 (tm_wr μ k i p x) := by
  simp only [List.mem_cons, List.not_mem_nil, or_false, not_or] at h
  obtain ⟨h36, h41, h42, h43, h44, h45, h46, h47, h67⟩ := h
  have e2 : tm_wr μ k i p x 36 = μ 36 := tm_wr_ne (Ne.symm h36)
  have e3 : tm_wr μ k i p x 67 = μ 67 := tm_wr_ne (Ne.symm h67)
  unfold cs_135 cv_134
  rw [e2, e3]
  by_cases hc : μ 36 0 9 = 32
  · simp only [if_pos hc]
  · simp only [if_neg hc, tm_cm h36, tm_cm h41, tm_cm h42, tm_cm h43, tm_cm h44, tm_cm h45, tm_cm h46, tm_cm h47]
theorem ci_sc (h : Rel q t r w α β) {μ : tm_M} (e : μ 2 0 1 = α 2 0 1) : ¬ (32 : Int32) ≤ μ 2 0 1 → tm_ix (μ 2 0 1) 32 = true := by
  intro hc
  obtain ⟨-, -, -, ⟨hr, e1, -⟩, -⟩ := h
  rw [e, e1] at hc ⊢
  exact ix_n (by decide) (by
    have : ¬ Int32.ofNat 32 ≤ Int32.ofNat r := hc
    rw [of_le (by decide) (by omega)] at this
    omega)
theorem ci_sr (h : Rel q t r w α β) {μ : tm_M} (e : μ 36 0 9 = β 36 0 9) {k s n it b : Int32} (h0 : 0 ≤ s) (h6 : s < 6) : ci_135 k s n it b μ := by
  obtain ⟨-, -, -, ⟨hr, -, e2, -⟩, -⟩ := h
  refine ⟨fun hc => ?_, fun _ _ => ix6.mpr ⟨h0, h6⟩⟩
  rw [e, e2] at hc ⊢
  exact ix_n (by decide) (by
    have : ¬ Int32.ofNat r = Int32.ofNat 32 := hc
    rw [of_eq (by omega) (by decide)] at this
    omega)
/-- sending leaves the message that is outside -/
theorem out_117 (h : RW r α β) (a1 a2 a3 a4 a5 a6 : Int32) : cs_117 a1 a2 a3 a4 a5 a6 α 4 (α 2 0 2).toNatClampNeg = α 4 (α 2 0 2).toNatClampNeg := by
  obtain ⟨hr, e1, -, ⟨o1, o2, -⟩, -⟩ := h
  funext p
  unfold cs_117
  by_cases hc : (32 : Int32) ≤ α 2 0 1
  · simp [if_pos hc, tm_ap, o1]
  · have c : r < 32 := by
      rw [e1] at hc
      have : ¬ Int32.ofNat 32 ≤ Int32.ofNat r := hc
      rw [of_le (by decide) (by omega)] at this
      omega
    have h2 := (o2 r c).2
    have h2' : (α 2 0 2).toNatClampNeg ≠ (α 3 0 (α 2 0 1).toNatClampNeg).toNatClampNeg := by
      rw [e1, tn_of (by omega : r < 2147483648)]
      exact fun q => h2 q.symm
    simp [if_neg hc, tm_ap, h2']
theorem out2_117 (a1 a2 a3 a4 a5 a6 : Int32) (α : tm_M) : cs_117 a1 a2 a3 a4 a5 a6 α 2 0 2 = α 2 0 2 := by
  unfold cs_117
  split <;> simp [tm_ap]
theorem RN_fr {s : Nat} (h : RN α β s) (a : α' 33 s 7 = α 33 s 7) (b : β' 68 0 s = β 68 0 s) (c : β' 71 0 s = β 71 0 s) : RN α' β' s := by
  unfold RN at *
  rw [a, b, c]; exact h
theorem send_rel (h : Rel q t r w α β) (k s leg n it b : Int32) (hmv : MV (β 67 0) k s it 0 leg) (hleg : leg = ((if cv_134 k β = 0 then 0 else ((if β 67 0 s.toNatClampNeg = 0 then 0 else 1) : Int32)) : Int32)) : Rel q t (nx r) w (cs_117 k s leg n it b α) (cs_135 k s n it b β) := by
  obtain ⟨hQ, hG, hT, hW, hL, hF, hB, hJ, hTr, hS, hN⟩ := h
  have fa : ∀ k', k' ∉ ([2, 4] : List Nat) → cs_117 k s leg n it b α k' = α k' := fun k' hk => fr_117 _ _ _ _ _ _ _ k' hk
  have fb : ∀ k', k' ∉ ([36, 41, 42, 43, 44, 45, 46, 47] : List Nat) → cs_135 k s n it b β k' = β k' := fun k' hk => fr_135 _ _ _ _ _ _ k' hk
  have fp : ∀ p, p ≠ 9 → cs_135 k s n it b β 36 0 p = β 36 0 p := fun p hp => p36 _ _ _ _ _ _ p hp
  refine ⟨?_, ?_, ?_, send_ok hW k s leg n it b hmv hleg, ?_, ?_, ?_, ?_, ?_, ?_, ?_⟩
  · unfold RQ at *
    rw [out2_117, out_117 hW]; exact hQ
  · exact RG_fr hG (by rw [fa 1 (by decide)]) (fp _ (by decide)) (fp _ (by decide)) (fp _ (by decide)) (fp _ (by decide)) (fp _ (by decide))
  · rw [fp _ (by decide)]; exact hT
  · exact RL_fr hL (fa _ (by decide)) (fa _ (by decide)) (fa _ (by decide)) (fa _ (by decide)) (fa _ (by decide)) (fa _ (by decide)) (fp _ (by decide)) (fb _ (by decide)) (fb _ (by decide)) (fb _ (by decide)) (fb _ (by decide)) (fb _ (by decide))
  · exact RF_fr hF (fa _ (by decide)) (fa _ (by decide)) (fa _ (by decide)) (fa _ (by decide)) (fa _ (by decide)) (fa _ (by decide)) (fp _ (by decide)) (fb _ (by decide)) (fb _ (by decide)) (fb _ (by decide)) (fb _ (by decide)) (fb _ (by decide))
  · exact RB_fr hB (fa _ (by decide)) (fa _ (by decide)) (fa _ (by decide)) (fa _ (by decide)) (fa _ (by decide)) (fp _ (by decide)) (fb _ (by decide)) (fb _ (by decide)) (fb _ (by decide)) (fb _ (by decide)) (fb _ (by decide))
  · exact RJ_fr hJ (fa _ (by decide)) (fa _ (by decide)) (fa _ (by decide)) (fa _ (by decide)) (fp _ (by decide)) (fb _ (by decide)) (fb _ (by decide)) (fb _ (by decide))
  · intro j hj
    exact RT_fr (hTr j hj) (by rw [fa 21 (by decide)]) (fp _ (by decide)) (fp _ (by decide)) (fb _ (by decide)) (by rw [fb 62 (by decide)]) (by rw [fb 63 (by decide)]) (by rw [fb 64 (by decide)]) (by rw [fb 65 (by decide)]) (by rw [fb 66 (by decide)])
  · intro j hj
    exact RS_fr (hS j hj) (by rw [fa 33 (by decide)]) (by rw [fa 34 (by decide)]) (by rw [fa 35 (by decide)]) (fp _ (by decide)) (fp _ (by decide)) (fb _ (by decide)) (fun k' h1 h2 => by
      rw [fb k' (by simp only [List.mem_cons, List.not_mem_nil, or_false]; omega)]) (fun k' _ => by rw [fb 83 (by decide)])
  · intro j hj hjw
    exact RN_fr (hN j hj hjw) (by rw [fa 33 (by decide)]) (by rw [fb 68 (by decide)]) (by rw [fb 71 (by decide)])
/-- writes in one station's fields, and the number -/
theorem Rel_w (h : Rel q t r w α β) {i : Nat} (hi : i < 6) (hw : w = 6 ∨ w = i) (w' : Nat)
    (fa : ∀ k j p, ¬ (k = 33 ∧ j = i) → ¬ (k = 34 ∧ j = i) → ¬ (k = 35 ∧ j = i) → ¬ (k = 1 ∧ p = 4) → α' k j p = α k j p)
    (fb : ∀ k j p, ¬ (68 ≤ k ∧ k ≤ 82 ∧ p = i) → ¬ (k = 83 ∧ 240 * i ≤ p ∧ p < 240 * i + 240) → ¬ (k = 36 ∧ p = 4) → β' k j p = β k j p)
    (h4 : α' 1 0 4 = β' 36 0 4) (hs : RS α' β' i) (hn : i ≠ w' → RN α' β' i) : Rel q t r w' α' β' := by
  obtain ⟨hQ, hG, hT, hW, hL, hF, hB, hJ, hTr, hS, hN⟩ := h
  have ga : ∀ k, k ∉ ([1, 33, 34, 35] : List Nat) → α' k = α k := by
    intro k hk
    simp only [List.mem_cons, List.not_mem_nil, or_false] at hk
    funext j p
    exact fa k j p (by omega) (by omega) (by omega) (by omega)
  have gb : ∀ k, k < 68 → k ≠ 36 → β' k = β k := by
    intro k h1 h2
    funext j p
    exact fb k j p (by omega) (by omega) (by omega)
  have gp : ∀ p, p ≠ 4 → β' 36 0 p = β 36 0 p := fun p hp => fb 36 0 p (by omega) (by omega) (by omega)
  have g1 : ∀ p, p ≠ 4 → α' 1 0 p = α 1 0 p := fun p hp => fa 1 0 p (by omega) (by omega) (by omega) (by omega)
  refine ⟨?_, ?_, ?_, ?_, ?_, ?_, ?_, ?_, ?_, ?_, ?_⟩
  · unfold RQ at *
    rw [ga 4 (by decide), ga 2 (by decide)]; exact hQ
  · unfold RG at *
    rw [g1 0 (by decide), g1 1 (by decide), g1 2 (by decide), g1 3 (by decide), h4, gp 0 (by decide), gp 1 (by decide), gp 2 (by decide), gp 3 (by decide)]
    obtain ⟨h1, h2, h3, h4, h5, h6⟩ := hG
    exact ⟨h1, h2, h3, h4, rfl, h6⟩
  · rw [gp 3 (by decide)]; exact hT
  · exact RW_fr hW (ga _ (by decide)) (ga _ (by decide)) (ga _ (by decide)) (ga _ (by decide)) (gp _ (by decide)) (gb _ (by decide) (by decide)) (gb _ (by decide) (by decide)) (gb _ (by decide) (by decide)) (gb _ (by decide) (by decide)) (gb _ (by decide) (by decide)) (gb _ (by decide) (by decide)) (gb _ (by decide) (by decide)) (gb _ (by decide) (by decide)) (gb _ (by decide) (by decide))
  · exact RL_fr hL (ga _ (by decide)) (ga _ (by decide)) (ga _ (by decide)) (ga _ (by decide)) (ga _ (by decide)) (ga _ (by decide)) (gp _ (by decide)) (gb _ (by decide) (by decide)) (gb _ (by decide) (by decide)) (gb _ (by decide) (by decide)) (gb _ (by decide) (by decide)) (gb _ (by decide) (by decide))
  · exact RF_fr hF (ga _ (by decide)) (ga _ (by decide)) (ga _ (by decide)) (ga _ (by decide)) (ga _ (by decide)) (ga _ (by decide)) (gp _ (by decide)) (gb _ (by decide) (by decide)) (gb _ (by decide) (by decide)) (gb _ (by decide) (by decide)) (gb _ (by decide) (by decide)) (gb _ (by decide) (by decide))
  · exact RB_fr hB (ga _ (by decide)) (ga _ (by decide)) (ga _ (by decide)) (ga _ (by decide)) (ga _ (by decide)) (gp _ (by decide)) (gb _ (by decide) (by decide)) (gb _ (by decide) (by decide)) (gb _ (by decide) (by decide)) (gb _ (by decide) (by decide)) (gb _ (by decide) (by decide))
  · exact RJ_fr hJ (ga _ (by decide)) (ga _ (by decide)) (ga _ (by decide)) (ga _ (by decide)) (gp _ (by decide)) (gb _ (by decide) (by decide)) (gb _ (by decide) (by decide)) (gb _ (by decide) (by decide))
  · intro j hj
    exact RT_fr (hTr j hj) (by rw [ga 21 (by decide)]) (gp _ (by decide)) (gp _ (by decide)) (gb _ (by decide) (by decide)) (by rw [gb 62 (by decide) (by decide)]) (by rw [gb 63 (by decide) (by decide)]) (by rw [gb 64 (by decide) (by decide)]) (by rw [gb 65 (by decide) (by decide)]) (by rw [gb 66 (by decide) (by decide)])
  · intro j hj
    by_cases hjs : j = i
    · rw [hjs]; exact hs
    · exact RS_fr (hS j hj) (by funext p; exact fa 33 j p (by omega) (by omega) (by omega) (by omega)) (by funext p; exact fa 34 j p (by omega) (by omega) (by omega) (by omega)) (by funext p; exact fa 35 j p (by omega) (by omega) (by omega) (by omega)) (gp _ (by decide)) (gp _ (by decide)) (gb _ (by decide) (by decide)) (fun k h1 h2 => fb k 0 j (by omega) (by omega) (by omega)) (fun k hk => fb 83 0 (240 * j + k) (by omega) (by omega) (by omega))
  · intro j hj hjw
    by_cases hjs : j = i
    · rw [hjs]; exact hn (by omega)
    · exact RN_fr (hN j hj (by omega)) (fa 33 j 7 (by omega) (by omega) (by omega) (by omega)) (fb 68 0 j (by omega) (by omega) (by omega)) (fb 71 0 j (by omega) (by omega) (by omega))
/-- what every station step wants -/
theorem pre (h : Rel q t r w α β) {s : Int32} (h0 : 0 ≤ s) (h6 : s < 6) : s.toNatClampNeg < 6 ∧ Int32.ofNat s.toNatClampNeg = s ∧ α 33 s.toNatClampNeg 0 = s ∧ α 34 s.toNatClampNeg 0 = s ∧ α 1 0 0 = β 36 0 0 ∧ α 1 0 1 = β 36 0 1 ∧ α 1 0 2 = β 36 0 2 ∧ α 1 0 3 = β 36 0 3 ∧ α 1 0 4 = β 36 0 4 ∧ RS α β s.toNatClampNeg ∧ 1 ≤ β 36 0 1 ∧ β 36 0 1 ≤ 5 := by
  obtain ⟨-, ⟨g0, g1, g2, g3, g4, g5, g6, g7, g8, g9⟩, -, -, -, -, -, -, -, hS, -⟩ := h
  have hi := tn6 h0 h6
  have hs := hS _ hi
  exact ⟨hi, of_tn h0, hs.1.trans (of_tn h0), hs.2.1.trans (of_tn h0), g0, g1, g2, g3, g4, hs, g7, g8⟩
theorem mv_s {f : Nat → Int32} {k s it : Int32} (h0 : 0 ≤ s) (h6 : s < 6) (k0 : 0 ≤ k) (k1 : k ≤ 11) (ha : 1 ≤ k → k ≤ 7 → AD it) (hf : 8 ≤ k → 0 ≤ it ∧ it ≤ 3) : MV f k s it 0 0 :=
  ⟨k0, k1, h0, h6, by decide, by decide, Or.inl rfl, ha, hf⟩
end ST
