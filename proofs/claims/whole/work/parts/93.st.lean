/-! Station steps keep the relation. -/
section ST
variable {t r r' : Nat} {α β α' β' : tm_M}
theorem tm_ap (μ : tm_M) (k i p : Nat) (x : Int32) (k' i' p' : Nat) : tm_wr μ k i p x k' i' p' = if k' = k ∧ p' = p ∧ i' = i then x else μ k' i' p' := rfl
theorem Rel_st (h : Rel t r α β) (s : Nat) (hs : s < 6) (hg : α' 1 0 4 = β' 36 0 4) (fa1 : ∀ p, p ≠ 4 → α' 1 0 p = α 1 0 p) (fb36 : ∀ p, p ≠ 4 → p ≠ 9 → β' 36 0 p = β 36 0 p)
    (hw : RW r' α' β') (hs' : RS α' β' s) (fa : ∀ k, k ∉ ([1, 2, 4, 33, 34, 35] : List Nat) → α' k = α k) (f33 : ∀ j, j ≠ s → α' 33 j = α 33 j) (f34 : ∀ j, j ≠ s → α' 34 j = α 34 j) (f35 : ∀ j, j ≠ s → α' 35 j = α 35 j)
    (fb : ∀ k, k ∉ ([36, 41, 42, 43, 44, 45, 46, 47, 48, 68, 69, 70, 71, 72, 73, 74, 75, 76, 77, 78, 79, 80, 81, 82, 83, 84, 85] : List Nat) → β' k = β k) (fbs : ∀ k, 68 ≤ k → k ≤ 82 → ∀ j, j ≠ s → β' k 0 j = β k 0 j) (fb83 : ∀ j, j < 6 → j ≠ s → ∀ k, k < 172 → β' 83 0 (240 * j + k) = β 83 0 (240 * j + k)) : Rel t r' α' β' := by
  obtain ⟨hG, hT, hW, hL, hF, hB, hJ, hTr, hS⟩ := h
  refine ⟨?_, ?_, hw, ?_, ?_, ?_, ?_, ?_, ?_⟩
  · unfold RG at *
    rw [fa1 0 (by decide), fa1 1 (by decide), fa1 2 (by decide), fa1 3 (by decide), hg, fb36 0 (by decide) (by decide), fb36 1 (by decide) (by decide), fb36 2 (by decide) (by decide), fb36 3 (by decide) (by decide)]
    obtain ⟨h1, h2, h3, h4, h5, h6⟩ := hG
    exact ⟨h1, h2, h3, h4, rfl, h6⟩
  · rw [fb36 3 (by decide) (by decide)]; exact hT
  · exact RL_fr hL (fa _ (by decide)) (fa _ (by decide)) (fa _ (by decide)) (fa _ (by decide)) (fa _ (by decide)) (fa _ (by decide)) (fb36 _ (by decide) (by decide)) (fb _ (by decide)) (fb _ (by decide)) (fb _ (by decide)) (fb _ (by decide)) (fb _ (by decide))
  · exact RF_fr hF (fa _ (by decide)) (fa _ (by decide)) (fa _ (by decide)) (fa _ (by decide)) (fa _ (by decide)) (fa _ (by decide)) (fb36 _ (by decide) (by decide)) (fb _ (by decide)) (fb _ (by decide)) (fb _ (by decide)) (fb _ (by decide)) (fb _ (by decide))
  · exact RB_fr hB (fa _ (by decide)) (fa _ (by decide)) (fa _ (by decide)) (fa _ (by decide)) (fa _ (by decide)) (fb36 _ (by decide) (by decide)) (fb _ (by decide)) (fb _ (by decide)) (fb _ (by decide)) (fb _ (by decide)) (fb _ (by decide))
  · exact RJ_fr hJ (fa _ (by decide)) (fa _ (by decide)) (fa _ (by decide)) (fa _ (by decide)) (fb36 _ (by decide) (by decide)) (fb _ (by decide)) (fb _ (by decide)) (fb _ (by decide))
  · intro j hj
    exact RT_fr (hTr j hj) (by rw [fa 21 (by decide)]) (fb36 _ (by decide) (by decide)) (fb36 _ (by decide) (by decide)) (fb _ (by decide)) (by rw [fb 62 (by decide)]) (by rw [fb 63 (by decide)]) (by rw [fb 64 (by decide)]) (by rw [fb 65 (by decide)]) (by rw [fb 66 (by decide)])
  · intro j hj
    by_cases hjs : j = s
    · rw [hjs]; exact hs'
    · exact RS_fr (hS j hj) (f33 j hjs) (f34 j hjs) (f35 j hjs) (fb36 _ (by decide) (by decide)) (fb36 _ (by decide) (by decide)) (fb _ (by decide)) (fun k h1 h2 => fbs k h1 h2 j hjs) (fun k hk => fb83 j hj hjs k hk)
theorem nin_of {k : Nat} {l l' : List Nat} (h : k ∉ l) (hl : l'.all (fun x => decide (x ∈ l)) = true) : k ∉ l' := fun hk => h (by
  have := List.all_eq_true.mp hl k hk
  simpa using this)
theorem ci_send_c (h : RW r α β) {k s leg n it b : Int32} : ci_117 k s leg n it b α := by
  intro hc
  obtain ⟨hr, e1, -⟩ := h
  rw [e1] at hc ⊢
  exact ix_n (by decide) (by
    have : ¬ Int32.ofNat 32 ≤ Int32.ofNat r := hc
    rw [of_le (by decide) (by omega)] at this
    omega)
theorem ci_send_r (h : RW r α β) {k s n it b : Int32} (h0 : 0 ≤ s) (h6 : s < 6) : ci_135 k s n it b β := by
  obtain ⟨hr, -, e2, -⟩ := h
  refine ⟨fun hc => ?_, fun _ _ => ix6.mpr ⟨h0, h6⟩⟩
  rw [e2] at hc ⊢
  exact ix_n (by decide) (by
    have : ¬ Int32.ofNat r = Int32.ofNat 32 := hc
    rw [of_eq (by omega) (by decide)] at this
    omega)
/-- the first memory of select, before it sends -/
def s1_c (i : Nat) (α : tm_M) : tm_M := tm_wr (tm_wr (tm_wr (tm_wr (tm_wr α 33 i 4 1) 33 i 5 0) 1 0 4 (α 1 0 4 + 1)) 33 i 6 (α 1 0 4 + 1)) 33 i 10 1
def s1_r (i : Nat) (β : tm_M) : tm_M := tm_wr (tm_wr (tm_wr (tm_wr β 68 0 i 1) 69 0 i 0) 36 0 4 (β 36 0 4 + 1)) 70 0 i (β 36 0 4 + 1)
theorem nf_103 (i : Nat) (α : tm_M) : cs_103 i α = cs_62 i (tm_wr (cs_117 0 (α 33 i 0) 0 (α 1 0 4 + 1) 0 0 (s1_c i α)) 33 i 9 (α 1 0 3 + 3)) := by
  unfold cs_103 cs_104 cs_34 cv_34 s1_c
  simp [tm_ap, fr_117]
theorem nf_158 (s : Int32) (β : tm_M) : cs_158 s β = tm_wr (tm_wr (tm_wr (cs_135 0 s (β 36 0 4 + 1) 0 0 (s1_r s.toNatClampNeg β)) 74 0 s.toNatClampNeg 1) 73 0 s.toNatClampNeg (β 36 0 3 + 3)) 76 0 s.toNatClampNeg (if β 76 0 s.toNatClampNeg = 1 then 0 else β 76 0 s.toNatClampNeg) := by
  have e : ∀ k s n it b (μ : tm_M), cs_135 k s n it b μ 36 0 3 = μ 36 0 3 := by
    intro k s n it b μ
    unfold cs_135
    split <;> simp [tm_ap]
  unfold cs_158 cs_157 s1_r
  simp [tm_ap, fr_135, e]
theorem ap_62 (i : Nat) (μ : tm_M) (k j p : Nat) : cs_62 i μ k j p = if (k = 34 ∧ p = 11 ∧ j = i) ∧ μ 34 i 11 = 1 then 0 else μ k j p := by
  unfold cs_62
  split
  · rw [tm_ap]; simp_all
  · simp_all
theorem p36 (k s n it b : Int32) (μ : tm_M) (p : Nat) (hp : p ≠ 9) : cs_135 k s n it b μ 36 0 p = μ 36 0 p := by
  unfold cs_135
  split <;> simp [tm_ap, hp]
set_option maxHeartbeats 1000000 in
theorem select_ok (h : Rel t r α β) (s : Int32) (h0 : 0 ≤ s) (h6 : s < 6) (hc : β 75 0 s.toNatClampNeg < β 36 0 1) : Rel t (nx r) (cs_103 s.toNatClampNeg α) (cs_158 s β) := by
  have hi := tn6 h0 h6
  have hoi : Int32.ofNat s.toNatClampNeg = s := of_tn h0
  have H := h
  obtain ⟨hG, hT, hW, hL, hF, hB, hJ, hTr, hS⟩ := H
  have hs := hS _ hi
  have hg4 : α 1 0 4 = β 36 0 4 := hG.2.2.2.2.1
  have hg3 : α 1 0 3 = β 36 0 3 := hG.2.2.2.1
  have hself : α 33 s.toNatClampNeg 0 = s := hs.1.trans hoi
  have hsub := hL.2.2.2.2.1 _ hi
  rw [nf_103, nf_158, hself, hg4, hg3]
  generalize s.toNatClampNeg = i at *
  have w1 : RW r (s1_c i α) (s1_r i β) := RW_fr hW rfl rfl rfl rfl rfl rfl rfl rfl rfl rfl rfl rfl rfl rfl
  have w2 := send_ok w1 0 s 0 (β 36 0 4 + 1) 0 0 (by
    refine ⟨by decide, by decide, h0, h6, by decide, by decide, Or.inl rfl, fun h => absurd h (by decide), fun h => absurd h (by decide)⟩) rfl
  refine Rel_st h i hi ?_ ?_ ?_ ?_ ?_ ?_ ?_ ?_ ?_ ?_ ?_ ?_
  · simp [ap_62, tm_ap, fr_117, p36, s1_c, s1_r, hg4]
  · intro p hp
    simp [ap_62, tm_ap, fr_117, s1_c, hp]
  · intro p hp hp9
    simp [tm_ap, p36, hp9, s1_r, hp]
  · refine RW_fr w2 ?_ ?_ ?_ ?_ ?_ ?_ ?_ ?_ ?_ ?_ ?_ ?_ ?_ ?_
    all_goals first
      | (funext j p; simp [ap_62, tm_ap]; done)
      | simp [tm_ap]
  · unfold RS at hs ⊢
    simp [ap_62, tm_ap, fr_117, fr_135, p36, s1_c, s1_r, hoi] at hs ⊢
    grind
  · intro k hk
    simp only [List.mem_cons, List.not_mem_nil, or_false, not_or] at hk
    funext j p
    simp [ap_62, tm_ap, fr_117, s1_c, hk]
  · intro j hj
    funext p
    simp [ap_62, tm_ap, fr_117, s1_c, hj]
  · intro j hj
    funext p
    simp [ap_62, tm_ap, fr_117, s1_c, hj]
  · intro j hj
    funext p
    simp [ap_62, tm_ap, fr_117, s1_c, hj]
  · intro k hk
    simp only [List.mem_cons, List.not_mem_nil, or_false, not_or] at hk
    funext j p
    simp [tm_ap, fr_135, s1_r, hk]
  · intro k h1 h2 j hj
    have hk : k ∉ ([36, 41, 42, 43, 44, 45, 46, 47] : List Nat) := by
      simp only [List.mem_cons, List.not_mem_nil, or_false]; omega
    simp [tm_ap, fr_135 _ _ _ _ _ _ k hk, s1_r, hj]
    omega
  · intro j _ hj k hk
    simp [tm_ap, fr_135, s1_r]
end ST
