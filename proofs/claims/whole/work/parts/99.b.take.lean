/-! A message leaves the row. -/
section TK
variable {q : Int32 × Nat} {t r w : Nat} {α β α' β' : tm_M}
/-- the reference shifts rows down -/
theorem lp_137 (k0 : Int32) {e : Nat} (he : e < 32) (d : Nat) : ∀ (n k : Nat) (β : tm_M), d < n → k + d = e → β 36 0 9 = Int32.ofNat e → ci_137_12 k0 n (Int32.ofNat k) β ∧ (∀ i f, f < 19 → ROW (cs_137_12 k0 n (Int32.ofNat k) β) i f = if k ≤ i ∧ i < e then ROW β (i + 1) f else ROW β i f) := by
  induction d with
  | zero =>
    intro n k β hn hk e9
    obtain ⟨n, rfl⟩ : ∃ m, n = m + 1 := ⟨n - 1, by omega⟩
    have c : Int32.ofNat e ≤ Int32.ofNat k := by rw [of_le (by omega) (by omega)]; omega
    simp only [cs_137_12, ci_137_12, e9, if_pos c]
    refine ⟨⟨fun q => absurd c q, fun q => absurd c q⟩, ?_⟩
    intro i f _
    rw [if_neg (by omega)]
  | succ d ih =>
    intro n k β hn hk e9
    obtain ⟨n, rfl⟩ : ∃ m, n = m + 1 := ⟨n - 1, by omega⟩
    have c : ¬ Int32.ofNat e ≤ Int32.ofNat k := by rw [of_le (by omega) (by omega)]; omega
    obtain ⟨C1, C2⟩ := copy_row (by omega : k + 1 < 32) (by omega : k < 32) (by omega) β
    have f36 : cs_136 (Int32.ofNat (k + 1)) (Int32.ofNat k) β 36 = β 36 := fr_136 _ _ _ 36 (by decide)
    have ih := ih n (k + 1) (cs_136 (Int32.ofNat (k + 1)) (Int32.ofNat k) β) (by omega) (by omega) (by rw [f36]; exact e9)
    simp only [cs_137_12, ci_137_12, e9, if_neg c]
    rw [tI_of1]
    refine ⟨⟨fun _ => C1, fun _ => ih.1⟩, ?_⟩
    intro i f hf
    rw [ih.2 i f hf, C2 (i + 1) f hf, C2 i f hf]
    repeat' split
    all_goals first
      | rfl
      | (exfalso; omega)
      | grind
/-- the reference turns a row to the end -/
theorem lp_120 (k0 : Int32) {e : Nat} (he : e < 32) (l2 l3 l4 l5 l6 l7 l8 : Int32) (d : Nat) : ∀ (n k : Nat) (β : tm_M), d < n → k + d = e → ∃ β', cs_139_120 k0 n l2 l3 l4 l5 l6 l7 l8 (Int32.ofNat e) (Int32.ofNat k) β = cs_139_120 k0 1 l2 l3 l4 l5 l6 l7 l8 (Int32.ofNat e) (Int32.ofNat e) β' ∧ cv_139_120 k0 n l2 l3 l4 l5 l6 l7 l8 (Int32.ofNat e) (Int32.ofNat k) β = cv_139_120 k0 1 l2 l3 l4 l5 l6 l7 l8 (Int32.ofNat e) (Int32.ofNat e) β' ∧ (ci_139_120 k0 1 l2 l3 l4 l5 l6 l7 l8 (Int32.ofNat e) (Int32.ofNat e) β' → ci_139_120 k0 n l2 l3 l4 l5 l6 l7 l8 (Int32.ofNat e) (Int32.ofNat k) β) ∧ (∀ i f, f < 19 → ROW β' i f = if k ≤ i ∧ i < e then ROW β (i + 1) f else if i = e then ROW β k f else ROW β i f) ∧ ∀ κ, κ ∉ ([41, 42, 43, 44, 45, 46, 47, 48, 84, 85] : List Nat) → β' κ = β κ := by
  induction d with
  | zero =>
    intro n k β hn hk
    obtain ⟨n, rfl⟩ : ∃ m, n = m + 1 := ⟨n - 1, by omega⟩
    have hk : k = e := by omega
    subst hk
    have c : Int32.ofNat k ≤ Int32.ofNat k := by rw [of_le (by omega) (by omega)]; omega
    refine ⟨β, ?_, ?_, ?_, ?_, fun _ _ => rfl⟩
    · simp only [cs_139_120, if_pos c]
    · simp only [cv_139_120, if_pos c]
    · simp only [ci_139_120]
      rintro ⟨q1, q2, -⟩
      exact ⟨q1, q2, fun q => absurd c q, fun q => absurd c q⟩
    · intro i f _
      rw [if_neg (by omega)]
      by_cases a : i = k
      · rw [if_pos a, a]
      · rw [if_neg a]
  | succ d ih =>
    intro n k β hn hk
    obtain ⟨n, rfl⟩ : ∃ m, n = m + 1 := ⟨n - 1, by omega⟩
    have c : ¬ Int32.ofNat e ≤ Int32.ofNat k := by rw [of_le (by omega) (by omega)]; omega
    obtain ⟨C1, C2⟩ := swap_row (by omega : k < 32) (by omega : k + 1 < 32) (by omega) β
    obtain ⟨β', i1, i2, i3, i4, i5⟩ := ih n (k + 1) (cs_140 (Int32.ofNat k) (Int32.ofNat (k + 1)) β) (by omega) (by omega)
    refine ⟨β', ?_, ?_, ?_, ?_, ?_⟩
    · rw [cs_139_120, if_neg c, tI_of1]; exact i1
    · rw [cv_139_120, if_neg c, tI_of1]; exact i2
    · intro hq
      rw [ci_139_120, tI_of1]
      exact ⟨fun q => absurd q c, fun q => absurd q c, fun _ => C1, fun _ => i3 hq⟩
    · intro i f hf
      rw [i4 i f hf, C2 (i + 1) f hf, C2 (k + 1) f hf, C2 i f hf]
      repeat' split
      all_goals first
        | rfl
        | (exfalso; omega)
        | grind
    · intro κ hκ
      rw [i5 κ hκ]
      exact fr_140 _ _ _ κ hκ
theorem lp_169 (k0 : Int32) {e : Nat} (he : e < 32) (l2 l3 l4 l5 l6 l7 l8 : Int32) (d : Nat) : ∀ (n l : Nat) (β : tm_M), d < n → l + d = 12 → cs_139_169 k0 n l2 l3 l4 l5 l6 l7 l8 (Int32.ofNat e) (Int32.ofNat l) β = cs_139_169 k0 1 l2 l3 l4 l5 l6 l7 l8 (Int32.ofNat e) (Int32.ofNat 12) (D84 e l β) ∧ cv_139_169 k0 n l2 l3 l4 l5 l6 l7 l8 (Int32.ofNat e) (Int32.ofNat l) β = l2 ∧ (ci_139_169 k0 1 l2 l3 l4 l5 l6 l7 l8 (Int32.ofNat e) (Int32.ofNat 12) (D84 e l β) → ci_139_169 k0 n l2 l3 l4 l5 l6 l7 l8 (Int32.ofNat e) (Int32.ofNat l) β) := by
  induction d with
  | zero =>
    intro n l β hn hl
    obtain ⟨n, rfl⟩ : ∃ m, n = m + 1 := ⟨n - 1, by omega⟩
    have hl : l = 12 := by omega
    subst hl
    have c : (12 : Int32) ≤ Int32.ofNat 12 := by decide
    rw [D84_12]
    simp only [cs_139_169, ci_139_169, cv_139_169, if_pos c]
    refine ⟨trivial, trivial, ?_⟩
    rintro ⟨q1, q2, q3, -⟩
    exact ⟨q1, q2, q3, fun q => absurd c q, fun q => absurd c q, fun q => absurd c q⟩
  | succ d ih =>
    intro n l β hn hl
    obtain ⟨n, rfl⟩ : ∃ m, n = m + 1 := ⟨n - 1, by omega⟩
    have c := le12 (by omega : l < 12)
    obtain ⟨m3, m4⟩ := n12 he (by omega : l < 12)
    have ih := ih n (l + 1) (tm_wr β 84 0 l (β 48 0 (12 * e + l))) (by omega) (by omega)
    rw [D84_s (by omega)] at ih
    refine ⟨?_, ?_, fun hq => ?_⟩
    · rw [cs_139_169, if_neg c, m3, tI_of1, tn_of (by omega : l < 2147483648)]
      exact ih.1
    · rw [cv_139_169, if_neg c, m3, tI_of1, tn_of (by omega : l < 2147483648)]
      exact ih.2.1
    · rw [ci_139_169, m3, tI_of1, tn_of (by omega : l < 2147483648)]
      exact ⟨fun q => absurd q c, fun q => absurd q c, fun q => absurd q c, fun _ => m4, fun _ => ix_n (by decide) (by omega), fun _ => ih.2.2 hq⟩
/-- the class takes a message out -/
theorem lp_118 (k0 : Int32) (m : Nat) (hm : m < 2147483648) {r : Nat} (hr : r ≤ 32) (hr1 : 1 ≤ r) (d : Nat) : ∀ (n l : Nat) (α : tm_M), d < n → l + d = r → 1 ≤ l → α 2 0 1 = Int32.ofNat r → cv_118_11 k0 n m (Int32.ofNat l) α = m ∧ ci_118_11 k0 n m (Int32.ofNat l) α ∧ cs_118_11 k0 n m (Int32.ofNat l) α 2 0 1 = Int32.ofNat (r - 1) ∧ (cs_118_11 k0 n m (Int32.ofNat l) α 2 0 2).toNatClampNeg = m ∧ ∀ i, (cs_118_11 k0 n m (Int32.ofNat l) α 3 0 i).toNatClampNeg = if i + 1 < l then (α 3 0 i).toNatClampNeg else if i + 1 < r then (α 3 0 (i + 1)).toNatClampNeg else if i + 1 = r then (α 2 0 2).toNatClampNeg else (α 3 0 i).toNatClampNeg := by
  have e1 : Int32.ofNat r - 1 = Int32.ofNat (r - 1) := of_sub hr1 (by omega)
  induction d with
  | zero =>
    intro n l α hn hl hl1 e9
    obtain ⟨n, rfl⟩ : ∃ m, n = m + 1 := ⟨n - 1, by omega⟩
    have c : Int32.ofNat r ≤ Int32.ofNat l := by rw [of_le (by omega) (by omega)]; omega
    simp only [cs_118_11, ci_118_11, cv_118_11, e9, if_pos c, e1]
    rw [tn_of (by omega : r - 1 < 2147483648)]
    refine ⟨trivial, ⟨fun _ => ix_n (by decide) (by omega), fun q => absurd c q, fun q => absurd c q, fun q => absurd c q⟩, by simp [tm_ap], by simp [tm_ap, tn_of hm], ?_⟩
    intro i
    simp only [tm_ap]
    repeat' split
    all_goals first
      | rfl
      | (exfalso; omega)
      | exact tn_tn _
      | grind
  | succ d ih =>
    intro n l α hn hl hl1 e9
    obtain ⟨n, rfl⟩ : ∃ m, n = m + 1 := ⟨n - 1, by omega⟩
    have c : ¬ Int32.ofNat r ≤ Int32.ofNat l := by rw [of_le (by omega) (by omega)]; omega
    have e2 : Int32.ofNat l - 1 = Int32.ofNat (l - 1) := of_sub hl1 (by omega)
    have ih := ih n (l + 1) (tm_wr α 3 0 (l - 1) (Int32.ofNat (α 3 0 l).toNatClampNeg)) (by omega) (by omega) (by omega) (by simpa [tm_ap] using e9)
    simp only [cs_118_11, ci_118_11, cv_118_11, e9, if_neg c, e2]
    rw [tI_of1, tn_of (by omega : l - 1 < 2147483648), tn_of (by omega : l < 2147483648)]
    obtain ⟨j1, j2, j3, j4, j5⟩ := ih
    refine ⟨j1, ⟨fun q => absurd q c, fun _ => ix_n (by decide) (by omega), fun _ => ix_n (by decide) (by omega), fun _ => j2⟩, j3, j4, ?_⟩
    intro i
    rw [j5 i]
    simp only [tm_ap]
    repeat' split
    all_goals first
      | rfl
      | (exfalso; omega)
      | (rw [tn_tn]; grind)
      | grind
theorem take_c (h : RW r α β) {k : Nat} (hk : k < r) : cv_118 (Int32.ofNat k) α = (α 3 0 k).toNatClampNeg ∧ ci_118 (Int32.ofNat k) α ∧ cs_118 (Int32.ofNat k) α 2 0 1 = Int32.ofNat (r - 1) ∧ (cs_118 (Int32.ofNat k) α 2 0 2).toNatClampNeg = (α 3 0 k).toNatClampNeg ∧ ∀ i, (cs_118 (Int32.ofNat k) α 3 0 i).toNatClampNeg = if i < k then (α 3 0 i).toNatClampNeg else if i + 1 < r then (α 3 0 (i + 1)).toNatClampNeg else if i + 1 = r then (α 2 0 2).toNatClampNeg else (α 3 0 i).toNatClampNeg := by
  obtain ⟨hr, e1, -⟩ := h
  have L := lp_118 (Int32.ofNat k) (α 3 0 k).toNatClampNeg (tn_b _) hr (by omega) (r - (k + 1)) 64 (k + 1) α (by omega) (by omega) (by omega) e1
  unfold cv_118 ci_118 cs_118
  rw [tn_of (by omega : k < 2147483648), tI_of1]
  obtain ⟨j1, j2, j3, j4, j5⟩ := L
  refine ⟨j1, ⟨ix_n (by decide) (by omega), j2⟩, j3, j4, ?_⟩
  intro i
  rw [j5 i]
  by_cases a : i < k
  · rw [if_pos (by omega), if_pos a]
  · rw [if_neg (by omega), if_neg a]
theorem RO_take (h : RO α) {k : Nat} (hr : r ≤ 32) (hk : k < r) (h2 : (α' 2 0 2).toNatClampNeg = (α 3 0 k).toNatClampNeg) (h3 : ∀ i, (α' 3 0 i).toNatClampNeg = if i < k then (α 3 0 i).toNatClampNeg else if i + 1 < r then (α 3 0 (i + 1)).toNatClampNeg else if i + 1 = r then (α 2 0 2).toNatClampNeg else (α 3 0 i).toNatClampNeg) : RO α' := by
  obtain ⟨o1, o2, o3⟩ := h
  have hcs : ∀ i, i < 32 → (∃ j, j < 32 ∧ j ≠ k ∧ (α' 3 0 i).toNatClampNeg = (α 3 0 j).toNatClampNeg ∧ (i < k ∧ j = i ∨ k ≤ i ∧ i + 1 < r ∧ j = i + 1 ∨ r ≤ i ∧ j = i)) ∨ (i + 1 = r ∧ (α' 3 0 i).toNatClampNeg = (α 2 0 2).toNatClampNeg) := by
    intro i hi
    rw [h3 i]
    by_cases a : i < k
    · rw [if_pos a]; exact Or.inl ⟨i, hi, by omega, rfl, by omega⟩
    · rw [if_neg a]
      by_cases b : i + 1 < r
      · rw [if_pos b]; exact Or.inl ⟨i + 1, by omega, by omega, rfl, by omega⟩
      · rw [if_neg b]
        by_cases c : i + 1 = r
        · rw [if_pos c]; exact Or.inr ⟨c, rfl⟩
        · rw [if_neg c]; exact Or.inl ⟨i, hi, by omega, rfl, by omega⟩
  refine ⟨?_, ?_, ?_⟩
  · rw [h2]; exact (o2 k (by omega)).1
  · intro i hi
    rw [h2]
    rcases hcs i hi with ⟨j, hj, hjk, e, -⟩ | ⟨-, e⟩
    · rw [e]; exact ⟨(o2 j hj).1, fun q => hjk (o3 j k hj (by omega) q)⟩
    · rw [e]; exact ⟨o1, fun q => (o2 k (by omega)).2 q.symm⟩
  · intro i j hi hj hq
    rcases hcs i hi with ⟨a, ha, hak, ea, xa⟩ | ⟨xa, ea⟩
    · rcases hcs j hj with ⟨b, hb, hbk, eb, xb⟩ | ⟨xb, eb⟩
      · rw [ea, eb] at hq
        have := o3 a b ha hb hq
        omega
      · rw [ea, eb] at hq
        exact absurd hq (o2 a ha).2
    · rcases hcs j hj with ⟨b, hb, hbk, eb, xb⟩ | ⟨xb, eb⟩
      · rw [ea, eb] at hq
        exact absurd hq.symm (o2 b hb).2
      · omega
/-- the row without message k -/
theorem RW_take (h : RW r α β) {k : Nat} (hk : k < r) (e9 : β' 36 0 9 = Int32.ofNat (r - 1)) (hR : ∀ i f, i + 1 < r → f < 19 → ROW β' i f = if i < k then ROW β i f else ROW β (i + 1) f) (b67 : β' 67 = β 67) : RW (r - 1) (cs_118 (Int32.ofNat k) α) β' := by
  obtain ⟨j1, j2, j3, j4, j5⟩ := take_c h hk
  obtain ⟨hr, e1, e2, hO, hm⟩ := h
  have f4 : cs_118 (Int32.ofNat k) α 4 = α 4 := fr_118 _ _ 4 (by decide)
  have f5 : cs_118 (Int32.ofNat k) α 5 = α 5 := fr_118 _ _ 5 (by decide)
  refine ⟨by omega, j3, e9, RO_take hO hr hk j4 j5, ?_⟩
  intro i hi
  rw [j5 i]
  by_cases a : i < k
  · rw [if_pos a]
    have g := hm i (by omega)
    have hR' : ∀ f, f < 19 → ROW β' i f = ROW β i f := fun f hf => by rw [hR i f (by omega) hf, if_pos a]
    have hl : (β 46 0 i).toNatClampNeg ≤ 12 := (tn_le g.2.2.2.2.2.1 (by decide : (0 : Int32) ≤ 12)).mpr g.2.2.2.2.2.2.1
    exact ⟨RM_row g.1 hl hR' (by rw [f4]) (by rw [f5]), MV_row g.2 hR' b67⟩
  · rw [if_neg a, if_pos (by omega)]
    have g := hm (i + 1) (by omega)
    have hR' : ∀ f, f < 19 → ROW β' i f = ROW β (i + 1) f := fun f hf => by rw [hR i f (by omega) hf, if_neg a]
    have hl : (β 46 0 (i + 1)).toNatClampNeg ≤ 12 := (tn_le g.2.2.2.2.2.1 (by decide : (0 : Int32) ≤ 12)).mpr g.2.2.2.2.2.2.1
    exact ⟨RM_row g.1 hl hR' (by rw [f4]) (by rw [f5]), MV_row g.2 hR' b67⟩
/-- frames of all but the row -/
theorem Rel_rows {q' : Int32 × Nat} {r' : Nat} (h : Rel q t r w α β) (hq : RQ q' α') (hW : RW r' α' β') (fa : ∀ k, k ∉ ([2, 3, 4, 5] : List Nat) → α' k = α k) (fb : ∀ k, k ∉ ([36, 41, 42, 43, 44, 45, 46, 47, 48, 84, 85] : List Nat) → β' k = β k) (fp : ∀ p, p ≠ 9 → β' 36 0 p = β 36 0 p) : Rel q' t r' w α' β' := by
  obtain ⟨hQ, hG, hT, -, hL, hF, hB, hJ, hTr, hS, hN⟩ := h
  refine ⟨hq, ?_, ?_, hW, ?_, ?_, ?_, ?_, ?_, ?_, ?_⟩
  · exact RG_fr hG (by rw [fa 1 (by decide)]) (fp _ (by decide)) (fp _ (by decide)) (fp _ (by decide)) (fp _ (by decide)) (fp _ (by decide))
  · rw [fp _ (by decide)]; exact hT
  · exact RL_fr hL (fa _ (by decide)) (fa _ (by decide)) (fa _ (by decide)) (fa _ (by decide)) (fa _ (by decide)) (fa _ (by decide)) (fp _ (by decide)) (fb _ (by decide)) (fb _ (by decide)) (fb _ (by decide)) (fb _ (by decide)) (fb _ (by decide))
  · exact RF_fr hF (fa _ (by decide)) (fa _ (by decide)) (fa _ (by decide)) (fa _ (by decide)) (fa _ (by decide)) (fa _ (by decide)) (fp _ (by decide)) (fb _ (by decide)) (fb _ (by decide)) (fb _ (by decide)) (fb _ (by decide)) (fb _ (by decide))
  · exact RB_fr hB (fa _ (by decide)) (fa _ (by decide)) (fa _ (by decide)) (fa _ (by decide)) (fa _ (by decide)) (fp _ (by decide)) (fb _ (by decide)) (fb _ (by decide)) (fb _ (by decide)) (fb _ (by decide)) (fb _ (by decide))
  · exact RJ_fr hJ (fa _ (by decide)) (fa _ (by decide)) (fa _ (by decide)) (fa _ (by decide)) (fp _ (by decide)) (fb _ (by decide)) (fb _ (by decide)) (fb _ (by decide))
  · intro j hj
    exact RT_fr (hTr j hj) (by rw [fa 21 (by decide)]) (fp _ (by decide)) (fp _ (by decide)) (fb _ (by decide)) (by rw [fb 62 (by decide)]) (by rw [fb 63 (by decide)]) (by rw [fb 64 (by decide)]) (by rw [fb 65 (by decide)]) (by rw [fb 66 (by decide)])
  · intro j hj
    exact RS_fr (hS j hj) (by rw [fa 33 (by decide)]) (by rw [fa 34 (by decide)]) (by rw [fa 35 (by decide)]) (fp _ (by decide)) (fp _ (by decide)) (fb _ (by decide)) (fun k' h1 h2 => by
      rw [fb k' (by simp only [List.mem_cons, List.not_mem_nil, or_false]; omega)]) (fun k' _ => by rw [fb 83 (by decide)])
  · intro j hj hjw
    exact RN_fr (hN j hj hjw) (by rw [fa 33 (by decide)]) (by rw [fb 68 (by decide)]) (by rw [fb 71 (by decide)])
end TK
