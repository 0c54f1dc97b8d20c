/-! The rows of messages: copies, shifts, turns. -/
section WI
variable {q : Int32 × Nat} {t r w : Nat} {α β α' β' : tm_M}
/-- row i of the reference -/
def ROW (β : tm_M) (i f : Nat) : Int32 := if f < 7 then β (41 + f) 0 i else β 48 0 (12 * i + (f - 7))
theorem ROW_b (β : tm_M) (i j : Nat) : ROW β i (7 + j) = β 48 0 (12 * i + j) := by
  unfold ROW
  rw [if_neg (by omega), Nat.add_sub_cancel_left]
theorem RM_row {i i' m : Nat} (h : RM α β i m) (h12 : (β 46 0 i).toNatClampNeg ≤ 12) (hr : ∀ f, f < 19 → ROW β' i' f = ROW β i f) (a4 : α' 4 m = α 4 m) (a5 : α' 5 m = α 5 m) : RM α' β' i' m := by
  have r0 : β' 41 0 i' = β 41 0 i := hr 0 (by decide)
  have r1 : β' 42 0 i' = β 42 0 i := hr 1 (by decide)
  have r2 : β' 43 0 i' = β 43 0 i := hr 2 (by decide)
  have r3 : β' 44 0 i' = β 44 0 i := hr 3 (by decide)
  have r4 : β' 45 0 i' = β 45 0 i := hr 4 (by decide)
  have r5 : β' 46 0 i' = β 46 0 i := hr 5 (by decide)
  have r6 : β' 47 0 i' = β 47 0 i := hr 6 (by decide)
  unfold RM at h ⊢
  rw [a4, a5, r0, r1, r2, r3, r4, r5, r6]
  obtain ⟨h1, h2, h3, h4, h5, h6, h7, h8⟩ := h
  refine ⟨h1, h2, h3, h4, h5, h6, h7, fun j hj => ?_⟩
  have := hr (7 + j) (by omega)
  rw [ROW_b, ROW_b] at this
  rw [this]
  exact h8 j hj
theorem MV_row {i i' : Nat} (h : MV (β 67 0) (β 41 0 i) (β 42 0 i) (β 44 0 i) (β 46 0 i) (β 47 0 i)) (hr : ∀ f, f < 19 → ROW β' i' f = ROW β i f) (b : β' 67 = β 67) : MV (β' 67 0) (β' 41 0 i') (β' 42 0 i') (β' 44 0 i') (β' 46 0 i') (β' 47 0 i') := by
  have r0 : β' 41 0 i' = β 41 0 i := hr 0 (by decide)
  have r1 : β' 42 0 i' = β 42 0 i := hr 1 (by decide)
  have r3 : β' 44 0 i' = β 44 0 i := hr 3 (by decide)
  have r5 : β' 46 0 i' = β 46 0 i := hr 5 (by decide)
  have r6 : β' 47 0 i' = β 47 0 i := hr 6 (by decide)
  rw [b, r0, r1, r3, r5, r6]
  exact h
theorem f19 {f : Nat} (h : f < 19) : f = 0 ∨ f = 1 ∨ f = 2 ∨ f = 3 ∨ f = 4 ∨ f = 5 ∨ f = 6 ∨ ∃ j, j < 12 ∧ f = 7 + j := by
  by_cases h7 : f < 7
  · omega
  · exact Or.inr (Or.inr (Or.inr (Or.inr (Or.inr (Or.inr (Or.inr ⟨f - 7, by omega, by omega⟩))))))
/-- 12 a + l as an int -/
theorem n12 {a l : Nat} (ha : a < 32) (hl : l < 12) : (12 * Int32.ofNat a + Int32.ofNat l).toNatClampNeg = 12 * a + l ∧ tm_ix (12 * Int32.ofNat a + Int32.ofNat l) 384 = true := by
  have a4 : Int32.ofNat a < 32 := by
    show Int32.ofNat a < Int32.ofNat 32
    rw [of_lt (by omega) (by decide)]; omega
  have l4 : Int32.ofNat l < 12 := by
    show Int32.ofNat l < Int32.ofNat 12
    rw [of_lt (by omega) (by decide)]; omega
  obtain ⟨m1, m2, m3⟩ := tn_m12 (of0 (by omega : a < 2147483648)) a4 (of0 (by omega : l < 2147483648)) l4
  rw [tn_of (by omega : a < 2147483648), tn_of (by omega : l < 2147483648)] at m1
  exact ⟨m1, ix384.mpr ⟨m2, m3⟩⟩
theorem le12 {l : Nat} (h : l < 12) : ¬ (12 : Int32) ≤ Int32.ofNat l := by
  show ¬ Int32.ofNat 12 ≤ Int32.ofNat l
  rw [of_le (by decide) (by omega)]; omega
def C136 (a b l : Nat) (β : tm_M) : tm_M := fun k j p => if k = 48 ∧ j = 0 ∧ 12 * b + l ≤ p ∧ p < 12 * b + 12 then β 48 0 (12 * a + (p - 12 * b)) else β k j p
theorem lp_136 {a b : Nat} (ha : a < 32) (hb : b < 32) (hab : a ≠ b) (d : Nat) : ∀ (n l : Nat) (β : tm_M), d < n → l + d = 12 → cs_136_86 (Int32.ofNat a) (Int32.ofNat b) n (Int32.ofNat l) β = C136 a b l β ∧ ci_136_86 (Int32.ofNat a) (Int32.ofNat b) n (Int32.ofNat l) β := by
  induction d with
  | zero =>
    intro n l β hn hl
    obtain ⟨n, rfl⟩ : ∃ m, n = m + 1 := ⟨n - 1, by omega⟩
    have hl : l = 12 := by omega
    subst hl
    have c : (12 : Int32) ≤ Int32.ofNat 12 := by decide
    simp only [cs_136_86, ci_136_86, if_pos c]
    refine ⟨?_, fun q => absurd c q, fun q => absurd c q, fun q => absurd c q⟩
    funext k j p
    unfold C136
    rw [if_neg (by omega)]
  | succ d ih =>
    intro n l β hn hl
    obtain ⟨n, rfl⟩ : ∃ m, n = m + 1 := ⟨n - 1, by omega⟩
    have c := le12 (by omega : l < 12)
    obtain ⟨m1, m2⟩ := n12 ha (by omega : l < 12)
    obtain ⟨m3, m4⟩ := n12 hb (by omega : l < 12)
    simp only [cs_136_86, ci_136_86, if_neg c, m1, m3]
    rw [tI_of1]
    have ih := ih n (l + 1) (tm_wr β 48 0 (12 * b + l) (β 48 0 (12 * a + l))) (by omega) (by omega)
    refine ⟨?_, fun _ => m2, fun _ => m4, fun _ => ih.2⟩
    rw [ih.1]
    funext k j p
    unfold C136
    by_cases a1 : k = 48 ∧ j = 0 ∧ 12 * b + (l + 1) ≤ p ∧ p < 12 * b + 12
    · rw [if_pos a1, if_pos (by omega)]
      simp only [tm_ap]
      rw [if_neg (by omega)]
    · rw [if_neg a1]
      simp only [tm_ap]
      by_cases a2 : k = 48 ∧ p = 12 * b + l ∧ j = 0
      · rw [if_pos a2, if_pos (by omega)]
        congr 1; omega
      · rw [if_neg a2, if_neg (by omega)]
theorem copy_row {a b : Nat} (ha : a < 32) (hb : b < 32) (hab : a ≠ b) (β : tm_M) : ci_136 (Int32.ofNat a) (Int32.ofNat b) β ∧ ∀ i f, f < 19 → ROW (cs_136 (Int32.ofNat a) (Int32.ofNat b) β) i f = if i = b then ROW β a f else ROW β i f := by
  have L := lp_136 ha hb hab 12 64 0 (tm_wr (tm_wr (tm_wr (tm_wr (tm_wr (tm_wr (tm_wr β 41 0 b (β 41 0 a)) 42 0 b (β 42 0 a)) 43 0 b (β 43 0 a)) 44 0 b (β 44 0 a)) 45 0 b (β 45 0 a)) 46 0 b (β 46 0 a)) 47 0 b (β 47 0 a)) (by decide) (by decide)
  unfold ci_136 cs_136
  rw [tn_of (by omega : a < 2147483648), tn_of (by omega : b < 2147483648)]
  refine ⟨⟨ix_n (by decide) ha, ix_n (by decide) hb, L.2⟩, ?_⟩
  intro i f hf
  have e := L.1
  have z : Int32.ofNat 0 = (0 : Int32) := rfl
  rw [z] at e
  rw [e]
  rcases f19 hf with h | h | h | h | h | h | h | ⟨j, hj, h⟩
  · subst h; simp [ROW, C136, tm_ap]
  · subst h; simp [ROW, C136, tm_ap]
  · subst h; simp [ROW, C136, tm_ap]
  · subst h; simp [ROW, C136, tm_ap]
  · subst h; simp [ROW, C136, tm_ap]
  · subst h; simp [ROW, C136, tm_ap]
  · subst h; simp [ROW, C136, tm_ap]
  · subst h
    rw [ROW_b, ROW_b, ROW_b]
    unfold C136
    by_cases hi : i = b
    · rw [if_pos (by omega), if_pos hi]
      simp only [tm_ap]
      rw [if_neg (by omega), if_neg (by omega), if_neg (by omega), if_neg (by omega), if_neg (by omega), if_neg (by omega), if_neg (by omega)]
      congr 1; omega
    · rw [if_neg (by omega), if_neg hi]
      simp only [tm_ap]
      rw [if_neg (by omega), if_neg (by omega), if_neg (by omega), if_neg (by omega), if_neg (by omega), if_neg (by omega), if_neg (by omega)]
def E209 (b l : Nat) (β : tm_M) : tm_M := fun k j p => if k = 48 ∧ j = 0 ∧ 12 * b + l ≤ p ∧ p < 12 * b + 12 then β 84 0 (p - 12 * b) else β k j p
theorem lp_209 {a b : Nat} (hb : b < 32) (d : Nat) : ∀ (n l : Nat) (β : tm_M), d < n → l + d = 12 → cs_140_209 (Int32.ofNat a) (Int32.ofNat b) n (Int32.ofNat l) β = E209 b l β ∧ ci_140_209 (Int32.ofNat a) (Int32.ofNat b) n (Int32.ofNat l) β := by
  induction d with
  | zero =>
    intro n l β hn hl
    obtain ⟨n, rfl⟩ : ∃ m, n = m + 1 := ⟨n - 1, by omega⟩
    have hl : l = 12 := by omega
    subst hl
    have c : (12 : Int32) ≤ Int32.ofNat 12 := by decide
    simp only [cs_140_209, ci_140_209, if_pos c]
    refine ⟨?_, fun q => absurd c q, fun q => absurd c q, fun q => absurd c q⟩
    funext k j p
    unfold E209
    rw [if_neg (by omega)]
  | succ d ih =>
    intro n l β hn hl
    obtain ⟨n, rfl⟩ : ∃ m, n = m + 1 := ⟨n - 1, by omega⟩
    have c := le12 (by omega : l < 12)
    obtain ⟨m3, m4⟩ := n12 hb (by omega : l < 12)
    simp only [cs_140_209, ci_140_209, if_neg c, m3]
    rw [tI_of1, tn_of (by omega : l < 2147483648)]
    have ih := ih n (l + 1) (tm_wr β 48 0 (12 * b + l) (β 84 0 l)) (by omega) (by omega)
    refine ⟨?_, fun _ => ix_n (by decide) (by omega), fun _ => m4, fun _ => ih.2⟩
    rw [ih.1]
    funext k j p
    unfold E209
    by_cases a1 : k = 48 ∧ j = 0 ∧ 12 * b + (l + 1) ≤ p ∧ p < 12 * b + 12
    · rw [if_pos a1, if_pos (by omega)]
      simp only [tm_ap]
      rw [if_neg (by omega)]
    · rw [if_neg a1]
      simp only [tm_ap]
      by_cases a2 : k = 48 ∧ p = 12 * b + l ∧ j = 0
      · rw [if_pos a2, if_pos (by omega)]
        congr 1; omega
      · rw [if_neg a2, if_neg (by omega)]
def D84 (a l : Nat) (β : tm_M) : tm_M := fun k j p => if k = 84 ∧ j = 0 ∧ l ≤ p ∧ p < 12 then β 48 0 (12 * a + p) else β k j p
theorem D84_s {a l : Nat} (hl : l < 12) (β : tm_M) : D84 a (l + 1) (tm_wr β 84 0 l (β 48 0 (12 * a + l))) = D84 a l β := by
  funext k j p
  unfold D84
  by_cases a1 : k = 84 ∧ j = 0 ∧ l + 1 ≤ p ∧ p < 12
  · rw [if_pos a1, if_pos (by omega)]
    simp only [tm_ap]
    rw [if_neg (by omega)]
  · rw [if_neg a1]
    simp only [tm_ap]
    by_cases a2 : k = 84 ∧ p = l ∧ j = 0
    · rw [if_pos a2, if_pos (by omega), a2.2.1]
    · rw [if_neg a2, if_neg (by omega)]
theorem D84_12 (a : Nat) (β : tm_M) : D84 a 12 β = β := by
  funext k j p
  unfold D84
  rw [if_neg (by omega)]
theorem lp_87 {a b : Nat} (ha : a < 32) (d : Nat) : ∀ (n l : Nat) (β : tm_M), d < n → l + d = 12 → cs_140_87 (Int32.ofNat a) (Int32.ofNat b) n (Int32.ofNat l) β = cs_140_87 (Int32.ofNat a) (Int32.ofNat b) 1 (Int32.ofNat 12) (D84 a l β) ∧ (ci_140_87 (Int32.ofNat a) (Int32.ofNat b) 1 (Int32.ofNat 12) (D84 a l β) → ci_140_87 (Int32.ofNat a) (Int32.ofNat b) n (Int32.ofNat l) β) := by
  induction d with
  | zero =>
    intro n l β hn hl
    obtain ⟨n, rfl⟩ : ∃ m, n = m + 1 := ⟨n - 1, by omega⟩
    have hl : l = 12 := by omega
    subst hl
    have c : (12 : Int32) ≤ Int32.ofNat 12 := by decide
    rw [D84_12]
    simp only [cs_140_87, ci_140_87, if_pos c]
    refine ⟨trivial, ?_⟩
    rintro ⟨q1, q2, q3, -⟩
    exact ⟨q1, q2, q3, fun q => absurd c q, fun q => absurd c q, fun q => absurd c q⟩
  | succ d ih =>
    intro n l β hn hl
    obtain ⟨n, rfl⟩ : ∃ m, n = m + 1 := ⟨n - 1, by omega⟩
    have c := le12 (by omega : l < 12)
    obtain ⟨m3, m4⟩ := n12 ha (by omega : l < 12)
    have ih := ih n (l + 1) (tm_wr β 84 0 l (β 48 0 (12 * a + l))) (by omega) (by omega)
    rw [D84_s (by omega)] at ih
    have s1 : cs_140_87 (Int32.ofNat a) (Int32.ofNat b) (n + 1) (Int32.ofNat l) β = cs_140_87 (Int32.ofNat a) (Int32.ofNat b) n (Int32.ofNat (l + 1)) (tm_wr β 84 0 l (β 48 0 (12 * a + l))) := by
      rw [cs_140_87, if_neg c, m3, tI_of1, tn_of (by omega : l < 2147483648)]
    refine ⟨s1.trans ih.1, fun hq => ?_⟩
    rw [ci_140_87, m3, tI_of1, tn_of (by omega : l < 2147483648)]
    exact ⟨fun q => absurd q c, fun q => absurd q c, fun q => absurd q c, fun _ => m4, fun _ => ix_n (by decide) (by omega), fun _ => ih.2 hq⟩
set_option maxHeartbeats 1000000 in
theorem swap_row {a b : Nat} (ha : a < 32) (hb : b < 32) (hab : a ≠ b) (β : tm_M) : ci_140 (Int32.ofNat a) (Int32.ofNat b) β ∧ ∀ i f, f < 19 → ROW (cs_140 (Int32.ofNat a) (Int32.ofNat b) β) i f = if i = a then ROW β b f else if i = b then ROW β a f else ROW β i f := by
  have L := lp_87 (b := b) ha 12 64 0 (tm_wr (tm_wr (tm_wr (tm_wr (tm_wr (tm_wr (tm_wr β 85 0 0 (β 41 0 a)) 85 0 1 (β 42 0 a)) 85 0 2 (β 43 0 a)) 85 0 3 (β 44 0 a)) 85 0 4 (β 45 0 a)) 85 0 5 (β 46 0 a)) 85 0 6 (β 47 0 a)) (by decide) (by decide)
  have z : Int32.ofNat 0 = (0 : Int32) := rfl
  rw [z] at L
  generalize hV : D84 a 0 (tm_wr (tm_wr (tm_wr (tm_wr (tm_wr (tm_wr (tm_wr β 85 0 0 (β 41 0 a)) 85 0 1 (β 42 0 a)) 85 0 2 (β 43 0 a)) 85 0 3 (β 44 0 a)) 85 0 4 (β 45 0 a)) 85 0 5 (β 46 0 a)) 85 0 6 (β 47 0 a)) = V at L
  have v84 : ∀ p, p < 12 → V 84 0 p = β 48 0 (12 * a + p) := by
    intro p hp
    rw [← hV]
    unfold D84
    rw [if_pos (by omega)]
    simp [tm_ap]
  have vR : ∀ i f, f < 19 → ROW V i f = ROW β i f := by
    intro i f hf
    rw [← hV]
    rcases f19 hf with h | h | h | h | h | h | h | ⟨j, hj, h⟩
    · subst h; simp [ROW, D84, tm_ap]
    · subst h; simp [ROW, D84, tm_ap]
    · subst h; simp [ROW, D84, tm_ap]
    · subst h; simp [ROW, D84, tm_ap]
    · subst h; simp [ROW, D84, tm_ap]
    · subst h; simp [ROW, D84, tm_ap]
    · subst h; simp [ROW, D84, tm_ap]
    · subst h; rw [ROW_b, ROW_b]; simp [D84, tm_ap]
  have v85 : V 85 0 0 = ROW β a 0 ∧ V 85 0 1 = ROW β a 1 ∧ V 85 0 2 = ROW β a 2 ∧ V 85 0 3 = ROW β a 3 ∧ V 85 0 4 = ROW β a 4 ∧ V 85 0 5 = ROW β a 5 ∧ V 85 0 6 = ROW β a 6 := by
    rw [← hV]
    simp [ROW, D84, tm_ap]
  obtain ⟨C1, C2⟩ := copy_row hb ha (Ne.symm hab) V
  have f84 : cs_136 (Int32.ofNat b) (Int32.ofNat a) V 84 = V 84 := fr_136 _ _ _ 84 (by decide)
  have f85 : cs_136 (Int32.ofNat b) (Int32.ofNat a) V 85 = V 85 := fr_136 _ _ _ 85 (by decide)
  generalize hU : cs_136 (Int32.ofNat b) (Int32.ofNat a) V = U at *
  have K := lp_209 (a := a) hb 12 64 0 (tm_wr (tm_wr (tm_wr (tm_wr (tm_wr (tm_wr (tm_wr U 41 0 b (U 85 0 0)) 42 0 b (U 85 0 1)) 43 0 b (U 85 0 2)) 44 0 b (U 85 0 3)) 45 0 b (U 85 0 4)) 46 0 b (U 85 0 5)) 47 0 b (U 85 0 6)) (by decide) (by decide)
  rw [z] at K
  have c : (12 : Int32) ≤ Int32.ofNat 12 := by decide
  have hc : cs_140 (Int32.ofNat a) (Int32.ofNat b) β = E209 b 0 (tm_wr (tm_wr (tm_wr (tm_wr (tm_wr (tm_wr (tm_wr U 41 0 b (U 85 0 0)) 42 0 b (U 85 0 1)) 43 0 b (U 85 0 2)) 44 0 b (U 85 0 3)) 45 0 b (U 85 0 4)) 46 0 b (U 85 0 5)) 47 0 b (U 85 0 6)) := by
    unfold cs_140
    rw [tn_of (by omega : a < 2147483648), L.1, cs_140_87, if_pos c, hU, tn_of (by omega : b < 2147483648), K.1]
  refine ⟨?_, ?_⟩
  · unfold ci_140
    rw [tn_of (by omega : a < 2147483648)]
    refine ⟨ix_n (by decide) ha, L.2 ?_⟩
    rw [ci_140_87, hU, tn_of (by omega : b < 2147483648)]
    exact ⟨fun _ => C1, fun _ => ix_n (by decide) hb, fun _ => K.2, fun q => absurd c q, fun q => absurd c q, fun q => absurd c q⟩
  · intro i f hf
    rw [hc]
    have cr := C2 i f hf
    rw [vR _ _ hf, vR _ _ hf] at cr
    rcases f19 hf with h | h | h | h | h | h | h | ⟨j, hj, h⟩
    · subst h; rw [f85] at *; rw [v85.1]; by_cases hi : i = b <;> simp_all [ROW, E209, tm_ap] <;> grind
    · subst h; rw [f85] at *; rw [v85.2.1]; by_cases hi : i = b <;> simp_all [ROW, E209, tm_ap] <;> grind
    · subst h; rw [f85] at *; rw [v85.2.2.1]; by_cases hi : i = b <;> simp_all [ROW, E209, tm_ap] <;> grind
    · subst h; rw [f85] at *; rw [v85.2.2.2.1]; by_cases hi : i = b <;> simp_all [ROW, E209, tm_ap] <;> grind
    · subst h; rw [f85] at *; rw [v85.2.2.2.2.1]; by_cases hi : i = b <;> simp_all [ROW, E209, tm_ap] <;> grind
    · subst h; rw [f85] at *; rw [v85.2.2.2.2.2.1]; by_cases hi : i = b <;> simp_all [ROW, E209, tm_ap] <;> grind
    · subst h; rw [f85] at *; rw [v85.2.2.2.2.2.2]; by_cases hi : i = b <;> simp_all [ROW, E209, tm_ap] <;> grind
    · subst h
      simp only [ROW_b] at cr ⊢
      unfold E209
      by_cases hi : i = b
      · rw [if_pos (by omega), if_neg (by omega), if_pos hi]
        have e : 12 * i + j - 12 * b = j := by omega
        simp only [tm_ap]
        rw [if_neg (by omega), if_neg (by omega), if_neg (by omega), if_neg (by omega), if_neg (by omega), if_neg (by omega), if_neg (by omega), e, f84]
        exact v84 j hj
      · rw [if_neg (by omega), if_neg hi]
        simp only [tm_ap]
        rw [if_neg (by omega), if_neg (by omega), if_neg (by omega), if_neg (by omega), if_neg (by omega), if_neg (by omega), if_neg (by omega)]
        exact cr
end WI
