/-! The check of a row of bytes. -/
/-- one byte more -/
def MB (v b : Int32) : Int32 := cv_131 v b (fun _ _ _ => 0)
def MX (f : Nat → Int32) : Nat → Nat → Int32 → Int32
  | 0, _, v => v
  | d + 1, l, v => MX f d (l + 1) (MB v (f l))
theorem MX_cong {f g : Nat → Int32} (d : Nat) : ∀ (l : Nat) (v : Int32), (∀ k, l ≤ k → k < l + d → f k = g k) → MX f d l v = MX g d l v := by
  induction d with
  | zero => intro l v _; rfl
  | succ d ih =>
    intro l v h
    show MX f d (l + 1) (MB v (f l)) = MX g d (l + 1) (MB v (g l))
    rw [h l (by omega) (by omega)]
    exact ih (l + 1) _ (fun k h1 h2 => h k (by omega) (by omega))
theorem mu_131 (a b : Int32) (μ ν : tm_M) (n : Nat) : ∀ v l : Int32, cv_131_6 a b n v l μ = cv_131_6 0 0 n v l ν := by
  induction n with
  | zero => intro v l; rfl
  | succ n ih =>
    intro v l
    simp only [cv_131_6]
    split
    · rfl
    · exact ih _ _
theorem v131 (v b : Int32) (μ : tm_M) : cv_131 v b μ = MB v b := by
  unfold MB cv_131
  rw [mu_131 v b μ (fun _ _ _ => 0), mu_131 v b (fun _ _ _ => 0) (fun _ _ _ => 0)]
theorem i131 (a b : Int32) (μ : tm_M) (d : Nat) : ∀ (n l : Nat) (v : Int32), d < n → l + d = 8 → ci_131_6 a b n v (Int32.ofNat l) μ := by
  induction d with
  | zero =>
    intro n l v hn hl
    obtain ⟨n, rfl⟩ : ∃ m, n = m + 1 := ⟨n - 1, by omega⟩
    have hl : l = 8 := by omega
    subst hl
    simp only [ci_131_6]
    intro hq
    exact absurd (by decide) hq
  | succ d ih =>
    intro n l v hn hl
    obtain ⟨n, rfl⟩ : ∃ m, n = m + 1 := ⟨n - 1, by omega⟩
    simp only [ci_131_6]
    intro _
    rw [tI_of1]
    exact ih n (l + 1) _ (by omega) (by omega)
theorem ci131 (v b : Int32) (μ : tm_M) : ci_131 v b μ := i131 v b μ 8 64 0 _ (by decide) (by decide)
theorem bx_52k14 (m : Nat) (a2 a3 l4 : Int32) (μ : tm_M) (n : Nat) : ∀ v l : Int32, cx_52k14_21_l3 m a2 a3 n v l4 l μ = cv_131_6 0 0 n v l μ := by
  induction n with
  | zero => intro v l; rfl
  | succ n ih =>
    intro v l
    simp only [cx_52k14_21_l3, cv_131_6]
    split
    · rfl
    · rw [ih]
      congr 1
      split
      · rfl
      · exact Int32.xor_zero
theorem by_52k14 (m : Nat) (a2 a3 l4 : Int32) (μ : tm_M) (d : Nat) : ∀ (n l : Nat) (v : Int32), d < n → l + d = 8 → cx_52k14_21_l4 m a2 a3 n v l4 (Int32.ofNat l) μ = l4 ∧ ci_52k14_21 m a2 a3 n v l4 (Int32.ofNat l) μ := by
  induction d with
  | zero =>
    intro n l v hn hl
    obtain ⟨n, rfl⟩ : ∃ m, n = m + 1 := ⟨n - 1, by omega⟩
    have hl : l = 8 := by omega
    subst hl
    have c : (8 : Int32) ≤ Int32.ofNat 8 := by decide
    simp only [cx_52k14_21_l4, ci_52k14_21, if_pos c]
    exact ⟨trivial, fun hq => absurd c hq⟩
  | succ d ih =>
    intro n l v hn hl
    obtain ⟨n, rfl⟩ : ∃ m, n = m + 1 := ⟨n - 1, by omega⟩
    have c : ¬ (8 : Int32) ≤ Int32.ofNat l := by
      show ¬ Int32.ofNat 8 ≤ Int32.ofNat l
      rw [of_le (by decide) (by omega)]; omega
    simp only [cx_52k14_21_l4, ci_52k14_21, if_neg c]
    rw [tI_of1]
    have := ih n (l + 1) ((v.toUInt32 >>> ((1 : Int32).toUInt32 &&& Int32.toUInt32 31)).toInt32 ^^^ ((if (v &&& 1) = 1 then (-306674912) else 0) : Int32)) (by omega) (by omega)
    exact ⟨this.1, fun _ => this.2⟩
theorem lp_52k14 (m : Nat) (a2 : Int32) (μ : tm_M) (d : Nat) : ∀ (n l : Nat) (v : Int32), d < n → l + d ≤ 40 → cv_52k14_5 m a2 (Int32.ofNat (l + d)) n v (Int32.ofNat l) μ = MX (μ 14 m) d l v ^^^ (-1) ∧ ci_52k14_5 m a2 (Int32.ofNat (l + d)) n v (Int32.ofNat l) μ := by
  induction d with
  | zero =>
    intro n l v hn hl
    obtain ⟨n, rfl⟩ : ∃ m, n = m + 1 := ⟨n - 1, by omega⟩
    have c : Int32.ofNat (l + 0) ≤ Int32.ofNat l := by rw [of_le (by omega) (by omega)]; omega
    simp only [cv_52k14_5, ci_52k14_5, if_pos c]
    exact ⟨rfl, fun q => absurd c q, fun q => absurd c q, fun q => absurd c q⟩
  | succ d ih =>
    intro n l v hn hl
    obtain ⟨n, rfl⟩ : ∃ m, n = m + 1 := ⟨n - 1, by omega⟩
    have c : ¬ Int32.ofNat (l + (d + 1)) ≤ Int32.ofNat l := by rw [of_le (by omega) (by omega)]; omega
    have b := by_52k14 m a2 (Int32.ofNat (l + (d + 1))) (Int32.ofNat l) μ 8 64 0 (v ^^^ μ 14 m (Int32.ofNat l).toNatClampNeg) (by decide) (by decide)
    have e : l + 1 + d = l + (d + 1) := by omega
    have x : cx_52k14_21_l3 m a2 (Int32.ofNat (l + (d + 1))) 64 (v ^^^ μ 14 m (Int32.ofNat l).toNatClampNeg) (Int32.ofNat l) 0 μ = MB v (μ 14 m l) := by
      rw [bx_52k14, tn_of (by omega)]
      unfold MB cv_131
      exact (mu_131 _ _ _ μ 64 _ _).symm
    have ih := ih n (l + 1) (MB v (μ 14 m l)) (by omega) (by omega)
    rw [e] at ih
    have b1 : cx_52k14_21_l4 m a2 (Int32.ofNat (l + (d + 1))) 64 (v ^^^ μ 14 m (Int32.ofNat l).toNatClampNeg) (Int32.ofNat l) 0 μ = Int32.ofNat l := b.1
    simp only [cv_52k14_5, ci_52k14_5, if_neg c]
    rw [x, b1, tI_of1]
    exact ⟨ih.1, fun _ => ix_n (by decide) (by omega), fun _ => b.2, fun _ => ih.2⟩
theorem bx_52k35 (m : Nat) (a2 a3 l4 : Int32) (μ : tm_M) (n : Nat) : ∀ v l : Int32, cx_52k35_21_l3 m a2 a3 n v l4 l μ = cv_131_6 0 0 n v l μ := by
  induction n with
  | zero => intro v l; rfl
  | succ n ih =>
    intro v l
    simp only [cx_52k35_21_l3, cv_131_6]
    split
    · rfl
    · rw [ih]
      congr 1
      split
      · rfl
      · exact Int32.xor_zero
theorem by_52k35 (m : Nat) (a2 a3 l4 : Int32) (μ : tm_M) (d : Nat) : ∀ (n l : Nat) (v : Int32), d < n → l + d = 8 → cx_52k35_21_l4 m a2 a3 n v l4 (Int32.ofNat l) μ = l4 ∧ ci_52k35_21 m a2 a3 n v l4 (Int32.ofNat l) μ := by
  induction d with
  | zero =>
    intro n l v hn hl
    obtain ⟨n, rfl⟩ : ∃ m, n = m + 1 := ⟨n - 1, by omega⟩
    have hl : l = 8 := by omega
    subst hl
    have c : (8 : Int32) ≤ Int32.ofNat 8 := by decide
    simp only [cx_52k35_21_l4, ci_52k35_21, if_pos c]
    exact ⟨trivial, fun hq => absurd c hq⟩
  | succ d ih =>
    intro n l v hn hl
    obtain ⟨n, rfl⟩ : ∃ m, n = m + 1 := ⟨n - 1, by omega⟩
    have c : ¬ (8 : Int32) ≤ Int32.ofNat l := by
      show ¬ Int32.ofNat 8 ≤ Int32.ofNat l
      rw [of_le (by decide) (by omega)]; omega
    simp only [cx_52k35_21_l4, ci_52k35_21, if_neg c]
    rw [tI_of1]
    have := ih n (l + 1) ((v.toUInt32 >>> ((1 : Int32).toUInt32 &&& Int32.toUInt32 31)).toInt32 ^^^ ((if (v &&& 1) = 1 then (-306674912) else 0) : Int32)) (by omega) (by omega)
    exact ⟨this.1, fun _ => this.2⟩
theorem lp_52k35 (m : Nat) (a2 : Int32) (μ : tm_M) (d : Nat) : ∀ (n l : Nat) (v : Int32), d < n → l + d ≤ 172 → cv_52k35_5 m a2 (Int32.ofNat (l + d)) n v (Int32.ofNat l) μ = MX (μ 35 m) d l v ^^^ (-1) ∧ ci_52k35_5 m a2 (Int32.ofNat (l + d)) n v (Int32.ofNat l) μ := by
  induction d with
  | zero =>
    intro n l v hn hl
    obtain ⟨n, rfl⟩ : ∃ m, n = m + 1 := ⟨n - 1, by omega⟩
    have c : Int32.ofNat (l + 0) ≤ Int32.ofNat l := by rw [of_le (by omega) (by omega)]; omega
    simp only [cv_52k35_5, ci_52k35_5, if_pos c]
    exact ⟨rfl, fun q => absurd c q, fun q => absurd c q, fun q => absurd c q⟩
  | succ d ih =>
    intro n l v hn hl
    obtain ⟨n, rfl⟩ : ∃ m, n = m + 1 := ⟨n - 1, by omega⟩
    have c : ¬ Int32.ofNat (l + (d + 1)) ≤ Int32.ofNat l := by rw [of_le (by omega) (by omega)]; omega
    have b := by_52k35 m a2 (Int32.ofNat (l + (d + 1))) (Int32.ofNat l) μ 8 64 0 (v ^^^ μ 35 m (Int32.ofNat l).toNatClampNeg) (by decide) (by decide)
    have e : l + 1 + d = l + (d + 1) := by omega
    have x : cx_52k35_21_l3 m a2 (Int32.ofNat (l + (d + 1))) 64 (v ^^^ μ 35 m (Int32.ofNat l).toNatClampNeg) (Int32.ofNat l) 0 μ = MB v (μ 35 m l) := by
      rw [bx_52k35, tn_of (by omega)]
      unfold MB cv_131
      exact (mu_131 _ _ _ μ 64 _ _).symm
    have ih := ih n (l + 1) (MB v (μ 35 m l)) (by omega) (by omega)
    rw [e] at ih
    have b1 : cx_52k35_21_l4 m a2 (Int32.ofNat (l + (d + 1))) 64 (v ^^^ μ 35 m (Int32.ofNat l).toNatClampNeg) (Int32.ofNat l) 0 μ = Int32.ofNat l := b.1
    simp only [cv_52k35_5, ci_52k35_5, if_neg c]
    rw [x, b1, tI_of1]
    exact ⟨ih.1, fun _ => ix_n (by decide) (by omega), fun _ => b.2, fun _ => ih.2⟩
theorem lp_132 (a : Int32) (h0 : 0 ≤ a) (h4 : a < 4) (μ : tm_M) (d : Nat) : ∀ (n l : Nat) (v : Int32), d < n → l + d ≤ 40 → μ 49 0 a.toNatClampNeg = Int32.ofNat (l + d) → cv_132_13 a n v (Int32.ofNat l) μ = MX (fun k => μ 50 0 (40 * a.toNatClampNeg + k)) d l v ^^^ (-1) ∧ ci_132_13 a n v (Int32.ofNat l) μ := by
  induction d with
  | zero =>
    intro n l v hn hl he
    obtain ⟨n, rfl⟩ : ∃ m, n = m + 1 := ⟨n - 1, by omega⟩
    have c : Int32.ofNat (l + 0) ≤ Int32.ofNat l := by rw [of_le (by omega) (by omega)]; omega
    simp only [cv_132_13, ci_132_13, he, if_pos c]
    exact ⟨rfl, ix4.mpr ⟨h0, h4⟩, fun q => absurd c q, fun q => absurd c q, fun q => absurd c q⟩
  | succ d ih =>
    intro n l v hn hl he
    obtain ⟨n, rfl⟩ : ∃ m, n = m + 1 := ⟨n - 1, by omega⟩
    have c : ¬ Int32.ofNat (l + (d + 1)) ≤ Int32.ofNat l := by rw [of_le (by omega) (by omega)]; omega
    have l0 : 0 ≤ Int32.ofNat l := by
      show Int32.ofNat 0 ≤ Int32.ofNat l
      rw [of_le (by decide) (by omega)]; omega
    have l4 : Int32.ofNat l < 40 := by
      show Int32.ofNat l < Int32.ofNat 40
      rw [of_lt (by omega) (by decide)]; omega
    obtain ⟨m1, m2, m3⟩ := tn_m40 h0 h4 l0 l4
    rw [tn_of (by omega : l < 2147483648)] at m1
    have e : l + 1 + d = l + (d + 1) := by omega
    have ih := ih n (l + 1) (MB v (μ 50 0 (40 * a.toNatClampNeg + l))) (by omega) (by omega) (by rw [e]; exact he)
    simp only [cv_132_13, ci_132_13, he, if_neg c, v131, m1]
    rw [tI_of1]
    exact ⟨ih.1, ix4.mpr ⟨h0, h4⟩, fun _ => ix160.mpr ⟨m2, m3⟩, fun _ => ci131 _ _ _, fun _ => ih.2⟩
theorem of0 {l : Nat} (h : l < 2147483648) : 0 ≤ Int32.ofNat l := by
  show Int32.ofNat 0 ≤ Int32.ofNat l
  rw [of_le (by decide) h]; omega
theorem lp_148 (s : Int32) (h0 : 0 ≤ s) (h6 : s < 6) (a2 a3 a4 l5 : Int32) (μ : tm_M) (d : Nat) : ∀ (n l : Nat) (v : Int32), d < n → l + d ≤ 172 → μ 81 0 s.toNatClampNeg = Int32.ofNat (l + d) →
    cs_166_148 s a2 a3 a4 n l5 v (Int32.ofNat l) μ = (if l5 = μ 52 0 (μ 77 0 s.toNatClampNeg).toNatClampNeg then (if MX (fun k => μ 83 0 (240 * s.toNatClampNeg + k)) d l v ^^^ (-1) = μ 53 0 (μ 77 0 s.toNatClampNeg).toNatClampNeg then cs_161 s (μ 77 0 s.toNatClampNeg + 1) μ else tm_wr μ 76 0 s.toNatClampNeg 5) else tm_wr μ 76 0 s.toNatClampNeg 4)
    ∧ (tm_ix (μ 77 0 s.toNatClampNeg) 4 = true → (l5 = μ 52 0 (μ 77 0 s.toNatClampNeg).toNatClampNeg → MX (fun k => μ 83 0 (240 * s.toNatClampNeg + k)) d l v ^^^ (-1) = μ 53 0 (μ 77 0 s.toNatClampNeg).toNatClampNeg → ci_161 s (μ 77 0 s.toNatClampNeg + 1) μ) → ci_166_148 s a2 a3 a4 n l5 v (Int32.ofNat l) μ) := by
  induction d with
  | zero =>
    intro n l v hn hl he
    obtain ⟨n, rfl⟩ : ∃ m, n = m + 1 := ⟨n - 1, by omega⟩
    have c : Int32.ofNat (l + 0) ≤ Int32.ofNat l := by rw [of_le (by omega) (by omega)]; omega
    simp only [cs_166_148, ci_166_148, he, if_pos c]
    exact ⟨rfl, fun q1 q2 => ⟨ix6.mpr ⟨h0, h6⟩, fun _ => q1, fun _ => q2, fun q => absurd c q, fun q => absurd c q, fun q => absurd c q⟩⟩
  | succ d ih =>
    intro n l v hn hl he
    obtain ⟨n, rfl⟩ : ∃ m, n = m + 1 := ⟨n - 1, by omega⟩
    have c : ¬ Int32.ofNat (l + (d + 1)) ≤ Int32.ofNat l := by rw [of_le (by omega) (by omega)]; omega
    have l4 : Int32.ofNat l < 240 := by
      show Int32.ofNat l < Int32.ofNat 240
      rw [of_lt (by omega) (by decide)]; omega
    obtain ⟨m1, m2, m3⟩ := tn_m240 h0 h6 (of0 (by omega : l < 2147483648)) l4
    rw [tn_of (by omega : l < 2147483648)] at m1
    have e : l + 1 + d = l + (d + 1) := by omega
    have ih := ih n (l + 1) (MB v (μ 83 0 (240 * s.toNatClampNeg + l))) (by omega) (by omega) (by rw [e]; exact he)
    simp only [cs_166_148, ci_166_148, he, if_neg c, v131, m1]
    rw [tI_of1]
    exact ⟨ih.1, fun q1 q2 => ⟨ix6.mpr ⟨h0, h6⟩, fun q => absurd q c, fun q => absurd q c, fun _ => ix1440.mpr ⟨m2, m3⟩, fun _ => ci131 _ _ _, fun _ => ih.2 q1 q2⟩⟩
/-- bytes added -/
def A70 (i m l g d : Nat) (α : tm_M) : tm_M := fun k j p => if k = 34 ∧ p = 5 ∧ j = i then Int32.ofNat (g + d) else if k = 35 ∧ j = i ∧ g ≤ p ∧ p < g + d then α 5 m (l + (p - g)) else α k j p
def B166 (i l g d : Nat) (β : tm_M) : tm_M := fun k j p => if k = 81 ∧ p = i ∧ j = 0 then Int32.ofNat (g + d) else if k = 83 ∧ j = 0 ∧ 240 * i + g ≤ p ∧ p < 240 * i + g + d then β 84 0 (l + (p - (240 * i + g))) else β k j p
theorem lp_70 (i m : Nat) (d : Nat) : ∀ (n l g : Nat) (α : tm_M), d < n → g + d ≤ 172 → l + d ≤ 12 → α 34 i 5 = Int32.ofNat g → α 4 m 6 = Int32.ofNat (l + d) → cs_70_2 i m n (Int32.ofNat l) α = A70 i m l g d α ∧ ci_70_2 i m n (Int32.ofNat l) α := by
  induction d with
  | zero =>
    intro n l g α hn hg hl e1 e2
    obtain ⟨n, rfl⟩ : ∃ m, n = m + 1 := ⟨n - 1, by omega⟩
    have c : α 4 m 6 ≤ Int32.ofNat l ∨ (172 : Int32) ≤ α 34 i 5 := by
      rw [e2, of_le (by omega) (by omega)]
      exact Or.inl (by omega)
    simp only [cs_70_2, ci_70_2, if_pos c]
    refine ⟨?_, fun q => absurd c q, fun q => absurd c q, fun q => absurd c q⟩
    funext k j p
    unfold A70
    split
    · rename_i hk
      rw [hk.1, hk.2.1, hk.2.2, e1]; rfl
    · rw [if_neg (by omega)]
  | succ d ih =>
    intro n l g α hn hg hl e1 e2
    obtain ⟨n, rfl⟩ : ∃ m, n = m + 1 := ⟨n - 1, by omega⟩
    have c : ¬ (α 4 m 6 ≤ Int32.ofNat l ∨ (172 : Int32) ≤ α 34 i 5) := by
      have : (172 : Int32) = Int32.ofNat 172 := rfl
      rw [e1, e2, of_le (by omega) (by omega), this, of_le (by decide) (by omega)]
      omega
    have e : l + 1 + d = l + (d + 1) := by omega
    have ih := ih n (l + 1) (g + 1) (tm_wr (tm_wr α 35 i g (α 5 m l)) 34 i 5 (Int32.ofNat (g + 1))) (by omega) (by omega) (by omega) (by simp [tm_ap]) (by rw [e]; simpa [tm_ap] using e2)
    simp only [cs_70_2, ci_70_2, if_neg c]
    rw [e1, tI_of1, tI_of1, tn_of (by omega : g < 2147483648), tn_of (by omega : l < 2147483648)]
    refine ⟨?_, fun _ => ix_n (by decide) (by omega), fun _ => ix_n (by decide) (by omega), fun _ => ih.2⟩
    rw [ih.1]
    funext k j p
    unfold A70
    by_cases a1 : k = 34 ∧ p = 5 ∧ j = i
    · rw [if_pos a1, if_pos a1]
      congr 1; omega
    · rw [if_neg a1, if_neg a1]
      by_cases a2 : k = 35 ∧ j = i ∧ g + 1 ≤ p ∧ p < g + 1 + d
      · rw [if_pos a2, if_pos (by omega)]
        simp only [tm_ap]
        rw [if_neg (by omega), if_neg (by omega)]
        congr 1; omega
      · rw [if_neg a2]
        by_cases a3 : k = 35 ∧ p = g ∧ j = i
        · rw [if_pos (by omega : k = 35 ∧ j = i ∧ g ≤ p ∧ p < g + (d + 1))]
          simp only [tm_ap]
          rw [if_neg a1, if_pos a3]
          congr 1; omega
        · rw [if_neg (by omega : ¬ (k = 35 ∧ j = i ∧ g ≤ p ∧ p < g + (d + 1)))]
          simp only [tm_ap]
          rw [if_neg a1, if_neg a3]
theorem lp_166 (s it b : Int32) (h0 : 0 ≤ s) (h6 : s < 6) (d : Nat) : ∀ (n l g : Nat) (β : tm_M), d < n → g + d ≤ 172 → l + d ≤ 12 → β 81 0 s.toNatClampNeg = Int32.ofNat g →
    cs_166_3 s it b (Int32.ofNat (l + d)) n (Int32.ofNat l) β = cs_166_3 s it b (Int32.ofNat (l + d)) 1 (Int32.ofNat (l + d)) (B166 s.toNatClampNeg l g d β) ∧ (ci_166_3 s it b (Int32.ofNat (l + d)) 1 (Int32.ofNat (l + d)) (B166 s.toNatClampNeg l g d β) → ci_166_3 s it b (Int32.ofNat (l + d)) n (Int32.ofNat l) β) := by
  induction d with
  | zero =>
    intro n l g β hn hg hl e1
    obtain ⟨n, rfl⟩ : ∃ m, n = m + 1 := ⟨n - 1, by omega⟩
    have c : Int32.ofNat l ≤ Int32.ofNat l := by rw [of_le (by omega) (by omega)]; omega
    have eb : B166 s.toNatClampNeg l g 0 β = β := by
      funext k j p
      unfold B166
      split
      · rename_i hk
        rw [hk.1, hk.2.1, hk.2.2, e1]; rfl
      · rw [if_neg (by omega)]
    rw [eb, Nat.add_zero]
    simp only [cs_166_3, ci_166_3, if_pos c]
    refine ⟨by trivial, ?_⟩
    rintro ⟨q1, q2, q3, -⟩
    exact ⟨q1, q2, q3, fun q => absurd c q, fun q => absurd c q, fun q => absurd c q, fun q => absurd c q⟩
  | succ d ih =>
    intro n l g β hn hg hl e1
    obtain ⟨n, rfl⟩ : ∃ m, n = m + 1 := ⟨n - 1, by omega⟩
    have c : ¬ Int32.ofNat (l + (d + 1)) ≤ Int32.ofNat l := by
      rw [of_le (by omega) (by omega)]; omega
    have l4 : Int32.ofNat g < 240 := by
      show Int32.ofNat g < Int32.ofNat 240
      rw [of_lt (by omega) (by decide)]; omega
    obtain ⟨m1, m2, m3⟩ := tn_m240 h0 h6 (of0 (by omega : g < 2147483648)) l4
    rw [tn_of (by omega : g < 2147483648)] at m1
    have e : l + 1 + d = l + (d + 1) := by omega
    have ih := ih n (l + 1) (g + 1) (tm_wr (tm_wr β 83 0 (240 * s.toNatClampNeg + g) (β 84 0 l)) 81 0 s.toNatClampNeg (Int32.ofNat (g + 1))) (by omega) (by omega) (by omega) (by simp [tm_ap])
    have eb : B166 s.toNatClampNeg (l + 1) (g + 1) d (tm_wr (tm_wr β 83 0 (240 * s.toNatClampNeg + g) (β 84 0 l)) 81 0 s.toNatClampNeg (Int32.ofNat (g + 1))) = B166 s.toNatClampNeg l g (d + 1) β := by
      funext k j p
      unfold B166
      by_cases a1 : k = 81 ∧ p = s.toNatClampNeg ∧ j = 0
      · rw [if_pos a1, if_pos a1]
        congr 1; omega
      · rw [if_neg a1, if_neg a1]
        by_cases a2 : k = 83 ∧ j = 0 ∧ 240 * s.toNatClampNeg + (g + 1) ≤ p ∧ p < 240 * s.toNatClampNeg + (g + 1) + d
        · rw [if_pos a2, if_pos (by omega)]
          simp only [tm_ap]
          rw [if_neg (by omega), if_neg (by omega)]
          congr 1; omega
        · rw [if_neg a2]
          by_cases a3 : k = 83 ∧ p = 240 * s.toNatClampNeg + g ∧ j = 0
          · rw [if_pos (by omega : k = 83 ∧ j = 0 ∧ 240 * s.toNatClampNeg + g ≤ p ∧ p < 240 * s.toNatClampNeg + g + (d + 1))]
            simp only [tm_ap]
            rw [if_neg a1, if_pos a3]
            congr 1; omega
          · rw [if_neg (by omega : ¬ (k = 83 ∧ j = 0 ∧ 240 * s.toNatClampNeg + g ≤ p ∧ p < 240 * s.toNatClampNeg + g + (d + 1)))]
            simp only [tm_ap]
            rw [if_neg a1, if_neg a3]
    rw [e, eb] at ih
    have s1 : cs_166_3 s it b (Int32.ofNat (l + (d + 1))) (n + 1) (Int32.ofNat l) β = cs_166_3 s it b (Int32.ofNat (l + (d + 1))) n (Int32.ofNat (l + 1)) (tm_wr (tm_wr β 83 0 (240 * s.toNatClampNeg + g) (β 84 0 l)) 81 0 s.toNatClampNeg (Int32.ofNat (g + 1))) := by
      rw [cs_166_3, if_neg c, e1, m1, tI_of1, tI_of1, tn_of (by omega : l < 2147483648)]
    refine ⟨s1.trans ih.1, fun hq => ?_⟩
    rw [ci_166_3, e1, m1, tI_of1, tI_of1, tn_of (by omega : l < 2147483648)]
    exact ⟨fun q => absurd q c, fun q => absurd q c, fun q => absurd q c, fun _ => ix6.mpr ⟨h0, h6⟩, fun _ => ix_n (by decide) (by omega), fun _ => ix1440.mpr ⟨m2, m3⟩, fun _ => ih.2 hq⟩
