/-! Reserve and crash. -/
section KR
variable {q : Int32 × Nat} {t r w : Nat} {α β α' β' : tm_M}
theorem lp_42b {s : Int32} (d : Nat) : ∀ n l : Nat, d < n → l + d = 30 → ci_42_2 s n (Int32.ofNat l) α ∧ (cv_42_2 s n (Int32.ofNat l) α = 0 ∧ (∀ a, l ≤ a → a < 30 → ¬ α 10 0 a = s) ∨ ∃ a, l ≤ a ∧ a < 30 ∧ cv_42_2 s n (Int32.ofNat l) α = Int32.ofNat a ∧ α 10 0 a = s) := by
  induction d with
  | zero =>
    intro n l hn hl
    obtain ⟨n, rfl⟩ : ∃ m, n = m + 1 := ⟨n - 1, by omega⟩
    have hl : l = 30 := by omega
    subst hl
    have c : (30 : Int32) ≤ Int32.ofNat 30 := by decide
    simp only [cv_42_2, ci_42_2, if_pos c]
    exact ⟨⟨fun z => absurd c z, fun z => absurd c z⟩, Or.inl ⟨(by trivial), fun a h1 h2 => absurd h1 (by omega)⟩⟩
  | succ d ih =>
    intro n l hn hl
    obtain ⟨n, rfl⟩ : ∃ m, n = m + 1 := ⟨n - 1, by omega⟩
    obtain ⟨c0, c30, c⟩ := lt30 (by omega : l < 30)
    obtain ⟨i1, i2⟩ := ih n (l + 1) (by omega) (by omega)
    have el : (Int32.ofNat l).toNatClampNeg = l := tn_of (by omega)
    simp only [cv_42_2, ci_42_2, if_neg c, el]
    rw [tI_of1]
    by_cases hr : α 10 0 l = s
    · rw [if_pos hr]
      exact ⟨⟨fun _ => ix_n (by decide) (by omega), fun _ z => absurd hr z⟩, Or.inr ⟨l, by omega, by omega, rfl, hr⟩⟩
    · rw [if_neg hr]
      refine ⟨⟨fun _ => ix_n (by decide) (by omega), fun _ _ => i1⟩, ?_⟩
      rcases i2 with ⟨z1, z2⟩ | ⟨a, a1, a2, a3⟩
      · refine Or.inl ⟨z1, fun a h1 h2 => ?_⟩
        by_cases hal : a = l
        · rw [hal]; exact hr
        · exact z2 a (by omega) h2
      · exact Or.inr ⟨a, by omega, a2, a3⟩
def K39 (x : Int32) (l : Nat) (β : tm_M) : tm_M := fun k j p => if k = 39 ∧ j = 0 ∧ l ≤ p ∧ p < 30 ∧ β 39 0 p = x then 0 else β k j p
theorem lp_127 (s b a : Int32) (ix : tm_ix a 30 = true) (d : Nat) : ∀ (n l : Nat) (β : tm_M), d < n → l + d = 30 → cs_127_59 s b n a (Int32.ofNat l) β = tm_wr (K39 (s + 1) l β) 39 0 a.toNatClampNeg (s + 1) ∧ cv_127_59 s b n a (Int32.ofNat l) β = 1 ∧ ci_127_59 s b n a (Int32.ofNat l) β := by
  induction d with
  | zero =>
    intro n l β hn hl
    obtain ⟨n, rfl⟩ : ∃ m, n = m + 1 := ⟨n - 1, by omega⟩
    have hl : l = 30 := by omega
    subst hl
    have c : (30 : Int32) ≤ Int32.ofNat 30 := by decide
    have e : K39 (s + 1) 30 β = β := by
      funext k j p
      unfold K39
      rw [if_neg (fun z => absurd z.2.2.1 (by omega))]
    simp only [cs_127_59, cv_127_59, ci_127_59, if_pos c, e]
    exact ⟨(by trivial), (by trivial), fun _ => ix, fun z => absurd c z, fun z => absurd c z⟩
  | succ d ih =>
    intro n l β hn hl
    obtain ⟨n, rfl⟩ : ∃ m, n = m + 1 := ⟨n - 1, by omega⟩
    obtain ⟨c0, c30, c⟩ := lt30 (by omega : l < 30)
    have el : (Int32.ofNat l).toNatClampNeg = l := tn_of (by omega)
    simp only [cs_127_59, cv_127_59, ci_127_59, if_neg c, el]
    rw [tI_of1]
    obtain ⟨i1, i2, i3⟩ := ih n (l + 1) (tm_wr β 39 0 l (if β 39 0 l = s + 1 then 0 else β 39 0 l)) (by omega) (by omega)
    have hs1 : K39 (s + 1) (l + 1) (tm_wr β 39 0 l (if β 39 0 l = s + 1 then 0 else β 39 0 l)) = K39 (s + 1) l β := by
      funext k j p
      unfold K39
      simp only [tm_ap]
      grind
    rw [hs1] at i1
    exact ⟨i1, i2, fun z => absurd z c, fun _ => ix_n (by decide) (by omega), fun _ => i3⟩
theorem reserve_ok (h : Rel q t r w α β) (a1 a2 : Int32) : cv_3 a1 a2 α = cv_127 a1 a2 β ∧ ci_3 a1 a2 α ∧ ci_127 a1 a2 β ∧ Rel q t r w (cs_3 a1 a2 α) (cs_127 a1 a2 β) := by
  obtain ⟨E1, E2⟩ := sta_eq h a1
  obtain ⟨l1, l2, l3, l4, l5, l6, l7, l8⟩ := h.2.2.2.2.1
  unfold cv_3 ci_3 cs_3 cv_41 ci_41 cs_41 cv_127 ci_127 cs_127
  rw [E1]
  by_cases hz : cv_122 a1 β = 0 ∨ a2 < 1 ∨ ¬ a2 ≤ 9
  · simp only [if_pos hz]
    exact ⟨(by trivial), ⟨fun z => absurd hz z, fun z => absurd hz z, fun z => absurd hz z, fun z => absurd hz z, fun z => absurd hz z, fun z => absurd hz z⟩, ⟨fun z => absurd hz z, fun z => absurd hz z, fun z => absurd hz z⟩, h⟩
  · obtain ⟨s0, s6⟩ := E2 (fun z => hz (Or.inl z))
    have ix : tm_ix a1 6 = true := ix6.mpr ⟨s0, s6⟩
    obtain ⟨u1, u2, u3, u4⟩ := l5 _ (tn6 s0 s6)
    obtain ⟨net, hnet, hn2⟩ := nat_of (x := β 67 0 a1.toNatClampNeg) (n := 2) (by decide) u2 (by show _ ≤ (2 : Int32); grind)
    obtain ⟨n, rfl, hn9⟩ := nat_of (x := a2) (n := 9) (by decide) (by grind) (by show a2 ≤ 9; grind)
    have hn1 : 1 ≤ n := by
      have : ¬ Int32.ofNat n < Int32.ofNat 1 := fun z => hz (Or.inr (Or.inl z))
      rw [of_lt (by omega) (by decide)] at this
      omega
    simp only [if_neg hz]
    rw [u1, hnet, n10 (by omega) (by omega)]
    obtain ⟨A, hA⟩ : ∃ A, A = 10 * net + n := ⟨_, rfl⟩
    have hA30 : A < 30 := by omega
    have hA1 : 1 ≤ A := by omega
    have had : AD (Int32.ofNat A) := by rw [hA]; exact AD_n (by omega) hn1 (by omega)
    rw [← hA]
    have ixA : tm_ix (Int32.ofNat A) 30 = true := ix_n (by decide) hA30
    have tA : (Int32.ofNat A).toNatClampNeg = A := tn_of (by omega)
    obtain ⟨v1, v2, v3, v4⟩ := l7 A hA30
    unfold cv_43 ci_43
    rw [tA]
    by_cases hr : β 39 0 A = 0 ∨ β 39 0 A = a1 + 1
    · have hr' : ((if α 10 0 A = -1 then 0 else ((if α 10 0 A = a1 then 0 else 1) : Int32)) : Int32) = 0 := by grind
      simp only [if_pos hr, if_pos hr']
      obtain ⟨K1, K2⟩ := lp_42b (α := α) (s := a1) 29 64 1 (by decide) (by decide)
      have hone : Int32.ofNat 1 = (1 : Int32) := rfl
      rw [hone] at K1 K2
      obtain ⟨L1, L2, L3⟩ := lp_127 a1 (Int32.ofNat n) (Int32.ofNat A) ixA 30 64 0 β (by decide) (by decide)
      have hzero : Int32.ofNat 0 = (0 : Int32) := rfl
      rw [hzero] at L1 L2 L3
      rw [tA] at L1
      have e42 : cv_42 a1 α = cv_42_2 a1 64 1 α := rfl
      have c42 : ci_42 a1 α := K1
      have n0 : ¬ α 10 0 0 = a1 := by
        intro hq
        obtain ⟨-, -, -, w4⟩ := l7 0 (by decide)
        have := (w4 (by rw [hq]; intro hq'; rw [hq'] at s0; exact absurd s0 (by decide))).1
        exact absurd this (by decide)
      -- both ways give the same rows
      have key : ∀ X : tm_M, (∀ k, k ≠ 10 → X k = α k) → (∀ p, p < 30 → X 10 0 p = if p = A then a1 else if α 10 0 p = a1 then -1 else α 10 0 p) → Rel q t r w X (tm_wr (K39 (a1 + 1) 0 β) 39 0 A (a1 + 1)) := by
        intro X fA hX
        have fB : ∀ k, k ≠ 39 → tm_wr (K39 (a1 + 1) 0 β) 39 0 A (a1 + 1) k = β k := by
          intro k hk
          rw [tm_wr_ne hk]
          funext j p
          unfold K39
          rw [if_neg (fun z => hk z.1)]
        have hY : ∀ p, p < 30 → tm_wr (K39 (a1 + 1) 0 β) 39 0 A (a1 + 1) 39 0 p = if p = A then a1 + 1 else if β 39 0 p = a1 + 1 then 0 else β 39 0 p := by
          intro p hp
          simp only [tm_ap, K39]
          by_cases hpA : p = A
          · simp [hpA]
          · simp [hpA, hp]
        have fa : ∀ k, k ∉ ([6, 7, 8, 9, 10, 11, 12, 14, 15, 16, 17, 18] : List Nat) → X k = α k := by
          intro k hk
          simp only [List.mem_cons, List.not_mem_nil, or_false, not_or] at hk
          exact fA k (by omega)
        have fb : ∀ k, k ∉ ([36, 37, 38, 39, 40, 49, 50, 51, 52, 53] : List Nat) → tm_wr (K39 (a1 + 1) 0 β) 39 0 A (a1 + 1) k = β k := by
          intro k hk
          simp only [List.mem_cons, List.not_mem_nil, or_false, not_or] at hk
          exact fB k (by omega)
        have fp : ∀ p, p ≠ 20 → p ≠ 38 → tm_wr (K39 (a1 + 1) 0 β) 39 0 A (a1 + 1) 36 0 p = β 36 0 p := fun p _ _ => by rw [fB 36 (by decide)]
        refine Rel_su h fa (fun k hk => fb k (nin_of hk (by decide))) fp ?_ ?_ (su_W h fa fb fp) (su_T h (fA _ (by decide)) fp (fB _ (by decide)) (fun k h1 h2 => fB k (by omega))) (su_S h (fA _ (by decide)) (fA _ (by decide)) (fA _ (by decide)) (by rw [fB 36 (by decide)]) (by rw [fB 36 (by decide)]) (fB _ (by decide)) (fun k h1 h2 => fB k (by omega)))
        · unfold RL
          rw [fA 6 (by decide), fA 7 (by decide), fA 8 (by decide), fA 9 (by decide), fA 11 (by decide), fB 36 (by decide), fB 37 (by decide), fB 38 (by decide), fB 67 (by decide), fB 40 (by decide)]
          refine ⟨l1, l2, l3, l4, l5, l6, ?_, ?_⟩
          · intro p hp
            obtain ⟨w1, w2, w3, w4⟩ := l7 p hp
            rw [hX p hp, hY p hp]
            by_cases hpA : p = A
            · simp only [if_pos hpA]
              refine ⟨(by trivial), by grind, s6, fun _ => ?_⟩
              rw [hpA]; exact had
            · simp only [if_neg hpA]
              by_cases hps : α 10 0 p = a1
              · have : β 39 0 p = a1 + 1 := by rw [w1, hps]
                simp only [if_pos hps, if_pos this]
                exact ⟨by decide, by decide, by decide, fun z => absurd rfl z⟩
              · have : ¬ β 39 0 p = a1 + 1 := by rw [w1]; intro z; apply hps; grind
                simp only [if_neg hps, if_neg this]
                exact ⟨w1, w2, w3, w4⟩
          · intro p p' hp hp' hq hne
            rw [hX p hp] at hq hne
            rw [hX p' hp'] at hq
            have := l8 p p' hp hp'
            grind
        · exact RF_fr h.2.2.2.2.2.1 (fA _ (by decide)) (fA _ (by decide)) (fA _ (by decide)) (fA _ (by decide)) (fA _ (by decide)) (fA _ (by decide)) (by rw [fB 36 (by decide)]) (fB _ (by decide)) (fB _ (by decide)) (fB _ (by decide)) (fB _ (by decide)) (fB _ (by decide))
      rw [e42, L1, L2]
      rcases K2 with ⟨z1, z2⟩ | ⟨o, o1, o2, o3, o4⟩
      · rw [z1]
        simp only [if_true]
        refine ⟨(by trivial), ⟨fun _ => ix, fun _ => ixA, fun _ _ => c42, fun _ _ _ => ixA, fun _ _ z => absurd (by trivial) z, fun _ _ z => absurd (by trivial) z⟩, ⟨fun _ => ix, fun _ => ixA, fun _ _ => L3⟩, key _ (fun k hk => tm_wr_ne hk) ?_⟩
        intro p hp
        simp only [tm_ap]
        by_cases hpA : p = A
        · simp [hpA]
        · have hps : ¬ α 10 0 p = a1 := by
            by_cases hp0 : p = 0
            · rw [hp0]; exact n0
            · exact z2 p (by omega) hp
          simp [hpA, hps]
      · rw [o3]
        have ho := ne0 o1 o2
        have to' : (Int32.ofNat o).toNatClampNeg = o := tn_of (by omega)
        simp only [if_neg ho, to']
        refine ⟨(by trivial), ⟨fun _ => ix, fun _ => ixA, fun _ _ => c42, fun _ _ z => absurd z ho, fun _ _ _ => ix_n (by decide) o2, fun _ _ _ => ixA⟩, ⟨fun _ => ix, fun _ => ixA, fun _ _ => L3⟩, key _ (fun k hk => by rw [tm_wr_ne hk, tm_wr_ne hk]) ?_⟩
        intro p hp
        simp only [tm_ap]
        by_cases hpA : p = A
        · simp [hpA]
        · by_cases hpo : p = o
          · subst hpo
            simp [hpA, o4]
          · have hps : ¬ α 10 0 p = a1 := fun hq => hpo (l8 p o hp o2 (by rw [hq, o4]) (by rw [hq]; intro hq'; rw [hq'] at s0; exact absurd s0 (by decide)))
            simp [hpA, hpo, hps]
    · have hr' : ¬ ((if α 10 0 A = -1 then 0 else ((if α 10 0 A = a1 then 0 else 1) : Int32)) : Int32) = 0 := by grind
      simp only [if_neg hr, if_neg hr']
      exact ⟨(by trivial), ⟨fun _ => ix, fun _ => ixA, fun _ z => absurd z hr', fun _ z => absurd z hr', fun _ z => absurd z hr', fun _ z => absurd z hr'⟩, ⟨fun _ => ix, fun _ => ixA, fun _ z => absurd z hr⟩, h⟩
end KR
section CR
variable {q : Int32 × Nat} {t r w : Nat} {α β α' β' : tm_M}
def F24 (l : Nat) (α : tm_M) : tm_M := fun k j p => if k = 24 ∧ j = 0 ∧ l ≤ p ∧ p < 30 then 0 else α k j p
theorem lp_f24 (d : Nat) : ∀ (n l : Nat) (α : tm_M), d < n → l + d = 30 → cs_174k24_5 0 0 n (Int32.ofNat l) 30 α = F24 l α ∧ ci_174k24_5 0 0 n (Int32.ofNat l) 30 α := by
  induction d with
  | zero =>
    intro n l α hn hl
    obtain ⟨n, rfl⟩ : ∃ m, n = m + 1 := ⟨n - 1, by omega⟩
    have hl : l = 30 := by omega
    subst hl
    have c : (30 : Int32) ≤ Int32.ofNat 30 := by decide
    simp only [cs_174k24_5, ci_174k24_5, if_pos c]
    refine ⟨?_, fun z => absurd c z, fun z => absurd c z⟩
    funext k j p
    unfold F24
    rw [if_neg (by omega)]
  | succ d ih =>
    intro n l α hn hl
    obtain ⟨n, rfl⟩ : ∃ m, n = m + 1 := ⟨n - 1, by omega⟩
    obtain ⟨c0, c30, c⟩ := lt30 (by omega : l < 30)
    have el : (Int32.ofNat l).toNatClampNeg = l := tn_of (by omega)
    obtain ⟨i1, i2⟩ := ih n (l + 1) (tm_wr α 24 0 l 0) (by omega) (by omega)
    simp only [cs_174k24_5, ci_174k24_5, if_neg c, el]
    rw [tI_of1]
    refine ⟨?_, fun _ => ix_n (by decide) (by omega), fun _ => i2⟩
    rw [i1]
    funext k j p
    unfold F24
    simp only [tm_ap]
    by_cases a1 : k = 24 ∧ j = 0 ∧ l + 1 ≤ p ∧ p < 30
    · rw [if_pos a1, if_pos (by omega)]
    · rw [if_neg a1]
      by_cases a2 : k = 24 ∧ p = l ∧ j = 0
      · rw [if_pos a2, if_pos (by omega)]
      · rw [if_neg a2, if_neg (by omega)]
def F26 (l : Nat) (α : tm_M) : tm_M := fun k j p => if k = 26 ∧ j = 0 ∧ l ≤ p ∧ p < 30 then 0 else α k j p
theorem lp_f26 (d : Nat) : ∀ (n l : Nat) (α : tm_M), d < n → l + d = 30 → cs_174k26_5 0 0 n (Int32.ofNat l) 30 α = F26 l α ∧ ci_174k26_5 0 0 n (Int32.ofNat l) 30 α := by
  induction d with
  | zero =>
    intro n l α hn hl
    obtain ⟨n, rfl⟩ : ∃ m, n = m + 1 := ⟨n - 1, by omega⟩
    have hl : l = 30 := by omega
    subst hl
    have c : (30 : Int32) ≤ Int32.ofNat 30 := by decide
    simp only [cs_174k26_5, ci_174k26_5, if_pos c]
    refine ⟨?_, fun z => absurd c z, fun z => absurd c z⟩
    funext k j p
    unfold F26
    rw [if_neg (by omega)]
  | succ d ih =>
    intro n l α hn hl
    obtain ⟨n, rfl⟩ : ∃ m, n = m + 1 := ⟨n - 1, by omega⟩
    obtain ⟨c0, c30, c⟩ := lt30 (by omega : l < 30)
    have el : (Int32.ofNat l).toNatClampNeg = l := tn_of (by omega)
    obtain ⟨i1, i2⟩ := ih n (l + 1) (tm_wr α 26 0 l 0) (by omega) (by omega)
    simp only [cs_174k26_5, ci_174k26_5, if_neg c, el]
    rw [tI_of1]
    refine ⟨?_, fun _ => ix_n (by decide) (by omega), fun _ => i2⟩
    rw [i1]
    funext k j p
    unfold F26
    simp only [tm_ap]
    by_cases a1 : k = 26 ∧ j = 0 ∧ l + 1 ≤ p ∧ p < 30
    · rw [if_pos a1, if_pos (by omega)]
    · rw [if_neg a1]
      by_cases a2 : k = 26 ∧ p = l ∧ j = 0
      · rw [if_pos a2, if_pos (by omega)]
      · rw [if_neg a2, if_neg (by omega)]
def F27 (l : Nat) (α : tm_M) : tm_M := fun k j p => if k = 27 ∧ j = 0 ∧ l ≤ p ∧ p < 30 then 0 else α k j p
theorem lp_f27 (d : Nat) : ∀ (n l : Nat) (α : tm_M), d < n → l + d = 30 → cs_174k27_5 0 0 n (Int32.ofNat l) 30 α = F27 l α ∧ ci_174k27_5 0 0 n (Int32.ofNat l) 30 α := by
  induction d with
  | zero =>
    intro n l α hn hl
    obtain ⟨n, rfl⟩ : ∃ m, n = m + 1 := ⟨n - 1, by omega⟩
    have hl : l = 30 := by omega
    subst hl
    have c : (30 : Int32) ≤ Int32.ofNat 30 := by decide
    simp only [cs_174k27_5, ci_174k27_5, if_pos c]
    refine ⟨?_, fun z => absurd c z, fun z => absurd c z⟩
    funext k j p
    unfold F27
    rw [if_neg (by omega)]
  | succ d ih =>
    intro n l α hn hl
    obtain ⟨n, rfl⟩ : ∃ m, n = m + 1 := ⟨n - 1, by omega⟩
    obtain ⟨c0, c30, c⟩ := lt30 (by omega : l < 30)
    have el : (Int32.ofNat l).toNatClampNeg = l := tn_of (by omega)
    obtain ⟨i1, i2⟩ := ih n (l + 1) (tm_wr α 27 0 l 0) (by omega) (by omega)
    simp only [cs_174k27_5, ci_174k27_5, if_neg c, el]
    rw [tI_of1]
    refine ⟨?_, fun _ => ix_n (by decide) (by omega), fun _ => i2⟩
    rw [i1]
    funext k j p
    unfold F27
    simp only [tm_ap]
    by_cases a1 : k = 27 ∧ j = 0 ∧ l + 1 ≤ p ∧ p < 30
    · rw [if_pos a1, if_pos (by omega)]
    · rw [if_neg a1]
      by_cases a2 : k = 27 ∧ p = l ∧ j = 0
      · rw [if_pos a2, if_pos (by omega)]
      · rw [if_neg a2, if_neg (by omega)]
def T21 (l : Nat) (α : tm_M) : tm_M := fun k j p => if k = 21 ∧ p = 0 ∧ l ≤ j ∧ j < 6 then 0 else α k j p
theorem lt6 {l : Nat} (h : l < 6) : ¬ (6 : Int32) ≤ Int32.ofNat l := by
  show ¬ Int32.ofNat 6 ≤ Int32.ofNat l
  rw [of_le (by decide) (by omega)]; omega
theorem lp_83 (d : Nat) : ∀ (n l : Nat) (α : tm_M), d < n → l + d = 6 → cs_83_9 n (Int32.ofNat l) α = cs_83_36 64 0 (T21 l α) ∧ cv_83_9 n (Int32.ofNat l) α = cv_83_36 64 0 (T21 l α) ∧ (ci_83_36 64 0 (T21 l α) → ci_83_9 n (Int32.ofNat l) α) := by
  induction d with
  | zero =>
    intro n l α hn hl
    obtain ⟨n, rfl⟩ : ∃ m, n = m + 1 := ⟨n - 1, by omega⟩
    have hl : l = 6 := by omega
    subst hl
    have c : (6 : Int32) ≤ Int32.ofNat 6 := by decide
    have e : T21 6 α = α := by
      funext k j p
      unfold T21
      rw [if_neg (by omega)]
    simp only [cs_83_9, cv_83_9, ci_83_9, if_pos c, e]
    exact ⟨(by trivial), (by trivial), fun z => ⟨fun _ => z, fun z => absurd c z, fun z => absurd c z⟩⟩
  | succ d ih =>
    intro n l α hn hl
    obtain ⟨n, rfl⟩ : ∃ m, n = m + 1 := ⟨n - 1, by omega⟩
    have c := lt6 (by omega : l < 6)
    have el : (Int32.ofNat l).toNatClampNeg = l := tn_of (by omega)
    obtain ⟨i1, i2, i3⟩ := ih n (l + 1) (tm_wr α 21 l 0 0) (by omega) (by omega)
    have e : T21 (l + 1) (tm_wr α 21 l 0 0) = T21 l α := by
      funext k j p
      unfold T21
      simp only [tm_ap]
      by_cases a1 : k = 21 ∧ p = 0 ∧ l + 1 ≤ j ∧ j < 6
      · rw [if_pos a1, if_pos (by omega)]
      · rw [if_neg a1]
        by_cases a2 : k = 21 ∧ p = 0 ∧ j = l
        · rw [if_pos a2, if_pos (by omega)]
        · rw [if_neg a2, if_neg (by omega)]
    rw [e] at i1 i2 i3
    simp only [cs_83_9, cv_83_9, ci_83_9, if_neg c, el]
    rw [tI_of1]
    exact ⟨i1, i2, fun z => ⟨fun z => absurd z c, fun _ => ix_n (by decide) (by omega), fun _ => i3 z⟩⟩
def G30 (l : Nat) (β : tm_M) : tm_M := fun k j p => if (k = 55 ∨ k = 57 ∨ k = 58) ∧ j = 0 ∧ l ≤ p ∧ p < 30 then 0 else β k j p
theorem lp_153 (d : Nat) : ∀ (n l : Nat) (β : tm_M), d < n → l + d = 30 → cs_153_2 n (Int32.ofNat l) β = cs_153_37 64 0 (G30 l β) ∧ cv_153_2 n (Int32.ofNat l) β = cv_153_37 64 0 (G30 l β) ∧ (ci_153_37 64 0 (G30 l β) → ci_153_2 n (Int32.ofNat l) β) := by
  induction d with
  | zero =>
    intro n l β hn hl
    obtain ⟨n, rfl⟩ : ∃ m, n = m + 1 := ⟨n - 1, by omega⟩
    have hl : l = 30 := by omega
    subst hl
    have c : (30 : Int32) ≤ Int32.ofNat 30 := by decide
    have e : G30 30 β = β := by
      funext k j p
      unfold G30
      rw [if_neg (by omega)]
    simp only [cs_153_2, cv_153_2, ci_153_2, if_pos c, e]
    exact ⟨(by trivial), (by trivial), fun z => ⟨fun _ => z, fun z => absurd c z, fun z => absurd c z⟩⟩
  | succ d ih =>
    intro n l β hn hl
    obtain ⟨n, rfl⟩ : ∃ m, n = m + 1 := ⟨n - 1, by omega⟩
    obtain ⟨c0, c30, c⟩ := lt30 (by omega : l < 30)
    have el : (Int32.ofNat l).toNatClampNeg = l := tn_of (by omega)
    obtain ⟨i1, i2, i3⟩ := ih n (l + 1) (tm_wr (tm_wr (tm_wr β 57 0 l 0) 58 0 l 0) 55 0 l 0) (by omega) (by omega)
    have e : G30 (l + 1) (tm_wr (tm_wr (tm_wr β 57 0 l 0) 58 0 l 0) 55 0 l 0) = G30 l β := by
      funext k j p
      unfold G30
      simp only [tm_ap]
      by_cases a1 : (k = 55 ∨ k = 57 ∨ k = 58) ∧ j = 0 ∧ l ≤ p ∧ p < 30
      · rw [if_pos a1]
        by_cases a2 : (k = 55 ∨ k = 57 ∨ k = 58) ∧ j = 0 ∧ l + 1 ≤ p ∧ p < 30
        · rw [if_pos a2]
        · rw [if_neg a2]
          by_cases b1 : k = 55 ∧ p = l ∧ j = 0
          · rw [if_pos b1]
          · rw [if_neg b1]
            by_cases b2 : k = 58 ∧ p = l ∧ j = 0
            · rw [if_pos b2]
            · rw [if_neg b2, if_pos (by omega)]
      · rw [if_neg a1, if_neg (by omega), if_neg (by omega), if_neg (by omega), if_neg (by omega)]
    rw [e] at i1 i2 i3
    simp only [cs_153_2, cv_153_2, ci_153_2, if_neg c, el]
    rw [tI_of1]
    exact ⟨i1, i2, fun z => ⟨fun z => absurd z c, fun _ => ix_n (by decide) (by omega), fun _ => i3 z⟩⟩
def T62 (l : Nat) (β : tm_M) : tm_M := fun k j p => if k = 62 ∧ j = 0 ∧ l ≤ p ∧ p < 6 then 0 else β k j p
theorem lp_37 (d : Nat) : ∀ (n l : Nat) (β : tm_M), d < n → l + d = 6 → cs_153_37 n (Int32.ofNat l) β = cs_153_58 64 0 (T62 l β) ∧ cv_153_37 n (Int32.ofNat l) β = cv_153_58 64 0 (T62 l β) ∧ (ci_153_58 64 0 (T62 l β) → ci_153_37 n (Int32.ofNat l) β) := by
  induction d with
  | zero =>
    intro n l β hn hl
    obtain ⟨n, rfl⟩ : ∃ m, n = m + 1 := ⟨n - 1, by omega⟩
    have hl : l = 6 := by omega
    subst hl
    have c : (6 : Int32) ≤ Int32.ofNat 6 := by decide
    have e : T62 6 β = β := by
      funext k j p
      unfold T62
      rw [if_neg (by omega)]
    simp only [cs_153_37, cv_153_37, ci_153_37, if_pos c, e]
    exact ⟨(by trivial), (by trivial), fun z => ⟨fun _ => z, fun z => absurd c z, fun z => absurd c z⟩⟩
  | succ d ih =>
    intro n l β hn hl
    obtain ⟨n, rfl⟩ : ∃ m, n = m + 1 := ⟨n - 1, by omega⟩
    have c := lt6 (by omega : l < 6)
    have el : (Int32.ofNat l).toNatClampNeg = l := tn_of (by omega)
    obtain ⟨i1, i2, i3⟩ := ih n (l + 1) (tm_wr β 62 0 l 0) (by omega) (by omega)
    have e : T62 (l + 1) (tm_wr β 62 0 l 0) = T62 l β := by
      funext k j p
      unfold T62
      simp only [tm_ap]
      by_cases a1 : k = 62 ∧ j = 0 ∧ l + 1 ≤ p ∧ p < 6
      · rw [if_pos a1, if_pos (by omega)]
      · rw [if_neg a1]
        by_cases a2 : k = 62 ∧ p = l ∧ j = 0
        · rw [if_pos a2, if_pos (by omega)]
        · rw [if_neg a2, if_neg (by omega)]
    rw [e] at i1 i2 i3
    simp only [cs_153_37, cv_153_37, ci_153_37, if_neg c, el]
    rw [tI_of1]
    exact ⟨i1, i2, fun z => ⟨fun z => absurd z c, fun _ => ix_n (by decide) (by omega), fun _ => i3 z⟩⟩
theorem lease1_ok (h : Rel q t r w α β) (a s u : Int32) (had : AD a) (s0 : 0 ≤ s) (h57 : ∀ p, p < 30 → β 57 0 p = 0) : Rel q t r w (tm_wr (tm_wr α 23 0 a.toNatClampNeg s) 24 0 a.toNatClampNeg u) (tm_wr (tm_wr β 54 0 a.toNatClampNeg s) 55 0 a.toNatClampNeg u) := by
  obtain ⟨a0, a30, ix⟩ := AD_ix had
  have ha := tn30 a0 a30
  have now0 : 0 ≤ β 36 0 3 := h.2.1.2.2.2.2.2.2.2.2.2.2.2
  have ea : Int32.ofNat a.toNatClampNeg = a := of_tn a0
  refine Rel_sv h ?_ ?_ ?_ ?_ ?_ ?_
  · intro k hk
    simp only [List.mem_cons, List.not_mem_nil, or_false, not_or] at hk
    rw [tm_wr_ne (by omega), tm_wr_ne (by omega)]
  · intro k hk
    simp only [List.mem_cons, List.not_mem_nil, or_false, not_or] at hk
    rw [tm_wr_ne (by omega), tm_wr_ne (by omega)]
  · intro p hp
    simp [tm_ap]
  · intro p hp
    obtain ⟨b1, b2, b3, b4, b5, b6, b7, b8, b9⟩ := h.2.2.2.2.2.2.1 p hp
    have h57 := h57 p hp
    simp only [tm_ap]
    by_cases hpa : p = a.toNatClampNeg
    · subst hpa
      simp
      refine ⟨b3, b4, b5, s0, b7, ?_, ?_⟩
      · intro _ hz
        rw [h57] at hz
        exact absurd hz (by grind)
      · intro _
        rw [ea]; exact had
    · simp [hpa]
      exact ⟨b1, b2, b3, b4, b5, b6, b7, b8, b9⟩
  · refine RJ_fr h.2.2.2.2.2.2.2.1 ?_ ?_ ?_ ?_ ?_ ?_ ?_ ?_
    all_goals first
      | (rw [tm_wr_ne (by decide), tm_wr_ne (by decide)]; done)
      | simp [tm_ap]
  · intro j hj
    refine RT_fr (h.2.2.2.2.2.2.2.2.1 j hj) ?_ ?_ ?_ ?_ ?_ ?_ ?_ ?_ ?_
    all_goals first
      | (rw [tm_wr_ne (by decide), tm_wr_ne (by decide)]; done)
      | simp [tm_ap]
theorem lp_36 {c : Nat} (hc : c ≤ 16) (d : Nat) : ∀ (n l : Nat) (α β : tm_M), d < n → l + d = c → Rel q t r w α β → β 36 0 29 = Int32.ofNat c → (∀ p, p < 30 → β 57 0 p = 0) → ci_83_36 n (Int32.ofNat l) α ∧ ci_153_58 n (Int32.ofNat l) β ∧ cv_83_36 n (Int32.ofNat l) α = Int32.ofNat c ∧ cv_153_58 n (Int32.ofNat l) β = Int32.ofNat c ∧ Rel q t r w (cs_83_36 n (Int32.ofNat l) α) (cs_153_58 n (Int32.ofNat l) β) := by
  induction d with
  | zero =>
    intro n l α β hn hl h e h57
    obtain ⟨n, rfl⟩ : ∃ m, n = m + 1 := ⟨n - 1, by omega⟩
    have e' : α 28 0 3 = Int32.ofNat c := h.2.2.2.2.2.2.2.1.1.trans e
    have k : Int32.ofNat c ≤ Int32.ofNat l := by rw [of_le (by omega) (by omega)]; omega
    simp only [ci_83_36, ci_153_58, cv_83_36, cv_153_58, cs_83_36, cs_153_58, e, e', if_pos k]
    exact ⟨⟨fun z => absurd k z, fun z => absurd k z, fun z => absurd k z⟩, ⟨fun z => absurd k z, fun z => absurd k z, fun z => absurd k z⟩, (by trivial), (by trivial), h⟩
  | succ d ih =>
    intro n l α β hn hl h e h57
    obtain ⟨n, rfl⟩ : ∃ m, n = m + 1 := ⟨n - 1, by omega⟩
    obtain ⟨n1, n2, n3, n4⟩ := h.2.2.2.2.2.2.2.1
    have e' : α 28 0 3 = Int32.ofNat c := n1.trans e
    have k : ¬ Int32.ofNat c ≤ Int32.ofNat l := by rw [of_le (by omega) (by omega)]; omega
    have el : (Int32.ofNat l).toNatClampNeg = l := tn_of (by omega)
    obtain ⟨m1, m2, m3, m4, m5⟩ := n4 l (by omega)
    have had := m5 (by rw [e, of_lt (by omega) (by omega)]; omega)
    obtain ⟨a0, a30, ix⟩ := AD_ix had
    have hR := lease1_ok h (β 59 0 l) (β 60 0 l) (β 61 0 l) had m4 h57
    obtain ⟨i1, i2, i3, i4, i5⟩ := ih n (l + 1) _ _ (by omega) (by omega) hR (by simpa [tm_ap] using e) (by intro p hp; simpa [tm_ap] using h57 p hp)
    simp only [ci_83_36, ci_153_58, cv_83_36, cv_153_58, cs_83_36, cs_153_58, cs_27, ci_27, e, e', if_neg k, el, m1, m2, m3]
    rw [tI_of1]
    exact ⟨⟨fun _ => ix_n (by decide) (by omega), fun _ => ix, fun _ => i1⟩, ⟨fun _ => ix_n (by decide) (by omega), fun _ => ix, fun _ => i2⟩, i3, i4, i5⟩
theorem crash_ok (h : Rel q t r w α β) : cv_12 α = cv_153 β ∧ ci_12 α ∧ ci_153 β ∧ Rel q t r w (cs_12 α) (cs_153 β) := by
  have z : Int32.ofNat 0 = (0 : Int32) := rfl
  have A1 := lp_f24 30 64 0 α (by decide) (by decide)
  have A2 := lp_f26 30 64 0 (F24 0 α) (by decide) (by decide)
  have A3 := lp_f27 30 64 0 (F26 0 (F24 0 α)) (by decide) (by decide)
  have A4 := lp_83 6 64 0 (F27 0 (F26 0 (F24 0 α))) (by decide) (by decide)
  have B1 := lp_153 30 64 0 β (by decide) (by decide)
  have B2 := lp_37 6 64 0 (G30 0 β) (by decide) (by decide)
  rw [z] at A1 A2 A3 A4 B1 B2
  have now0 : 0 ≤ β 36 0 3 := h.2.1.2.2.2.2.2.2.2.2.2.2.2
  have hR : Rel q t r w (T21 0 (F27 0 (F26 0 (F24 0 α)))) (T62 0 (G30 0 β)) := by
    have fA : ∀ k, k ∉ ([21, 24, 26, 27] : List Nat) → T21 0 (F27 0 (F26 0 (F24 0 α))) k = α k := by
      intro k hk
      simp only [List.mem_cons, List.not_mem_nil, or_false, not_or] at hk
      funext j p
      unfold T21 F27 F26 F24
      rw [if_neg (by omega), if_neg (by omega), if_neg (by omega), if_neg (by omega)]
    have fB : ∀ k, k ∉ ([55, 57, 58, 62] : List Nat) → T62 0 (G30 0 β) k = β k := by
      intro k hk
      simp only [List.mem_cons, List.not_mem_nil, or_false, not_or] at hk
      funext j p
      unfold T62 G30
      rw [if_neg (by omega), if_neg (by omega)]
    refine Rel_sv h (fun k hk => fA k (nin_of hk (by decide))) (fun k hk => fB k (nin_of hk (by decide))) (fun p _ => by rw [fB 36 (by decide)]) ?_ ?_ ?_
    · intro p hp
      obtain ⟨b1, b2, b3, b4, b5, b6, b7, b8, b9⟩ := h.2.2.2.2.2.2.1 p hp
      have x24 : T21 0 (F27 0 (F26 0 (F24 0 α))) 24 0 p = 0 := by simp [T21, F27, F26, F24, hp]
      have x26 : T21 0 (F27 0 (F26 0 (F24 0 α))) 26 0 p = 0 := by simp [T21, F27, F26, F24, hp]
      have x27 : T21 0 (F27 0 (F26 0 (F24 0 α))) 27 0 p = 0 := by simp [T21, F27, F26, F24, hp]
      have y55 : T62 0 (G30 0 β) 55 0 p = 0 := by simp [T62, G30, hp]
      have y57 : T62 0 (G30 0 β) 57 0 p = 0 := by simp [T62, G30, hp]
      have y58 : T62 0 (G30 0 β) 58 0 p = 0 := by simp [T62, G30, hp]
      rw [x24, x26, x27, y55, y57, y58, fA 23 (by decide), fA 25 (by decide), fB 54 (by decide), fB 56 (by decide), fB 36 (by decide)]
      refine ⟨b1, rfl, b3, rfl, Or.inl rfl, b6, b7, fun hz => absurd hz (by grind), fun hz => absurd hz (by grind)⟩
    · exact RJ_fr h.2.2.2.2.2.2.2.1 (fA _ (by decide)) (fA _ (by decide)) (fA _ (by decide)) (fA _ (by decide)) (by rw [fB 36 (by decide)]) (fB _ (by decide)) (fB _ (by decide)) (fB _ (by decide))
    · intro j hj
      have hT := h.2.2.2.2.2.2.2.2.1 j hj
      unfold RT at hT ⊢
      obtain ⟨t1, t2, t3, t4, t5, -⟩ := hT
      have x0 : T21 0 (F27 0 (F26 0 (F24 0 α))) 21 j 0 = 0 := by simp [T21, hj]
      have xp : ∀ p, p ≠ 0 → T21 0 (F27 0 (F26 0 (F24 0 α))) 21 j p = α 21 j p := by
        intro p hp
        simp [T21, F27, F26, F24, hp]
      have y0 : T62 0 (G30 0 β) 62 0 j = 0 := by simp [T62, hj]
      rw [xp 2 (by decide), xp 3 (by decide), xp 4 (by decide), xp 5 (by decide), fB 63 (by decide), fB 64 (by decide), fB 65 (by decide), fB 66 (by decide), fB 36 (by decide)]
      exact ⟨t1, t2, t3, t4, t5, Or.inl ⟨x0, y0⟩⟩
  have e57 : ∀ p, p < 30 → T62 0 (G30 0 β) 57 0 p = 0 := by
    intro p hp
    simp [T62, G30, hp]
  obtain ⟨n1, n2, n3, n4⟩ := h.2.2.2.2.2.2.2.1
  obtain ⟨c, hc, hc16⟩ := nat_of (x := β 36 0 29) (n := 16) (by decide) n2 n3
  have e29 : T62 0 (G30 0 β) 36 0 29 = Int32.ofNat c := by
    have : T62 0 (G30 0 β) 36 0 29 = β 36 0 29 := by simp [T62, G30]
    rw [this, hc]
  obtain ⟨i1, i2, i3, i4, i5⟩ := lp_36 hc16 c 64 0 _ _ (by omega) (by omega) hR e29 e57
  rw [z] at i1 i2 i3 i4 i5
  have s22 : cs_22 α = F27 0 (F26 0 (F24 0 α)) := by
    unfold cs_22 cs_174k24 cs_174k26 cs_174k27
    rw [A1.1, A2.1, A3.1]
  have c22 : ci_22 α := by
    unfold ci_22 ci_174k24 ci_174k26 ci_174k27 cs_174k24 cs_174k26
    rw [A1.1, A2.1]
    exact ⟨A1.2, A2.2, A3.2⟩
  unfold cv_12 ci_12 cs_12 cv_83 ci_83 cs_83 cv_153 ci_153 cs_153
  rw [s22, A4.1, A4.2.1, B1.1, B1.2.1, B2.1, B2.2.1, i3, i4]
  exact ⟨rfl, ⟨c22, A4.2.2 i1⟩, B1.2.2 (B2.2.2 i2), i5⟩
end CR
