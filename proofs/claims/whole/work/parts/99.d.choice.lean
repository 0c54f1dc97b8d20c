/-! The server chooses an address and offers it. -/
section CH
variable {q : Int32 × Nat} {t r w : Nat} {α β α' β' : tm_M}
theorem Rel_sv (h : Rel q t r w α β) (fa : ∀ k, k ∉ ([21, 23, 24, 25, 26, 27, 28, 29, 30, 31] : List Nat) → α' k = α k) (fb : ∀ k, k ∉ ([36, 54, 55, 56, 57, 58, 59, 60, 61, 62, 63, 64, 65, 66] : List Nat) → β' k = β k) (fp : ∀ p, p ≠ 29 → β' 36 0 p = β 36 0 p) (hB : RB α' β') (hJ : RJ α' β') (hTr : ∀ s, s < 6 → RT α' β' s) : Rel q t r w α' β' := by
  obtain ⟨hQ, hG, hT, hW, hL, hF, -, -, -, hS, hN⟩ := h
  refine ⟨?_, ?_, ?_, ?_, ?_, ?_, hB, hJ, hTr, ?_, ?_⟩
  · unfold RQ at *
    rw [fa 4 (by decide), fa 2 (by decide)]; exact hQ
  · exact RG_fr hG (by rw [fa 1 (by decide)]) (fp _ (by decide)) (fp _ (by decide)) (fp _ (by decide)) (fp _ (by decide)) (fp _ (by decide))
  · rw [fp _ (by decide)]; exact hT
  · exact RW_fr hW (fa _ (by decide)) (fa _ (by decide)) (fa _ (by decide)) (fa _ (by decide)) (fp _ (by decide)) (fb _ (by decide)) (fb _ (by decide)) (fb _ (by decide)) (fb _ (by decide)) (fb _ (by decide)) (fb _ (by decide)) (fb _ (by decide)) (fb _ (by decide)) (fb _ (by decide))
  · exact RL_fr hL (fa _ (by decide)) (fa _ (by decide)) (fa _ (by decide)) (fa _ (by decide)) (fa _ (by decide)) (fa _ (by decide)) (fp _ (by decide)) (fb _ (by decide)) (fb _ (by decide)) (fb _ (by decide)) (fb _ (by decide)) (fb _ (by decide))
  · exact RF_fr hF (fa _ (by decide)) (fa _ (by decide)) (fa _ (by decide)) (fa _ (by decide)) (fa _ (by decide)) (fa _ (by decide)) (fp _ (by decide)) (fb _ (by decide)) (fb _ (by decide)) (fb _ (by decide)) (fb _ (by decide)) (fb _ (by decide))
  · intro j hj
    exact RS_fr (hS j hj) (by rw [fa 33 (by decide)]) (by rw [fa 34 (by decide)]) (by rw [fa 35 (by decide)]) (fp _ (by decide)) (fp _ (by decide)) (fb _ (by decide)) (fun k' h1 h2 => by
      rw [fb k' (by simp only [List.mem_cons, List.not_mem_nil, or_false]; omega)]) (fun k' _ => by rw [fb 83 (by decide)])
  · intro j hj hjw
    exact RN_fr (hN j hj hjw) (by rw [fa 33 (by decide)]) (by rw [fb 68 (by decide)]) (by rw [fb 71 (by decide)])
theorem srv_send (h : Rel q t r w α β) (k s n it b : Int32) (h0 : 0 ≤ s) (h6 : s < 6) (hk : k = 1 ∨ k = 3 ∨ k = 4 ∨ k = 9 ∨ k = 11) (ha : 1 ≤ k → k ≤ 7 → AD it) (hf : 8 ≤ k → 0 ≤ it ∧ it ≤ 3) : ci_96 k s n it b α ∧ ci_135 k s n it b β ∧ Rel q t (nx r) w (cs_96 k s n it b α) (cs_135 k s n it b β) := by
  have hL := h.2.2.2.2.1
  have e9 := (hL.2.2.2.2.1 _ (tn6 h0 h6)).1
  refine ⟨⟨ix6.mpr ⟨h0, h6⟩, ci_sc h rfl⟩, ci_sr h rfl h0 h6, ?_⟩
  unfold cs_96 cv_46
  rw [e9]
  have h134 : cv_134 k β = 1 := by
    unfold cv_134
    rcases hk with hk | hk | hk | hk | hk <;> subst hk <;> rfl
  refine send_rel h k s _ n it b ?_ ?_
  · refine ⟨?_, ?_, h0, h6, by decide, by decide, ?_, ha, hf⟩
    · rcases hk with hk | hk | hk | hk | hk <;> subst hk <;> decide
    · rcases hk with hk | hk | hk | hk | hk <;> subst hk <;> decide
    · by_cases hz : β 67 0 s.toNatClampNeg = 0
      · simp [hz]
      · simp [hz]
        rcases hk with hk | hk | hk | hk | hk <;> subst hk <;> decide
  · rw [h134]
    by_cases hz : β 67 0 s.toNatClampNeg = 0 <;> simp [hz]
theorem free_eq (h : Rel q t r w α β) {a s : Int32} (a0 : 0 ≤ a) (a30 : a < 30) (s0 : 0 ≤ s) : cv_26 a s α = cv_144 a s β ∧ ci_26 a s α ∧ ci_144 a s β := by
  have ha := tn30 a0 a30
  have ix : tm_ix a 30 = true := ix30.mpr ⟨a0, a30⟩
  obtain ⟨b1, b2, b3, b4, b5, b6, b7, b8, b9⟩ := h.2.2.2.2.2.2.1 _ ha
  obtain ⟨l1, l2, l3, l4⟩ := h.2.2.2.2.1.2.2.2.2.2.2.1 _ ha
  have g3 : α 1 0 3 = β 36 0 3 := h.2.1.2.2.2.1
  refine ⟨?_, ⟨ix, ix, ix, fun _ _ _ => ix, fun _ _ _ _ => ix, fun _ _ _ _ => ix, fun _ _ _ _ _ => ix⟩, ix⟩
  unfold cv_26 cv_25 cv_23 cv_24 cv_43 cv_144
  rw [b1, b2, b3, b4, g3, l1]
  generalize β 54 0 a.toNatClampNeg = x54 at *
  generalize β 55 0 a.toNatClampNeg = x55 at *
  generalize β 56 0 a.toNatClampNeg = x56 at *
  generalize β 57 0 a.toNatClampNeg = x57 at *
  generalize β 58 0 a.toNatClampNeg = x58 at *
  generalize α 26 0 a.toNatClampNeg = y26 at *
  generalize α 10 0 a.toNatClampNeg = y10 at *
  generalize β 36 0 3 = now at *
  grind
theorem leased_eq (h : Rel q t r w α β) {a s : Int32} (a0 : 0 ≤ a) (a30 : a < 30) (s0 : 0 ≤ s) : (cv_23 a α = s ↔ ¬ cv_142 a s β = 0) ∧ ci_23 a α ∧ ci_142 a s β ∧ (cv_23 a α = s → AD a) := by
  have ha := tn30 a0 a30
  have ix : tm_ix a 30 = true := ix30.mpr ⟨a0, a30⟩
  obtain ⟨b1, b2, b3, b4, b5, b6, b7, b8, b9⟩ := h.2.2.2.2.2.2.1 _ ha
  have g3 : α 1 0 3 = β 36 0 3 := h.2.1.2.2.2.1
  rw [of_tn a0] at b9
  unfold cv_23 cv_142
  rw [b1, b2, g3]
  refine ⟨?_, ix, ix, ?_⟩
  · generalize β 54 0 a.toNatClampNeg = x54 at *
    generalize β 55 0 a.toNatClampNeg = x55 at *
    generalize β 36 0 3 = now at *
    grind
  · intro hq
    apply b9
    generalize β 54 0 a.toNatClampNeg = x54 at *
    generalize β 55 0 a.toNatClampNeg = x55 at *
    generalize β 36 0 3 = now at *
    grind
/-- an address that may be offered -/
def GA (β : tm_M) (s a : Int32) : Prop := AD a ∧ ¬ cv_144 a s β = 0
theorem lt30 {l : Nat} (h : l < 30) : 0 ≤ Int32.ofNat l ∧ Int32.ofNat l < 30 ∧ ¬ (30 : Int32) ≤ Int32.ofNat l := by
  refine ⟨of0 (by omega), ?_, ?_⟩
  · show Int32.ofNat l < Int32.ofNat 30
    rw [of_lt (by omega) (by decide)]; exact h
  · show ¬ Int32.ofNat 30 ≤ Int32.ofNat l
    rw [of_le (by decide) (by omega)]; omega
theorem ne0 {l : Nat} (h : 1 ≤ l) (h2 : l < 30) : ¬ Int32.ofNat l = 0 := by
  show ¬ Int32.ofNat l = Int32.ofNat 0
  rw [of_eq (by omega) (by decide)]; omega
theorem lp_86 (h : Rel q t r w α β) {s : Int32} (s0 : 0 ≤ s) (d : Nat) : ∀ n l : Nat, d < n → l + d = 30 → 1 ≤ l → cv_145_2 s n (Int32.ofNat l) β = (if cv_86_2 s n (Int32.ofNat l) α = 0 then cv_145_36 s 64 1 β else cv_86_2 s n (Int32.ofNat l) α) ∧ ci_86_2 s n (Int32.ofNat l) α ∧ (ci_145_36 s 64 1 β → ci_145_2 s n (Int32.ofNat l) β) ∧ (¬ cv_86_2 s n (Int32.ofNat l) α = 0 → GA β s (cv_86_2 s n (Int32.ofNat l) α)) := by
  induction d with
  | zero =>
    intro n l hn hl _
    obtain ⟨n, rfl⟩ : ∃ m, n = m + 1 := ⟨n - 1, by omega⟩
    have hl : l = 30 := by omega
    subst hl
    have c : (30 : Int32) ≤ Int32.ofNat 30 := by decide
    simp only [cv_145_2, cv_86_2, ci_86_2, ci_145_2, if_pos c]
    exact ⟨by simp, ⟨fun z => absurd c z, fun z => absurd c z, fun z => absurd c z⟩, fun z => ⟨fun _ => z, fun z => absurd c z, fun z => absurd c z, fun z => absurd c z⟩, fun z => absurd (by trivial) z⟩
  | succ d ih =>
    intro n l hn hl h1
    obtain ⟨n, rfl⟩ : ∃ m, n = m + 1 := ⟨n - 1, by omega⟩
    obtain ⟨c0, c30, c⟩ := lt30 (by omega : l < 30)
    obtain ⟨F1, F2, F3⟩ := free_eq h c0 c30 s0
    obtain ⟨E1, E2, E3, E4⟩ := leased_eq h c0 c30 s0
    obtain ⟨i1, i2, i3, i4⟩ := ih n (l + 1) (by omega) (by omega) (by omega)
    simp only [cv_145_2, cv_86_2, ci_86_2, ci_145_2, if_neg c]
    rw [tI_of1]
    by_cases hc : cv_142 (Int32.ofNat l) s β = 0 ∨ cv_144 (Int32.ofNat l) s β = 0
    · have hc' : ¬ cv_23 (Int32.ofNat l) α = s ∨ cv_26 (Int32.ofNat l) s α = 0 := by
        rw [F1, E1]
        rcases hc with hc | hc
        · exact Or.inl (fun z => z hc)
        · exact Or.inr hc
      rw [if_pos hc, if_pos hc']
      exact ⟨i1, ⟨fun _ => E2, fun _ _ => F2, fun _ _ => i2⟩, fun z => ⟨fun z => absurd z c, fun _ => E3, fun _ _ => F3, fun _ _ => i3 z⟩, i4⟩
    · have hc' : ¬ (¬ cv_23 (Int32.ofNat l) α = s ∨ cv_26 (Int32.ofNat l) s α = 0) := by
        rw [F1, E1]
        intro hz
        apply hc
        rcases hz with hz | hz
        · exact Or.inl (Classical.not_not.mp hz)
        · exact Or.inr hz
      have hl0 := ne0 h1 (by omega : l < 30)
      rw [if_neg hc, if_neg hc', if_neg hl0]
      refine ⟨rfl, ⟨fun _ => E2, fun _ _ => F2, fun _ z => absurd z hc'⟩, fun z => ⟨fun z => absurd z c, fun _ => E3, fun _ _ => F3, fun _ z => absurd z hc⟩, fun _ => ⟨?_, fun z => hc (Or.inr z)⟩⟩
      exact E4 (E1.mpr (fun z => hc (Or.inl z)))
theorem sk_36 {s : Int32} (h6 : tm_ix s 6 = true) (d : Nat) : ∀ n l : Nat, d < n → l + d = 30 → (∀ a, l ≤ a → a < 30 → ¬ β 39 0 a = s + 1) → cv_145_36 s n (Int32.ofNat l) β = cv_145_80 s 64 (β 67 0 s.toNatClampNeg) 1 β ∧ (ci_145_80 s 64 (β 67 0 s.toNatClampNeg) 1 β → ci_145_36 s n (Int32.ofNat l) β) := by
  induction d with
  | zero =>
    intro n l hn hl _
    obtain ⟨n, rfl⟩ : ∃ m, n = m + 1 := ⟨n - 1, by omega⟩
    have hl : l = 30 := by omega
    subst hl
    have c : (30 : Int32) ≤ Int32.ofNat 30 := by decide
    simp only [cv_145_36, ci_145_36, if_pos c]
    exact ⟨trivial, fun z => ⟨fun _ => h6, fun _ => z, fun z => absurd c z, fun z => absurd c z, fun z => absurd c z⟩⟩
  | succ d ih =>
    intro n l hn hl ha
    obtain ⟨n, rfl⟩ : ∃ m, n = m + 1 := ⟨n - 1, by omega⟩
    obtain ⟨c0, c30, c⟩ := lt30 (by omega : l < 30)
    obtain ⟨i1, i2⟩ := ih n (l + 1) (by omega) (by omega) (fun a h1 h2 => ha a (by omega) h2)
    have hn1 := ha l (by omega) (by omega)
    have hc : ¬ β 39 0 (Int32.ofNat l).toNatClampNeg = s + 1 ∨ cv_144 (Int32.ofNat l) s β = 0 := by
      rw [tn_of (by omega : l < 2147483648)]; exact Or.inl hn1
    simp only [cv_145_36, ci_145_36, if_neg c, if_pos hc]
    rw [tI_of1]
    refine ⟨i1, fun z => ⟨fun z => absurd z c, fun z => absurd z c, fun _ => ix_n (by decide) (by omega), fun _ z => ?_, fun _ _ => i2 z⟩⟩
    rw [tn_of (by omega : l < 2147483648)] at z
    exact absurd z hn1
theorem lp_42 (h : Rel q t r w α β) {s : Int32} (s0 : 0 ≤ s) (s6 : s < 6) (d : Nat) : ∀ n l : Nat, d < n → l + d = 30 → 1 ≤ l → ci_42_2 s n (Int32.ofNat l) α ∧ (ci_145_80 s 64 (β 67 0 s.toNatClampNeg) 1 β → ci_145_36 s n (Int32.ofNat l) β) ∧ (cv_42_2 s n (Int32.ofNat l) α = 0 ∧ cv_145_36 s n (Int32.ofNat l) β = cv_145_80 s 64 (β 67 0 s.toNatClampNeg) 1 β ∨ ∃ a, l ≤ a ∧ a < 30 ∧ cv_42_2 s n (Int32.ofNat l) α = Int32.ofNat a ∧ α 10 0 a = s ∧ AD (Int32.ofNat a) ∧ cv_145_36 s n (Int32.ofNat l) β = if cv_144 (Int32.ofNat a) s β = 0 then cv_145_80 s 64 (β 67 0 s.toNatClampNeg) 1 β else Int32.ofNat a) := by
  have h6 : tm_ix s 6 = true := ix6.mpr ⟨s0, s6⟩
  have hL := h.2.2.2.2.1
  have hu := hL.2.2.2.2.2.2.2
  induction d with
  | zero =>
    intro n l hn hl _
    obtain ⟨n, rfl⟩ : ∃ m, n = m + 1 := ⟨n - 1, by omega⟩
    have hl : l = 30 := by omega
    subst hl
    have c : (30 : Int32) ≤ Int32.ofNat 30 := by decide
    simp only [cv_145_36, ci_145_36, cv_42_2, ci_42_2, if_pos c]
    exact ⟨⟨fun z => absurd c z, fun z => absurd c z⟩, fun z => ⟨fun _ => h6, fun _ => z, fun z => absurd c z, fun z => absurd c z, fun z => absurd c z⟩, Or.inl ⟨trivial, trivial⟩⟩
  | succ d ih =>
    intro n l hn hl h1
    obtain ⟨n, rfl⟩ : ∃ m, n = m + 1 := ⟨n - 1, by omega⟩
    obtain ⟨c0, c30, c⟩ := lt30 (by omega : l < 30)
    obtain ⟨F1, F2, F3⟩ := free_eq h c0 c30 s0
    obtain ⟨i1, i2, i3⟩ := ih n (l + 1) (by omega) (by omega) (by omega)
    obtain ⟨l1, l2, l3, l4⟩ := hL.2.2.2.2.2.2.1 l (by omega)
    have el : (Int32.ofNat l).toNatClampNeg = l := tn_of (by omega)
    simp only [cv_145_36, ci_145_36, cv_42_2, ci_42_2, if_neg c, el]
    rw [tI_of1]
    by_cases hr : α 10 0 l = s
    · have hr' : β 39 0 l = s + 1 := by rw [l1, hr]
      have had := l4 (by rw [hr]; intro hz; rw [hz] at s0; exact absurd s0 (by decide))
      have hsk := sk_36 (β := β) h6 d n (l + 1) (by omega) (by omega) (by
        intro a ha1 ha2 hz
        have e := (hL.2.2.2.2.2.2.1 a ha2).1
        have : α 10 0 a = s := by rw [e] at hz; grind
        have := hu a l ha2 (by omega) (by rw [this, hr]) (by rw [this]; intro hz; rw [hz] at s0; exact absurd s0 (by decide))
        omega)
      rw [if_pos hr]
      refine ⟨⟨fun _ => ix_n (by decide) (by omega), fun _ z => absurd hr z⟩, fun z => ⟨fun z => absurd z c, fun z => absurd z c, fun _ => ix_n (by decide) (by omega), fun _ _ => F3, fun _ _ => hsk.2 z⟩, Or.inr ⟨l, by omega, by omega, rfl, hr, had, ?_⟩⟩
      by_cases hf : cv_144 (Int32.ofNat l) s β = 0
      · rw [if_pos (Or.inr hf), if_pos hf]; exact hsk.1
      · rw [if_neg (by rintro (z | z); exact z hr'; exact hf z), if_neg hf]
    · have hr' : ¬ β 39 0 l = s + 1 := by rw [l1]; intro hz; apply hr; grind
      rw [if_neg hr, if_pos (Or.inl hr')]
      refine ⟨⟨fun _ => ix_n (by decide) (by omega), fun _ _ => i1⟩, fun z => ⟨fun z => absurd z c, fun z => absurd z c, fun _ => ix_n (by decide) (by omega), fun _ z => absurd z hr', fun _ _ => i2 z⟩, ?_⟩
      rcases i3 with i3 | ⟨a, a1, a2, a3⟩
      · exact Or.inl i3
      · exact Or.inr ⟨a, by omega, a2, a3⟩
theorem n10 {a l : Nat} (ha : a < 3) (hl : l < 10) : 10 * Int32.ofNat a + Int32.ofNat l = Int32.ofNat (10 * a + l) := by
  have a4 : Int32.ofNat a < 3 := by
    show Int32.ofNat a < Int32.ofNat 3
    rw [of_lt (by omega) (by decide)]; omega
  have l4 : Int32.ofNat l < 10 := by
    show Int32.ofNat l < Int32.ofNat 10
    rw [of_lt (by omega) (by decide)]; omega
  obtain ⟨m1, m2, m3⟩ := tn_m10 (of0 (by omega : a < 2147483648)) a4 (of0 (by omega : l < 2147483648)) l4
  rw [tn_of (by omega : a < 2147483648), tn_of (by omega : l < 2147483648)] at m1
  rw [← m1, of_tn m2]
theorem AD_n {a l : Nat} (ha : a < 3) (h1 : 1 ≤ l) (hl : l < 10) : AD (Int32.ofNat (10 * a + l)) := by
  have : ∀ a : Fin 3, ∀ l : Fin 10, 1 ≤ l.val → AD (Int32.ofNat (10 * a.val + l.val)) := by
    unfold AD
    decide
  exact this ⟨a, ha⟩ ⟨l, hl⟩ h1
theorem lp_80 (h : Rel q t r w α β) {s : Int32} (s0 : 0 ≤ s) {net lo hi : Nat} (hn : net < 3) (hlo : β 37 0 net = Int32.ofNat lo) (hhi : β 38 0 net = Int32.ofNat hi) (l1 : 1 ≤ lo) (lo9 : lo ≤ 9) (l9 : hi ≤ 9) (d : Nat) : ∀ n m x : Nat, d < n → x + d = 10 → 1 ≤ x → 10 < m + max x lo → cv_145_80 s n (Int32.ofNat net) (Int32.ofNat x) β = cv_88_31 s m (Int32.ofNat (10 * net + hi)) (Int32.ofNat (10 * net + max x lo)) α ∧ ci_145_80 s n (Int32.ofNat net) (Int32.ofNat x) β ∧ ci_88_31 s m (Int32.ofNat (10 * net + hi)) (Int32.ofNat (10 * net + max x lo)) α ∧ (¬ cv_88_31 s m (Int32.ofNat (10 * net + hi)) (Int32.ofNat (10 * net + max x lo)) α = 0 → GA β s (cv_88_31 s m (Int32.ofNat (10 * net + hi)) (Int32.ofNat (10 * net + max x lo)) α)) := by
  induction d with
  | zero =>
    intro n m x hn' hx h1 hm
    obtain ⟨n, rfl⟩ : ∃ m, n = m + 1 := ⟨n - 1, by omega⟩
    obtain ⟨m, rfl⟩ : ∃ k, m = k + 1 := ⟨m - 1, by omega⟩
    have hx : x = 10 := by omega
    subst hx
    have c : (10 : Int32) ≤ Int32.ofNat 10 := by decide
    have c2 : Int32.ofNat (10 * net + hi) < Int32.ofNat (10 * net + max 10 lo) := by rw [of_lt (by omega) (by omega)]; omega
    simp only [cv_145_80, ci_145_80, cv_88_31, ci_88_31, if_pos c, if_pos c2]
    exact ⟨trivial, ⟨fun z => absurd c z, fun z => absurd c z, fun z => absurd c z⟩, ⟨fun z => absurd c2 z, fun z => absurd c2 z⟩, fun z => absurd trivial z⟩
  | succ d ih =>
    intro n m x hn' hx h1 hm
    obtain ⟨n, rfl⟩ : ∃ m, n = m + 1 := ⟨n - 1, by omega⟩
    have c : ¬ (10 : Int32) ≤ Int32.ofNat x := by
      show ¬ Int32.ofNat 10 ≤ Int32.ofNat x
      rw [of_le (by decide) (by omega)]; omega
    have en : (Int32.ofNat net).toNatClampNeg = net := tn_of (by omega)
    have cl : ¬ Int32.ofNat lo ≤ 0 := by
      show ¬ Int32.ofNat lo ≤ Int32.ofNat 0
      rw [of_le (by omega) (by decide)]; omega
    simp only [cv_145_80, ci_145_80, if_neg c, en, hlo, hhi, cl, false_or, n10 hn (by omega : x < 10)]
    rw [tI_of1]
    by_cases b1 : x < lo
    · have b1' : Int32.ofNat x < Int32.ofNat lo := by rw [of_lt (by omega) (by omega)]; exact b1
      obtain ⟨i1, i2, i3, i4⟩ := ih n m (x + 1) (by omega) (by omega) (by omega) (by omega)
      have em : max x lo = max (x + 1) lo := by omega
      rw [if_pos (Or.inl b1'), em]
      exact ⟨i1, ⟨fun _ => ix_n (by decide) hn, fun _ _ z => absurd b1' z, fun _ _ => i2⟩, i3, i4⟩
    · have b1' : ¬ Int32.ofNat x < Int32.ofNat lo := by rw [of_lt (by omega) (by omega)]; exact b1
      have em : max x lo = x := by omega
      rw [em]
      by_cases b2 : hi < x
      · have b2' : Int32.ofNat hi < Int32.ofNat x := by rw [of_lt (by omega) (by omega)]; exact b2
        obtain ⟨i1, i2, i3, i4⟩ := ih n m (x + 1) (by omega) (by omega) (by omega) (by omega)
        have em' : max (x + 1) lo = x + 1 := by omega
        rw [em'] at i1 i3
        obtain ⟨m, rfl⟩ : ∃ k, m = k + 1 := ⟨m - 1, by omega⟩
        have c2 : Int32.ofNat (10 * net + hi) < Int32.ofNat (10 * net + x) := by rw [of_lt (by omega) (by omega)]; omega
        have c3 : Int32.ofNat (10 * net + hi) < Int32.ofNat (10 * net + (x + 1)) := by rw [of_lt (by omega) (by omega)]; omega
        have i1' : cv_145_80 s n (Int32.ofNat net) (Int32.ofNat (x + 1)) β = 0 := by
          rw [i1]; simp only [cv_88_31, if_pos c3]
        rw [if_pos (Or.inr (Or.inl b2')), i1']
        simp only [cv_88_31, ci_88_31, if_pos c2]
        exact ⟨trivial, ⟨fun _ => ix_n (by decide) hn, fun _ _ _ z => absurd b2' z, fun _ _ => i2⟩, ⟨fun z => absurd c2 z, fun z => absurd c2 z⟩, fun z => absurd trivial z⟩
      · have b2' : ¬ Int32.ofNat hi < Int32.ofNat x := by rw [of_lt (by omega) (by omega)]; exact b2
        obtain ⟨m, rfl⟩ : ∃ k, m = k + 1 := ⟨m - 1, by omega⟩
        obtain ⟨i1, i2, i3, i4⟩ := ih n m (x + 1) (by omega) (by omega) (by omega) (by omega)
        have em' : max (x + 1) lo = x + 1 := by omega
        rw [em'] at i1 i3 i4
        have c2 : ¬ Int32.ofNat (10 * net + hi) < Int32.ofNat (10 * net + x) := by rw [of_lt (by omega) (by omega)]; omega
        obtain ⟨y0, y30, _⟩ := lt30 (by omega : 10 * net + x < 30)
        obtain ⟨F1, F2, F3⟩ := free_eq h y0 y30 s0
        have y1 := ne0 (by omega : 1 ≤ 10 * net + x) (by omega)
        simp only [cv_88_31, ci_88_31, if_neg c2, F1]
        rw [tI_of1]
        have ea : 10 * net + x + 1 = 10 * net + (x + 1) := by omega
        rw [ea]
        by_cases b3 : cv_144 (Int32.ofNat (10 * net + x)) s β = 0
        · rw [if_pos (Or.inr (Or.inr b3)), if_pos b3]
          exact ⟨i1, ⟨fun _ => ix_n (by decide) hn, fun _ _ _ _ => F3, fun _ _ => i2⟩, ⟨fun _ => F2, fun _ _ => i3⟩, i4⟩
        · rw [if_neg (by rintro (z | z | z); exact b1' z; exact b2' z; exact b3 z), if_neg b3]
          refine ⟨rfl, ⟨fun _ => ix_n (by decide) hn, fun _ _ _ _ => F3, fun _ z => ?_⟩, ⟨fun _ => F2, fun _ z => absurd z b3⟩, fun _ => ⟨AD_n hn h1 (by omega), b3⟩⟩
          rcases z with z | z | z
          · exact absurd z b1'
          · exact absurd z b2'
          · exact absurd z b3
theorem sk_80 {s : Int32} {net : Nat} (hn : net < 3) (hz : β 37 0 net = 0) (d : Nat) : ∀ n x : Nat, d < n → x + d = 10 → cv_145_80 s n (Int32.ofNat net) (Int32.ofNat x) β = 0 ∧ ci_145_80 s n (Int32.ofNat net) (Int32.ofNat x) β := by
  induction d with
  | zero =>
    intro n x hn' hx
    obtain ⟨n, rfl⟩ : ∃ m, n = m + 1 := ⟨n - 1, by omega⟩
    have hx : x = 10 := by omega
    subst hx
    have c : (10 : Int32) ≤ Int32.ofNat 10 := by decide
    simp only [cv_145_80, ci_145_80, if_pos c]
    exact ⟨trivial, fun z => absurd c z, fun z => absurd c z, fun z => absurd c z⟩
  | succ d ih =>
    intro n x hn' hx
    obtain ⟨n, rfl⟩ : ∃ m, n = m + 1 := ⟨n - 1, by omega⟩
    have c : ¬ (10 : Int32) ≤ Int32.ofNat x := by
      show ¬ Int32.ofNat 10 ≤ Int32.ofNat x
      rw [of_le (by decide) (by omega)]; omega
    have en : (Int32.ofNat net).toNatClampNeg = net := tn_of (by omega)
    have cl : (0 : Int32) ≤ 0 := by decide
    obtain ⟨i1, i2⟩ := ih n (x + 1) (by omega) (by omega)
    simp only [cv_145_80, ci_145_80, if_neg c, en, hz, cl, true_or, if_true]
    rw [tI_of1]
    exact ⟨i1, fun _ => ix_n (by decide) hn, fun _ z => absurd trivial z, fun _ _ => i2⟩
/-- the class's choice -/
def CC (s : Int32) (α : tm_M) : Int32 := if cv_86 s α = 0 then (if cv_87 s α = 0 then cv_88 s α else cv_87 s α) else cv_86 s α
theorem pool_eq (h : Rel q t r w α β) {s : Int32} (s0 : 0 ≤ s) (s6 : s < 6) : cv_145_80 s 64 (β 67 0 s.toNatClampNeg) 1 β = cv_88 s α ∧ ci_145_80 s 64 (β 67 0 s.toNatClampNeg) 1 β ∧ ci_88 s α ∧ (¬ cv_88 s α = 0 → GA β s (cv_88 s α)) := by
  have hL := h.2.2.2.2.1
  have ix : tm_ix s 6 = true := ix6.mpr ⟨s0, s6⟩
  obtain ⟨e9, n0, n3, -⟩ := hL.2.2.2.2.1 _ (tn6 s0 s6)
  obtain ⟨net, hnet, hnb⟩ : ∃ net, β 67 0 s.toNatClampNeg = Int32.ofNat net ∧ net < 3 := ⟨_, (of_tn n0).symm, tn3 n0 n3⟩
  have en : (Int32.ofNat net).toNatClampNeg = net := tn_of (by omega)
  have ix3 : tm_ix (Int32.ofNat net) 3 = true := ix_n (by decide) hnb
  obtain ⟨p1, p2, p3⟩ := hL.2.2.2.1 net hnb
  unfold cv_88 ci_88 cv_47 cv_48 cv_49 ci_47 ci_48 ci_49
  rw [e9, hnet, en, p1, p2]
  rcases p3 with p3 | ⟨p3, p4, p5⟩
  · obtain ⟨i1, i2⟩ := sk_80 (s := s) hnb p3 9 64 1 (by decide) (by decide)
    have hone : Int32.ofNat 1 = (1 : Int32) := rfl
    rw [hone] at i1 i2
    rw [i1, p3]
    simp only [if_true]
    exact ⟨trivial, i2, ⟨⟨ix, ix3⟩, fun z => absurd trivial z, fun z => absurd trivial z, fun z => absurd trivial z⟩, fun z => absurd trivial z⟩
  · have q0 : (0 : Int32) ≤ β 37 0 net := by grind
    have q1 : (0 : Int32) ≤ β 38 0 net := by grind
    obtain ⟨lo, hlo, hlb⟩ : ∃ lo, β 37 0 net = Int32.ofNat lo ∧ lo < 10 := ⟨_, (of_tn q0).symm, (tn_lt (n := 10) (by decide) q0).mpr (by show β 37 0 net < 10; grind)⟩
    obtain ⟨hi, hhi, hhb⟩ : ∃ hi, β 38 0 net = Int32.ofNat hi ∧ hi < 10 := ⟨_, (of_tn q1).symm, (tn_lt (n := 10) (by decide) q1).mpr (by show β 38 0 net < 10; grind)⟩
    have l1 : 1 ≤ lo := by
      rw [hlo] at p3
      have : Int32.ofNat 1 ≤ Int32.ofNat lo := p3
      rw [of_le (by decide) (by omega)] at this
      exact this
    obtain ⟨i1, i2, i3, i4⟩ := lp_80 h s0 hnb hlo hhi l1 (by omega) (by omega) 9 64 64 1 (by decide) (by decide) (by decide) (by omega)
    have hone : Int32.ofNat 1 = (1 : Int32) := rfl
    have em : max 1 lo = lo := by omega
    rw [hone, em] at i1
    rw [hone] at i2
    rw [em] at i3 i4
    have z0 : ¬ Int32.ofNat lo = 0 := by
      show ¬ Int32.ofNat lo = Int32.ofNat 0
      rw [of_eq (by omega) (by decide)]; omega
    rw [hlo, hhi, n10 hnb hlb, n10 hnb hhb, i1]
    simp only [if_neg z0]
    have o1 : ¬ (1 : Int32) = 0 := by decide
    simp only [o1, if_false, not_false_eq_true]
    exact ⟨trivial, i2, ⟨⟨ix, ix3⟩, fun _ => ⟨ix, ix3⟩, fun _ => ⟨ix, ix3⟩, fun _ => i3⟩, i4⟩
theorem choice_eq (h : Rel q t r w α β) {s : Int32} (s0 : 0 ≤ s) (s6 : s < 6) : cv_145 s β = CC s α ∧ ci_145 s β ∧ ci_86 s α ∧ ci_87 s α ∧ ci_88 s α ∧ (¬ CC s α = 0 → GA β s (CC s α)) := by
  obtain ⟨a1, a2, a3, a4⟩ := lp_86 h s0 29 64 1 (by decide) (by decide) (by decide)
  obtain ⟨b1, b2, b3⟩ := lp_42 h s0 s6 29 64 1 (by decide) (by decide) (by decide)
  obtain ⟨d1, d2, d3, d4⟩ := pool_eq h s0 s6
  have hone : Int32.ofNat 1 = (1 : Int32) := rfl
  rw [hone] at a1 a2 a3 a4 b1 b2 b3
  have e42 : cv_42 s α = cv_42_2 s 64 1 α := rfl
  have e86 : cv_86 s α = cv_86_2 s 64 1 α := rfl
  have e145 : cv_145 s β = cv_145_2 s 64 1 β := rfl
  have c36 := b2 d2
  unfold CC
  rw [e145, a1, e86]
  rcases b3 with ⟨x1, x2⟩ | ⟨a, y1, y2, y3, y4, y5, y6⟩
  · have e87 : cv_87 s α = 0 := by
      unfold cv_87
      rw [e42, x1]; simp
    have c87 : ci_87 s α := ⟨b1, fun z => absurd (e42.trans x1) z⟩
    rw [x2, e87, d1]
    refine ⟨by simp, a3 c36, a2, c87, d3, ?_⟩
    by_cases hz : cv_86_2 s 64 1 α = 0
    · simp only [if_pos hz, if_true]; exact d4
    · simp only [if_neg hz]; exact a4
  · obtain ⟨c0, c30, c⟩ := lt30 y2
    obtain ⟨F1, F2, F3⟩ := free_eq h c0 c30 s0
    have hl0 := ne0 y1 y2
    have c87 : ci_87 s α := ⟨b1, fun _ => by rw [e42, y3]; exact F2⟩
    rw [y6]
    by_cases hf : cv_144 (Int32.ofNat a) s β = 0
    · have e87 : cv_87 s α = 0 := by
        unfold cv_87
        rw [e42, y3, F1, hf]; simp
      rw [if_pos hf, e87, d1]
      refine ⟨by simp, a3 c36, a2, c87, d3, ?_⟩
      by_cases hz : cv_86_2 s 64 1 α = 0
      · simp only [if_pos hz, if_true]; exact d4
      · simp only [if_neg hz]; exact a4
    · have e87 : cv_87 s α = Int32.ofNat a := by
        unfold cv_87
        rw [e42, y3, F1]; simp [hl0, hf]
      rw [if_neg hf, e87, if_neg hl0]
      refine ⟨rfl, a3 c36, a2, c87, d3, ?_⟩
      by_cases hz : cv_86_2 s 64 1 α = 0
      · simp only [if_pos hz]; exact fun _ => ⟨y5, hf⟩
      · simp only [if_neg hz]; exact a4
end CH
