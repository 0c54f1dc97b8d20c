/-! Discover, request, decline. -/
section SV
variable {q : Int32 × Nat} {t r w : Nat} {α β α' β' : tm_M}
def K28 (s : Int32) (l : Nat) (α : tm_M) : tm_M := fun k j p => if k = 26 ∧ j = 0 ∧ l ≤ p ∧ p < 30 ∧ α 25 0 p = s then 0 else α k j p
def K147 (s : Int32) (l : Nat) (β : tm_M) : tm_M := fun k j p => if k = 57 ∧ j = 0 ∧ l ≤ p ∧ p < 30 ∧ β 56 0 p = s then 0 else β k j p
theorem K28_30 (s : Int32) (α : tm_M) : K28 s 30 α = α := by
  funext k j p
  unfold K28
  rw [if_neg (fun z => absurd z.2.2.1 (by omega))]
theorem K147_30 (s : Int32) (α : tm_M) : K147 s 30 α = α := by
  funext k j p
  unfold K147
  rw [if_neg (fun z => absurd z.2.2.1 (by omega))]
theorem lp_28 (a s u : Int32) (ix : tm_ix a 30 = true) (d : Nat) : ∀ (n l : Nat) (α : tm_M), d < n → l + d = 30 → cs_28_3 a s u n (Int32.ofNat l) α = tm_wr (tm_wr (K28 s l α) 25 0 a.toNatClampNeg s) 26 0 a.toNatClampNeg u ∧ ci_28_3 a s u n (Int32.ofNat l) α := by
  induction d with
  | zero =>
    intro n l α hn hl
    obtain ⟨n, rfl⟩ : ∃ m, n = m + 1 := ⟨n - 1, by omega⟩
    have hl : l = 30 := by omega
    subst hl
    have c : (30 : Int32) ≤ Int32.ofNat 30 := by decide
    simp only [cs_28_3, ci_28_3, if_pos c, K28_30]
    exact ⟨(by trivial), fun _ => ix, fun z => absurd c z, fun z => absurd c z, fun z => absurd c z⟩
  | succ d ih =>
    intro n l α hn hl
    obtain ⟨n, rfl⟩ : ∃ m, n = m + 1 := ⟨n - 1, by omega⟩
    obtain ⟨c0, c30, c⟩ := lt30 (by omega : l < 30)
    have el : (Int32.ofNat l).toNatClampNeg = l := tn_of (by omega)
    simp only [cs_28_3, ci_28_3, if_neg c, el]
    rw [tI_of1]
    by_cases hq : α 25 0 l = s
    · obtain ⟨i1, i2⟩ := ih n (l + 1) (tm_wr α 26 0 l 0) (by omega) (by omega)
      have e : K28 s (l + 1) (tm_wr α 26 0 l 0) = K28 s l α := by
        funext k j p
        unfold K28
        simp only [tm_ap]
        grind
      rw [if_pos hq, i1, e]
      exact ⟨(by trivial), fun z => absurd z c, fun _ => ix_n (by decide) (by omega), fun _ _ => i2, fun _ z => absurd hq z⟩
    · obtain ⟨i1, i2⟩ := ih n (l + 1) α (by omega) (by omega)
      have e : K28 s (l + 1) α = K28 s l α := by
        funext k j p
        unfold K28
        grind
      rw [if_neg hq, i1, e]
      exact ⟨(by trivial), fun z => absurd z c, fun _ => ix_n (by decide) (by omega), fun _ z => absurd z hq, fun _ _ => i2⟩
theorem lp_147 (s m a : Int32) (ix : tm_ix a 30 = true) (d : Nat) : ∀ (n l : Nat) (β : tm_M), d < n → l + d = 30 → cs_147_14 s m n a (Int32.ofNat l) β = cs_135 1 s m a 0 (tm_wr (tm_wr (K147 s l β) 56 0 a.toNatClampNeg s) 57 0 a.toNatClampNeg (β 36 0 3 + 6)) ∧ (ci_135 1 s m a 0 (tm_wr (tm_wr (K147 s l β) 56 0 a.toNatClampNeg s) 57 0 a.toNatClampNeg (β 36 0 3 + 6)) → ci_147_14 s m n a (Int32.ofNat l) β) := by
  induction d with
  | zero =>
    intro n l β hn hl
    obtain ⟨n, rfl⟩ : ∃ m, n = m + 1 := ⟨n - 1, by omega⟩
    have hl : l = 30 := by omega
    subst hl
    have c : (30 : Int32) ≤ Int32.ofNat 30 := by decide
    simp only [cs_147_14, ci_147_14, if_pos c, K147_30]
    exact ⟨(by trivial), fun z => ⟨fun _ => ix, fun _ => z, fun z => absurd c z, fun z => absurd c z⟩⟩
  | succ d ih =>
    intro n l β hn hl
    obtain ⟨n, rfl⟩ : ∃ m, n = m + 1 := ⟨n - 1, by omega⟩
    obtain ⟨c0, c30, c⟩ := lt30 (by omega : l < 30)
    have el : (Int32.ofNat l).toNatClampNeg = l := tn_of (by omega)
    simp only [cs_147_14, ci_147_14, if_neg c, el]
    rw [tI_of1]
    obtain ⟨i1, i2⟩ := ih n (l + 1) (tm_wr β 57 0 l (if β 56 0 l = s then 0 else β 57 0 l)) (by omega) (by omega)
    have e : K147 s (l + 1) (tm_wr β 57 0 l (if β 56 0 l = s then 0 else β 57 0 l)) = K147 s l β := by
      funext k j p
      unfold K147
      simp only [tm_ap]
      grind
    have e3 : tm_wr β 57 0 l (if β 56 0 l = s then 0 else β 57 0 l) 36 0 3 = β 36 0 3 := by simp [tm_ap]
    rw [e, e3] at i1 i2
    exact ⟨i1, fun z => ⟨fun z => absurd z c, fun z => absurd z c, fun _ => ix_n (by decide) (by omega), fun _ => i2 z⟩⟩
theorem AD_ix {a : Int32} (h : AD a) : 0 ≤ a ∧ a < 30 ∧ tm_ix a 30 = true := by
  obtain ⟨h1, h2, -⟩ := h
  have h0 : 0 ≤ a := by grind
  exact ⟨h0, h2, ix30.mpr ⟨h0, h2⟩⟩
theorem offer_ok (h : Rel q t r w α β) (s n a : Int32) (h0 : 0 ≤ s) (h6 : s < 6) (hga : GA β s a) : ci_28 a s (β 36 0 3 + 6) α ∧ ci_96 1 s n a 0 (cs_28 a s (β 36 0 3 + 6) α) ∧ ci_147_14 s n 64 a 0 β ∧ Rel q t (nx r) w (cs_96 1 s n a 0 (cs_28 a s (β 36 0 3 + 6) α)) (cs_147_14 s n 64 a 0 β) := by
  obtain ⟨had, hfree⟩ := hga
  obtain ⟨a0, a30, ix⟩ := AD_ix had
  have ha := tn30 a0 a30
  have L1 := lp_28 a s (β 36 0 3 + 6) ix 30 64 0 α (by decide) (by decide)
  have L2 := lp_147 s n a ix 30 64 0 β (by decide) (by decide)
  have z : Int32.ofNat 0 = (0 : Int32) := rfl
  rw [z] at L1 L2
  have e28 : cs_28 a s (β 36 0 3 + 6) α = tm_wr (tm_wr (K28 s 0 α) 25 0 a.toNatClampNeg s) 26 0 a.toNatClampNeg (β 36 0 3 + 6) := L1.1
  have hB := h.2.2.2.2.2.2.1
  have now0 : 0 ≤ β 36 0 3 := h.2.1.2.2.2.2.2.2.2.2.2.2.2
  have hR : Rel q t r w (tm_wr (tm_wr (K28 s 0 α) 25 0 a.toNatClampNeg s) 26 0 a.toNatClampNeg (β 36 0 3 + 6)) (tm_wr (tm_wr (K147 s 0 β) 56 0 a.toNatClampNeg s) 57 0 a.toNatClampNeg (β 36 0 3 + 6)) := by
    refine Rel_sv h ?_ ?_ ?_ ?_ ?_ ?_
    · intro k hk
      simp only [List.mem_cons, List.not_mem_nil, or_false, not_or] at hk
      funext j p
      simp [tm_ap, K28, hk]
    · intro k hk
      simp only [List.mem_cons, List.not_mem_nil, or_false, not_or] at hk
      funext j p
      simp [tm_ap, K147, hk]
    · intro p hp
      simp [tm_ap, K147]
    · intro p hp
      obtain ⟨b1, b2, b3, b4, b5, b6, b7, b8, b9⟩ := hB p hp
      simp only [tm_ap, K28, K147]
      by_cases hpa : p = a.toNatClampNeg
      · subst hpa
        simp
        unfold cv_144 at hfree
        generalize β 54 0 a.toNatClampNeg = x54 at *
        generalize β 55 0 a.toNatClampNeg = x55 at *
        generalize β 56 0 a.toNatClampNeg = x56 at *
        generalize β 57 0 a.toNatClampNeg = x57 at *
        generalize β 58 0 a.toNatClampNeg = x58 at *
        generalize β 39 0 a.toNatClampNeg = x39 at *
        generalize β 36 0 3 = now at *
        grind
      · simp [hpa]
        rw [b3]
        by_cases hz : β 56 0 p = s
        · simp [hz, hp]
          grind
        · simp [hz]
          grind
    · refine RJ_fr h.2.2.2.2.2.2.2.1 ?_ ?_ ?_ ?_ ?_ ?_ ?_ ?_
      all_goals first
        | (funext j p; simp [tm_ap, K28, K147]; done)
        | simp [tm_ap, K147]
    · intro j hj
      refine RT_fr (h.2.2.2.2.2.2.2.2.1 j hj) ?_ ?_ ?_ ?_ ?_ ?_ ?_ ?_ ?_
      all_goals first
        | (funext x y; simp [tm_ap, K28, K147]; done)
        | (funext x; simp [tm_ap, K28, K147]; done)
        | simp [tm_ap, K28, K147]
  obtain ⟨y1, y2, y3⟩ := srv_send hR 1 s n a 0 h0 h6 (Or.inl rfl) (fun _ _ => had) (fun z => absurd z (by decide))
  refine ⟨L1.2, ?_, L2.2 y2, ?_⟩
  · rw [e28]; exact y1
  · rw [e28, L2.1]; exact y3
theorem disc_ok (h : Rel q t r w α β) (m : Nat) (s n : Int32) (h0 : 0 ≤ s) (h6 : s < 6) (e1 : α 4 m 1 = s) (e2 : α 4 m 2 = n) : ci_85 m α ∧ ci_147 s n β ∧ ∃ r', Rel q t r' w (cs_85 m α) (cs_147 s n β) := by
  obtain ⟨c1, c2, c3, c4, c5, c6⟩ := choice_eq h h0 h6
  have g3 : α 1 0 3 = β 36 0 3 := h.2.1.2.2.2.1
  have f4 : ∀ a, cs_28 a s (β 36 0 3 + 6) α 4 = α 4 := fun a => fr_28 _ _ _ _ 4 (by decide)
  unfold ci_85 cs_85 ci_147 cs_147
  rw [e1, g3]
  simp only [f4, e1, e2]
  rw [c1]
  unfold CC at c1 c6 ⊢
  by_cases z86 : cv_86 s α = 0
  · simp only [if_pos z86] at c1 c6 ⊢
    by_cases z87 : cv_87 s α = 0
    · simp only [if_pos z87] at c1 c6 ⊢
      by_cases z88 : cv_88 s α = 0
      · simp only [if_pos z88]
        exact ⟨⟨c3, fun _ => c4, fun _ _ => c5, fun _ _ z => absurd z88 z, fun _ _ z => absurd z88 z, fun _ z => absurd z87 z, fun _ z => absurd z87 z, fun z => absurd z86 z, fun z => absurd z86 z⟩, ⟨c2, fun z => absurd z88 z⟩, r, h⟩
      · simp only [if_neg z88]
        obtain ⟨o1, o2, o3, o4⟩ := offer_ok h s n _ h0 h6 (c6 z88)
        exact ⟨⟨c3, fun _ => c4, fun _ _ => c5, fun _ _ _ => o1, fun _ _ _ => o2, fun _ z => absurd z87 z, fun _ z => absurd z87 z, fun z => absurd z86 z, fun z => absurd z86 z⟩, ⟨c2, fun _ => o3⟩, _, o4⟩
    · simp only [if_neg z87] at c1 c6 ⊢
      obtain ⟨o1, o2, o3, o4⟩ := offer_ok h s n _ h0 h6 (c6 z87)
      exact ⟨⟨c3, fun _ => c4, fun _ z => absurd z z87, fun _ z => absurd z z87, fun _ z => absurd z z87, fun _ _ => o1, fun _ _ => o2, fun z => absurd z86 z, fun z => absurd z86 z⟩, ⟨c2, fun _ => o3⟩, _, o4⟩
  · simp only [if_neg z86] at c1 c6 ⊢
    obtain ⟨o1, o2, o3, o4⟩ := offer_ok h s n _ h0 h6 (c6 z86)
    exact ⟨⟨c3, fun z => absurd z z86, fun z => absurd z z86, fun z => absurd z z86, fun z => absurd z z86, fun z => absurd z z86, fun z => absurd z z86, fun _ => o1, fun _ => o2⟩, ⟨c2, fun _ => o3⟩, _, o4⟩
theorem dec_ok (h : Rel q t r w α β) (m : Nat) (s it : Int32) (h0 : 0 ≤ s) (h6 : s < 6) (e1 : α 4 m 1 = s) (e3 : α 4 m 3 = it) (had : AD it) : ci_92 m α ∧ ci_142 it s β ∧ tm_ix it 30 = true ∧ Rel q t r w (cs_92 m α) (tm_wr β 58 0 it.toNatClampNeg (if cv_142 it s β = 0 then β 58 0 it.toNatClampNeg else β 36 0 3 + β 36 0 0)) := by
  obtain ⟨a0, a30, ix⟩ := AD_ix had
  have ha := tn30 a0 a30
  obtain ⟨E1, E2, E3, E4⟩ := leased_eq h a0 a30 h0
  have g3 : α 1 0 3 = β 36 0 3 := h.2.1.2.2.2.1
  have g0 : α 1 0 0 = β 36 0 0 := h.2.1.1
  have hB := h.2.2.2.2.2.2.1
  have h36 : cv_36 it α = 1 := by
    obtain ⟨x1, x2, x3⟩ := had
    unfold cv_36
    rw [if_neg (by grind), if_neg (by grind), if_neg x3]
  unfold ci_92 cs_92 cs_30
  rw [e1, e3, h36, g3, g0]
  refine ⟨⟨fun _ => E2, fun _ => ix⟩, E3, ix, ?_⟩
  by_cases hl : cv_142 it s β = 0
  · have hl' : ¬ cv_23 it α = s := fun z => (E1.mp z) hl
    rw [if_pos (Or.inr hl'), if_pos hl, tm_id]
    exact h
  · have hl' : cv_23 it α = s := E1.mpr hl
    rw [if_neg (by rintro (z | z); exact absurd z (by decide); exact z hl'), if_neg hl]
    refine Rel_sv h ?_ ?_ ?_ ?_ ?_ ?_
    · intro k hk
      simp only [List.mem_cons, List.not_mem_nil, or_false, not_or] at hk
      exact tm_wr_ne (by omega)
    · intro k hk
      simp only [List.mem_cons, List.not_mem_nil, or_false, not_or] at hk
      exact tm_wr_ne (by omega)
    · intro p hp
      simp [tm_ap]
    · intro p hp
      obtain ⟨b1, b2, b3, b4, b5, b6, b7, b8, b9⟩ := hB p hp
      simp only [tm_ap]
      by_cases hpa : p = it.toNatClampNeg
      · simp [hpa] at *
        grind
      · simp [hpa]
        grind
    · exact RJ_fr h.2.2.2.2.2.2.2.1 (tm_wr_ne (by decide)) (tm_wr_ne (by decide)) (tm_wr_ne (by decide)) (tm_wr_ne (by decide)) (by simp [tm_ap]) (tm_wr_ne (by decide)) (tm_wr_ne (by decide)) (tm_wr_ne (by decide))
    · intro j hj
      exact RT_fr (h.2.2.2.2.2.2.2.2.1 j hj) (by rw [tm_wr_ne (by decide)]) (by simp [tm_ap]) (by simp [tm_ap]) (tm_wr_ne (by decide)) (by simp [tm_ap]) (by simp [tm_ap]) (by simp [tm_ap]) (by simp [tm_ap]) (by simp [tm_ap])
theorem lat_eq {c : Nat} (hc : c ≤ 16) (e1 : α 28 0 3 = Int32.ofNat c) (e2 : β 36 0 29 = Int32.ofNat c) (ea : ∀ j, j < 16 → α 29 0 j = β 59 0 j) {x : Nat} (hx : x < 16) (d : Nat) : ∀ n l : Nat, d < n → l + d = c → cv_80_4 (Int32.ofNat x) n (Int32.ofNat l) α = cv_149_4 (Int32.ofNat x) n (Int32.ofNat l) β ∧ ci_80_4 (Int32.ofNat x) n (Int32.ofNat l) α ∧ ci_149_4 (Int32.ofNat x) n (Int32.ofNat l) β := by
  induction d with
  | zero =>
    intro n l hn hl
    obtain ⟨n, rfl⟩ : ∃ m, n = m + 1 := ⟨n - 1, by omega⟩
    have k : Int32.ofNat c ≤ Int32.ofNat l := by rw [of_le (by omega) (by omega)]; omega
    simp only [cv_80_4, cv_149_4, ci_80_4, ci_149_4, e1, e2, if_pos k]
    exact ⟨(by trivial), ⟨fun z => absurd k z, fun z => absurd k z, fun z => absurd k z⟩, ⟨fun z => absurd k z, fun z => absurd k z, fun z => absurd k z⟩⟩
  | succ d ih =>
    intro n l hn hl
    obtain ⟨n, rfl⟩ : ∃ m, n = m + 1 := ⟨n - 1, by omega⟩
    have k : ¬ Int32.ofNat c ≤ Int32.ofNat l := by rw [of_le (by omega) (by omega)]; omega
    obtain ⟨i1, i2, i3⟩ := ih n (l + 1) (by omega) (by omega)
    simp only [cv_80_4, cv_149_4, ci_80_4, ci_149_4, e1, e2, if_neg k]
    rw [tn_of (by omega : l < 2147483648), tn_of (by omega : x < 2147483648), ea l (by omega), ea x hx, tI_of1, i1]
    exact ⟨rfl, ⟨fun _ => ix_n (by decide) (by omega), fun _ => ix_n (by decide) hx, fun _ _ => i2⟩, ⟨fun _ => ix_n (by decide) (by omega), fun _ => ix_n (by decide) hx, fun _ _ => i3⟩⟩
/-- the journals agree -/
def JJ (c : Nat) (α β : tm_M) : Prop := ∀ j, j < 16 → α 29 0 j = β 59 0 j ∧ α 30 0 j = β 60 0 j ∧ α 31 0 j = β 61 0 j ∧ 0 ≤ β 60 0 j ∧ (j < c → AD (β 59 0 j))
theorem drop_eq (now : Int32) {c : Nat} (hc : c ≤ 16) (d : Nat) : ∀ (n kp l : Nat) (α β : tm_M), d < n → l + d = c → kp ≤ l → α 28 0 3 = Int32.ofNat c → β 36 0 29 = Int32.ofNat c → β 36 0 3 = now → JJ c α β → ∃ kp', kp' ≤ c ∧ ci_79_4 now n (Int32.ofNat kp) (Int32.ofNat l) α ∧ ci_150_4 n (Int32.ofNat kp) (Int32.ofNat l) β ∧ cs_79_4 now n (Int32.ofNat kp) (Int32.ofNat l) α 28 0 3 = Int32.ofNat kp' ∧ cs_150_4 n (Int32.ofNat kp) (Int32.ofNat l) β 36 0 29 = Int32.ofNat kp' ∧ (∀ p, p ≠ 29 → cs_150_4 n (Int32.ofNat kp) (Int32.ofNat l) β 36 0 p = β 36 0 p) ∧ JJ c (cs_79_4 now n (Int32.ofNat kp) (Int32.ofNat l) α) (cs_150_4 n (Int32.ofNat kp) (Int32.ofNat l) β) := by
  induction d with
  | zero =>
    intro n kp l α β hn hl hk e1 e2 e3 hJ
    obtain ⟨n, rfl⟩ : ∃ m, n = m + 1 := ⟨n - 1, by omega⟩
    have k : Int32.ofNat c ≤ Int32.ofNat l := by rw [of_le (by omega) (by omega)]; omega
    refine ⟨kp, by omega, ?_⟩
    simp only [cs_79_4, cs_150_4, ci_79_4, ci_150_4, e1, e2, if_pos k]
    refine ⟨⟨fun z => absurd k z, fun z => absurd k z, fun z => absurd k z, fun z => absurd k z, fun z => absurd k z⟩, ⟨fun z => absurd k z, fun z => absurd k z, fun z => absurd k z, fun z => absurd k z, fun z => absurd k z, fun z => absurd k z⟩, by simp [tm_ap], by simp [tm_ap], fun p hp => by simp [tm_ap, hp], ?_⟩
    intro j hj
    simpa [tm_ap] using hJ j hj
  | succ d ih =>
    intro n kp l α β hn hl hk e1 e2 e3 hJ
    obtain ⟨n, rfl⟩ : ∃ m, n = m + 1 := ⟨n - 1, by omega⟩
    have k : ¬ Int32.ofNat c ≤ Int32.ofNat l := by rw [of_le (by omega) (by omega)]; omega
    have el : (Int32.ofNat l).toNatClampNeg = l := tn_of (by omega)
    have ek : (Int32.ofNat kp).toNatClampNeg = kp := tn_of (by omega)
    obtain ⟨j1, j2, j3, j4, j5⟩ := hJ l (by omega)
    obtain ⟨t1, t2, t3⟩ := lat_eq hc e1 e2 (fun j hj => (hJ j hj).1) (by omega : l < 16) d 64 (l + 1) (by omega) (by omega)
    have t1' : cv_80 (Int32.ofNat l) α = cv_149 (Int32.ofNat l) β := by unfold cv_80 cv_149; rw [tI_of1]; exact t1
    have t2' : ci_80 (Int32.ofNat l) α := by unfold ci_80; rw [tI_of1]; exact t2
    have t3' : ci_149 (Int32.ofNat l) β := by unfold ci_149; rw [tI_of1]; exact t3
    have ix1 : tm_ix (Int32.ofNat l) 16 = true := ix_n (by decide) (by omega)
    have ix2 : tm_ix (Int32.ofNat kp) 16 = true := ix_n (by decide) (by omega)
    by_cases hq : β 61 0 l ≤ now ∨ cv_149 (Int32.ofNat l) β = 0
    · have hq' : ((if cv_149 (Int32.ofNat l) β = 0 then 0 else ((if β 61 0 l ≤ now then 0 else 1) : Int32)) : Int32) = 0 := by grind
      obtain ⟨kp', g1, g2, g3, g4, g5, g6, g7⟩ := ih n kp (l + 1) α β (by omega) (by omega) (by omega) e1 e2 e3 hJ
      refine ⟨kp', g1, ?_⟩
      simp only [cs_79_4, cs_150_4, ci_79_4, ci_150_4, e1, e2, e3, if_neg k, el, ek, j3, t1', if_pos hq, if_pos hq']
      rw [tI_of1 l]
      exact ⟨⟨fun _ => ix1, fun _ _ => t2', fun _ _ => g2, fun _ z => absurd hq z, fun _ z => absurd hq z⟩, ⟨fun _ => t3', fun _ _ => ix1, fun _ _ => g3, fun _ z => absurd hq' z, fun _ z => absurd hq' z, fun _ z => absurd hq' z⟩, g4, g5, g6, g7⟩
    · have hq' : ¬ ((if cv_149 (Int32.ofNat l) β = 0 then 0 else ((if β 61 0 l ≤ now then 0 else 1) : Int32)) : Int32) = 0 := by grind
      obtain ⟨kp', g1, g2, g3, g4, g5, g6, g7⟩ := ih n (kp + 1) (l + 1) (tm_wr (tm_wr (tm_wr α 29 0 kp (α 29 0 l)) 30 0 kp (α 30 0 l)) 31 0 kp (α 31 0 l)) (tm_wr (tm_wr (tm_wr β 59 0 kp (β 59 0 l)) 60 0 kp (β 60 0 l)) 61 0 kp (β 61 0 l)) (by omega) (by omega) (by omega) (by simpa [tm_ap] using e1) (by simpa [tm_ap] using e2) (by simpa [tm_ap] using e3) (by
        intro j hj
        obtain ⟨m1, m2, m3, m4, m5⟩ := hJ j hj
        simp only [tm_ap]
        by_cases hjk : j = kp
        · subst hjk
          simp [j1, j2, j3, j4]
          exact fun _ => j5 (by omega)
        · simp [hjk, m1, m2, m3, m4]
          exact m5)
      refine ⟨kp', g1, ?_⟩
      have g6' : ∀ p, p ≠ 29 → cs_150_4 n (Int32.ofNat (kp + 1)) (Int32.ofNat (l + 1)) (tm_wr (tm_wr (tm_wr β 59 0 kp (β 59 0 l)) 60 0 kp (β 60 0 l)) 61 0 kp (β 61 0 l)) 36 0 p = β 36 0 p := by
        intro p hp
        rw [g6 p hp]; simp [tm_ap]
      simp only [cs_79_4, cs_150_4, ci_79_4, ci_150_4, e1, e2, e3, if_neg k, el, ek, j3, t1', if_neg hq, if_neg hq']
      rw [j3] at g2 g4 g7
      rw [tI_of1 l, tI_of1 kp]
      exact ⟨⟨fun _ => ix1, fun _ _ => t2', fun _ z => absurd z hq, fun _ _ => ix2, fun _ _ => g2⟩, ⟨fun _ => t3', fun _ _ => ix1, fun _ z => absurd z hq', fun _ _ => ix1, fun _ _ => ix2, fun _ _ => g3⟩, g4, g5, g6', g7⟩
end SV
