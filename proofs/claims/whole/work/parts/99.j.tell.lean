/-! The calls that tell; boot, probe, reserve. -/
section TE
variable {q : Int32 × Nat} {t r w : Nat} {α β α' β' : tm_M}
theorem check_ok (h : Rel q t r w α β) (a1 : Int32) : cv_7 a1 α = cv_132 a1 β ∧ ci_7 a1 α ∧ ci_132 a1 β := by
  obtain ⟨m1, m2, m3, m4, m5⟩ := h.2.2.2.2.2.1
  obtain ⟨E1, E2⟩ := file_eq a1 α β
  unfold cv_7 ci_7 cv_54 ci_54 cv_132 ci_132
  rw [← E1]
  by_cases hz : cv_51 a1 α = 0
  · simp only [if_pos hz]
    exact ⟨(by trivial), ⟨fun z => absurd hz z, fun z => absurd hz z⟩, fun z => absurd hz z⟩
  · obtain ⟨f0, f4⟩ := E2 hz
    have ix : tm_ix a1 4 = true := ix4.mpr ⟨f0, f4⟩
    have hf := tn4 f0 f4
    obtain ⟨u1, u2, u3, u4⟩ := m4 _ hf
    obtain ⟨l, hl, hlb⟩ := nat_of (x := β 49 0 a1.toNatClampNeg) (n := 40) (by decide) u2 u3
    have K := lp_52k14 a1.toNatClampNeg 0 α l 64 0 (-1) (by omega) (by omega)
    have M := lp_132 a1 f0 f4 β l 64 0 (-1) (by omega) (by omega) (by rw [Nat.zero_add]; exact hl)
    have z : Int32.ofNat 0 = (0 : Int32) := rfl
    rw [Nat.zero_add, z] at K
    rw [z] at M
    have hx : MX (α 14 a1.toNatClampNeg) l 0 (-1) = MX (fun k => β 50 0 (40 * a1.toNatClampNeg + k)) l 0 (-1) := MX_cong _ _ _ (fun k _ h2 => u4 k (by omega))
    simp only [if_neg hz]
    rw [u1, hl]
    refine ⟨?_, ⟨fun _ => ix, fun _ => K.2⟩, fun _ => M.2⟩
    show cv_52k14_5 a1.toNatClampNeg 0 (Int32.ofNat l) 64 (-1) 0 α = _
    rw [K.1, M.1, hx]
theorem message_ok (h : Rel q t r w α β) (a1 a2 : Int32) : cv_13 a1 a2 α = cv_141 a1 a2 β ∧ ci_13 a1 a2 α ∧ ci_141 a1 a2 β := by
  have hW := h.2.2.2.1
  obtain ⟨H1, H2⟩ := has_eq hW a1
  unfold cv_13 ci_13 cv_141 ci_141
  by_cases hk : a1 < 0 ∨ β 36 0 9 ≤ a1
  · have hz := H1.mpr hk
    have hk2 : a1 < 0 ∨ β 36 0 9 ≤ a1 ∨ a2 < 0 ∨ ¬ a2 ≤ 6 := by grind
    simp only [if_pos hz, if_pos hk2]
    exact ⟨(by trivial), fun z => absurd hz z, ⟨fun z => absurd hk2 z, fun z => absurd hk2 z, fun z => absurd hk2 z, fun z => absurd hk2 z, fun z => absurd hk2 z, fun z => absurd hk2 z, fun z => absurd hk2 z⟩⟩
  · have hz : ¬ cv_116 a1 α = 0 := fun z => hk (H1.mp z)
    obtain ⟨n, hn, rfl⟩ := H2 hk
    have hr := hW.1
    have ix : tm_ix (Int32.ofNat n) 32 = true := ix_n (by decide) (by omega)
    have tn : (Int32.ofNat n).toNatClampNeg = n := tn_of (by omega)
    obtain ⟨g1, g2, g3, g4, g5, g6, g7, g8⟩ := (hW.2.2.2.2 n hn).1
    rw [tn]
    simp only [if_neg hz]
    refine ⟨?_, fun _ => ix, ?_⟩
    · unfold cv_76
      rw [g1, g2, g3, g4, g5, g6, g7]
      have k1 : ¬ Int32.ofNat n < 0 := fun z => hk (Or.inl z)
      have k2 : ¬ β 36 0 9 ≤ Int32.ofNat n := fun z => hk (Or.inr z)
      simp only [k1, k2, false_or]
      grind
    · simp [ix]
theorem sta_eq (h : Rel q t r w α β) (a : Int32) : cv_38 a α = cv_122 a β ∧ (¬ cv_122 a β = 0 → 0 ≤ a ∧ a < 6) := by
  obtain ⟨l1, l2, l3, -⟩ := h.2.2.2.2.1
  unfold cv_38 cv_122
  rw [l1]
  refine ⟨rfl, by grind⟩
theorem station_ok (h : Rel q t r w α β) (a1 a2 : Int32) : cv_14 a1 a2 α = cv_172 a1 a2 β ∧ ci_14 a1 a2 α ∧ ci_172 a1 a2 β := by
  obtain ⟨E1, E2⟩ := sta_eq h a1
  unfold cv_14 ci_14 cv_172 ci_172
  rw [E1]
  by_cases hz : cv_122 a1 β = 0
  · simp only [if_pos hz, hz, true_or, if_true]
    exact ⟨(by trivial), fun z => absurd (by trivial) z, by simp⟩
  · obtain ⟨s0, s6⟩ := E2 hz
    have ix : tm_ix a1 6 = true := ix6.mpr ⟨s0, s6⟩
    have hs := h.2.2.2.2.2.2.2.2.2.1 _ (tn6 s0 s6)
    obtain ⟨d1, d2, d3, d4, d5, d6, d7⟩ := RS_1 hs
    obtain ⟨e1, e2, e3, e4, e5, e6, e7⟩ := RS_2 hs
    simp only [if_neg hz, hz, false_or]
    refine ⟨?_, fun _ => ix, by simp [ix]⟩
    unfold cv_102 cv_67
    rw [d1, d2, d3, d4, d7, e7, e6, e1, e2]
    grind
theorem image_ok (h : Rel q t r w α β) (a1 a2 : Int32) : cv_15 a1 a2 α = cv_173 a1 a2 β ∧ ci_15 a1 a2 α ∧ ci_173 a1 a2 β := by
  obtain ⟨E1, E2⟩ := sta_eq h a1
  unfold cv_15 ci_15 cv_173 ci_173 cv_68 ci_68
  rw [E1]
  by_cases hz : cv_122 a1 β = 0
  · simp only [if_pos hz]
    exact ⟨(by trivial), ⟨fun z => absurd hz z, fun z => absurd hz z⟩, ⟨fun z => absurd hz z, fun z => absurd hz z⟩⟩
  · obtain ⟨s0, s6⟩ := E2 hz
    have ix : tm_ix a1 6 = true := ix6.mpr ⟨s0, s6⟩
    have hs := h.2.2.2.2.2.2.2.2.2.1 _ (tn6 s0 s6)
    obtain ⟨e1, -⟩ := RS_2 hs
    obtain ⟨z0, z172, -⟩ := RS_4 hs
    rw [e1]
    simp only [if_neg hz]
    by_cases hk : a2 < 0
    · simp only [if_pos hk]
      exact ⟨(by trivial), ⟨fun _ => ix, fun _ z => absurd hk z⟩, ⟨fun _ z => absurd hk z, fun _ z => absurd hk z⟩⟩
    · simp only [if_neg hk]
      by_cases hg : a2 < β 81 0 a1.toNatClampNeg
      · have hg' : ¬ β 81 0 a1.toNatClampNeg ≤ a2 := by grind
        have k0 : 0 ≤ a2 := by grind
        have k172 : a2 < 172 := by grind
        obtain ⟨m1, m2, m3⟩ := tn_m240 s0 s6 k0 (by grind : a2 < 240)
        simp only [if_pos hg, if_neg hg']
        refine ⟨?_, ⟨fun _ => ix, fun _ _ _ => ix172.mpr ⟨k0, k172⟩⟩, ⟨fun _ _ => ix, fun _ _ _ => ix1440.mpr ⟨m2, m3⟩⟩⟩
        rw [m1]
        obtain ⟨_, _, _, _, _, _, _, _, _, _, _, _, _, _, _, _, x, _⟩ := hs
        exact x _ (tn172 k0 k172)
      · have hg' : β 81 0 a1.toNatClampNeg ≤ a2 := by grind
        simp only [if_neg hg, if_pos hg']
        exact ⟨(by trivial), ⟨fun _ => ix, fun _ _ z => absurd hg' z⟩, ⟨fun _ _ => ix, fun _ _ z => absurd z hg⟩⟩
theorem lease_eq (h : Rel q t r w α β) (a1 a2 : Int32) : cv_16 a1 a2 α = cv_154 a1 a2 β ∧ ci_16 a1 a2 α ∧ ci_154 a1 a2 β := by
  obtain ⟨E1, E2⟩ := is_eq a1 α β
  unfold cv_16 ci_16 cv_154 ci_154
  rw [← E1]
  by_cases hz : cv_36 a1 α = 0
  · simp only [if_pos hz, hz, true_or, if_true]
    exact ⟨(by trivial), fun z => absurd (by trivial) z, ⟨fun z => absurd (by trivial) z, fun z => absurd (by trivial) z, fun z => absurd (by trivial) z⟩⟩
  · obtain ⟨a0, a30, ix⟩ := AD_ix (E2 hz)
    obtain ⟨b1, b2, b3, b4, b5, b6, b7, b8, b9⟩ := h.2.2.2.2.2.2.1 _ (tn30 a0 a30)
    have g3 : α 1 0 3 = β 36 0 3 := h.2.1.2.2.2.1
    simp only [if_neg hz, hz, false_or]
    refine ⟨?_, fun _ => ⟨fun _ => ix, fun _ => ix, fun _ _ => ix, fun _ => ix, fun _ => ix, fun _ _ => ix⟩, ⟨fun _ _ => ix, fun _ _ _ => ix, fun _ _ _ => ix⟩⟩
    unfold cv_31 cv_23 cv_24 cv_25
    rw [b1, b2, b3, b4, g3]
    generalize β 54 0 a1.toNatClampNeg = x54 at *
    generalize β 55 0 a1.toNatClampNeg = x55 at *
    generalize β 56 0 a1.toNatClampNeg = x56 at *
    generalize β 57 0 a1.toNatClampNeg = x57 at *
    generalize β 58 0 a1.toNatClampNeg = x58 at *
    generalize α 26 0 a1.toNatClampNeg = y26 at *
    generalize β 36 0 3 = now at *
    grind
theorem journal_ok (h : Rel q t r w α β) : cv_17 α = cv_155 β := h.2.2.2.2.2.2.2.1.1
theorem boot_ok (h : Rel q t r 6 α β) (a1 : Int32) : cv_8 a1 α = cv_162 a1 β ∧ ci_8 a1 α ∧ ci_162 a1 β ∧ ∃ r', Rel q t r' 6 (cs_8 a1 α) (cs_162 a1 β) := by
  obtain ⟨E1, E2⟩ := sta_eq h a1
  unfold cv_8 ci_8 cs_8 cv_162 ci_162 cs_162 cs_99 ci_99 cs_60
  rw [E1]
  by_cases hz : cv_122 a1 β = 0
  · simp only [if_pos hz]
    exact ⟨(by trivial), ⟨fun z => absurd hz z, fun z => absurd hz z⟩, ⟨fun z => absurd hz z, fun z => absurd hz z⟩, r, h⟩
  · obtain ⟨s0, s6⟩ := E2 hz
    obtain ⟨hi, hoi, hself, hself', g0, g1, g2, g3, g4, hs, l1, l5⟩ := pre h s0 s6
    have ix : tm_ix a1 6 = true := ix6.mpr ⟨s0, s6⟩
    simp only [if_neg hz]
    have hR : Rel q t r a1.toNatClampNeg (tm_wr (tm_wr (tm_wr (tm_wr (tm_wr (tm_wr α 33 a1.toNatClampNeg 8 0) 33 a1.toNatClampNeg 11 0) 34 a1.toNatClampNeg 11 0) 34 a1.toNatClampNeg 10 0) 34 a1.toNatClampNeg 6 0) 34 a1.toNatClampNeg 5 0) (tm_wr (tm_wr (tm_wr (tm_wr (tm_wr (tm_wr (tm_wr β 72 0 a1.toNatClampNeg 0) 71 0 a1.toNatClampNeg 0) 75 0 a1.toNatClampNeg 0) 76 0 a1.toNatClampNeg 0) 77 0 a1.toNatClampNeg 0) 81 0 a1.toNatClampNeg 0) 82 0 a1.toNatClampNeg 0) := by
      generalize a1.toNatClampNeg = i at *
      refine Rel_w h hi (Or.inl rfl) i ?_ ?_ ?_ ?_ (fun z => absurd rfl z)
      · intro k j p h1 h2 h3 h4
        simp only [tm_ap]
        grind
      · intro k j p h1 h2 h3
        simp only [tm_ap]
        grind
      · simp [tm_ap, g4]
      · unfold RS at hs ⊢
        simp [tm_ap, tm_wr_ne, hoi] at hs ⊢
        grind
    obtain ⟨y1, y2, y3⟩ := select_ok hR a1 s0 s6 (Or.inr rfl) (by
      simp only [tm_ap]
      simp
      grind)
    exact ⟨(by trivial), ⟨fun _ => ix, fun _ => y1⟩, ⟨fun _ => ix, fun _ => y2⟩, _, y3⟩
theorem lp_20 (h : Rel q t r w α β) (a s : Int32) {c : Nat} (hc : β 36 0 38 = Int32.ofNat c) (hc6 : c ≤ 6) (d : Nat) : ∀ n l : Nat, d < n → l + d = c → ci_20_2 a s n (Int32.ofNat l) α ∧ (∀ l3 : Int32, ¬ l3 = 0 → cs_163_10 s a n l3 (Int32.ofNat l) β = cs_135 7 s 0 a 0 β) ∧ cs_163_10 s a n 0 (Int32.ofNat l) β = (if cv_20_2 a s n (Int32.ofNat l) α = 0 then β else cs_135 7 s 0 a 0 β) ∧ (ci_135 7 s 0 a 0 β → ∀ l3, ci_163_10 s a n l3 (Int32.ofNat l) β) := by
  have l1 := h.2.2.2.2.1.1
  have hS := h.2.2.2.2.2.2.2.2.2.1
  induction d with
  | zero =>
    intro n l hn hl
    obtain ⟨n, rfl⟩ : ∃ m, n = m + 1 := ⟨n - 1, by omega⟩
    have k : Int32.ofNat c ≤ Int32.ofNat l := by rw [of_le (by omega) (by omega)]; omega
    simp only [ci_20_2, cv_20_2, cs_163_10, ci_163_10, l1, hc, if_pos k]
    refine ⟨⟨fun z => absurd k z, fun z => absurd k z⟩, ?_, by simp, ?_⟩
    · intro l3 hl3
      rw [if_neg hl3]
    · intro hq l3
      exact ⟨fun _ _ => hq, fun z => absurd k z, fun z => absurd k z, fun z => absurd k z⟩
  | succ d ih =>
    intro n l hn hl
    obtain ⟨n, rfl⟩ : ∃ m, n = m + 1 := ⟨n - 1, by omega⟩
    have k : ¬ Int32.ofNat c ≤ Int32.ofNat l := by rw [of_le (by omega) (by omega)]; omega
    have hl6 : l < 6 := by omega
    have el : (Int32.ofNat l).toNatClampNeg = l := tn_of (by omega)
    have ix : tm_ix (Int32.ofNat l) 6 = true := ix_n (by decide) hl6
    obtain ⟨i1, i2, i3, i4⟩ := ih n (l + 1) (by omega) (by omega)
    have hs := hS l hl6
    obtain ⟨d1, d2, d3, d4, d5, d6, d7⟩ := RS_1 hs
    obtain ⟨x1, x2, -⟩ := RS_3 hs
    have hh : cv_98 l α = cv_156 (Int32.ofNat l) β := holds_eq el x1 x2 d1
    simp only [ci_20_2, cv_20_2, cs_163_10, ci_163_10, l1, hc, if_neg k, el, d2, hh]
    rw [tI_of1]
    refine ⟨⟨fun _ _ => ix, fun _ _ => i1⟩, ?_, ?_, ?_⟩
    · intro l3 hl3
      rw [if_neg hl3]
      exact i2 1 (by decide)
    · simp only [if_true]
      by_cases hq : Int32.ofNat l = s ∨ cv_156 (Int32.ofNat l) β = 0 ∨ ¬ β 69 0 l = a
      · have hq' : ((if Int32.ofNat l = s then 0 else ((if cv_156 (Int32.ofNat l) β = 0 then 0 else ((if β 69 0 l = a then 1 else 0) : Int32)) : Int32)) : Int32) = 0 := by grind
        rw [if_pos hq, hq']
        exact i3
      · have hq' : ((if Int32.ofNat l = s then 0 else ((if cv_156 (Int32.ofNat l) β = 0 then 0 else ((if β 69 0 l = a then 1 else 0) : Int32)) : Int32)) : Int32) = 1 := by grind
        rw [if_neg hq, hq', i2 1 (by decide)]
        rw [if_neg (by decide)]
    · intro hq l3
      exact ⟨fun z => absurd z k, fun _ _ _ => ix, fun _ _ _ _ => ix, fun _ => i4 hq _⟩
theorem probe_ok (h : Rel q t r w α β) (m : Nat) (s a : Int32) (h0 : 0 ≤ s) (h6 : s < 6) (e1 : α 4 m 1 = s) (e3 : α 4 m 3 = a) (had : AD a) : ci_19 m α ∧ ci_163 s a β ∧ ∃ r', Rel q t r' w (cs_19 m α) (cs_163 s a β) := by
  obtain ⟨a0, a30, ix⟩ := AD_ix had
  obtain ⟨l1, l2, l3, l4, l5, l6, l7, l8⟩ := h.2.2.2.2.1
  obtain ⟨c, hc, hc6⟩ := nat_of (x := β 36 0 38) (n := 6) (by decide) l2 l3
  obtain ⟨L1, L2, L3, L4⟩ := lp_20 h a s hc hc6 c 64 0 (by omega) (by omega)
  have z : Int32.ofNat 0 = (0 : Int32) := rfl
  rw [z] at L1 L2 L3 L4
  have e11 := l6 _ (tn30 a0 a30)
  have hR := send_rel h 7 s 0 0 a 0 (mv_s h0 h6 (by decide) (by decide) (fun _ _ => had) (fun h => absurd h (by decide))) rfl
  have cc : ci_117 7 s 0 0 a 0 α := ci_sc h rfl
  have cr : ci_135 7 s 0 a 0 β := ci_sr h rfl h0 h6
  have h36 := AD_36 had α
  have o1 : ¬ (1 : Int32) = 0 := by decide
  unfold ci_19 cs_19 ci_163 cs_163 cv_45 ci_45
  rw [e1, e3, h36, e11]
  have L1' : ci_20 a s α := L1
  refine ⟨⟨fun _ => ix, fun _ => L1', fun _ => cc⟩, ⟨ix, L4 cr _⟩, ?_⟩
  simp only [if_neg o1]
  by_cases hz : β 40 0 a.toNatClampNeg = 0
  · rw [hz, L3]
    have e20 : cv_20 a s α = cv_20_2 a s 64 0 α := rfl
    rw [e20]
    by_cases hq : cv_20_2 a s 64 0 α = 0
    · simp [hq]
      exact ⟨r, h⟩
    · simp [hq]
      exact ⟨_, hR⟩
  · rw [L2 _ hz]
    simp [hz]
    exact ⟨_, hR⟩
end TE
