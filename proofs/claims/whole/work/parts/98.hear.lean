/-! A station hears a message. -/
section HR
variable {q : Int32 × Nat} {t r w : Nat} {α β α' β' : tm_M}
theorem wst (h : Rel q t r 6 α β) {i : Nat} (hi : i < 6) (w' : Nat) (a x tr : Int32) (ha : AD a) (hx2 : 2 ≤ x) (hx6 : x ≤ 6) (ht : tr ≤ β 36 0 1) (hs7 : β 68 0 i ≠ 7) (hn : i ≠ w' → α 33 i 7 = β 71 0 i) : Rel q t r w' (tm_wr (tm_wr (tm_wr α 33 i 5 a) 33 i 4 x) 33 i 10 tr) (tm_wr (tm_wr (tm_wr β 69 0 i a) 68 0 i x) 74 0 i tr) := by
  have hG := h.2.1
  have hs := h.2.2.2.2.2.2.2.2.2.1 i hi
  obtain ⟨g0, g1, g2, g3, g4, g5, g6, g7, g8, g9⟩ := hG
  refine Rel_w h hi (Or.inl rfl) w' ?_ ?_ ?_ ?_ ?_
  · intro k j p h1 h2 h3 h4
    simp only [tm_ap]
    grind
  · intro k j p h1 h2 h3
    simp only [tm_ap]
    grind
  · simp [tm_ap, g4]
  · unfold RS at hs ⊢
    simp [tm_ap, tm_wr_ne] at hs ⊢
    grind
  · intro hq
    unfold RN
    simp [tm_ap]
    exact fun _ _ => hn hq
set_option maxHeartbeats 2000000 in
theorem offer_h (h : Rel q t r 6 α β) (m : Nat) (s n it b c : Int32) (h0 : 0 ≤ s) (h6 : s < 6) (e0 : α 4 m 0 = 1) (e2 : α 4 m 2 = n) (e3 : α 4 m 3 = it) (had : AD it) : ci_100 s.toNatClampNeg m α ∧ ci_164 1 s n it b c β ∧ ∃ r', Rel q t r' 6 (cs_100 s.toNatClampNeg m α) (cs_164 1 s n it b c β) := by
  obtain ⟨hi, hoi, hself, hself', g0, g1, g2, g3, g4, hs, l1, l5⟩ := pre h h0 h6
  obtain ⟨d1, d2, d3, d4, d5, d6, d7⟩ := RS_1 hs
  have i6 : tm_ix s 6 = true := ix6.mpr ⟨h0, h6⟩
  by_cases c1 : β 68 0 s.toNatClampNeg = 1
  · by_cases c2 : n = β 70 0 s.toNatClampNeg
    · have hR := wst h hi s.toNatClampNeg it 2 1 had (by decide) (by decide) l1 (by rw [c1]; decide) (fun hq => absurd rfl hq)
      obtain ⟨y1, y2, y3⟩ := ask_ok hR s h0 h6 (Or.inr rfl) (by simp [tm_ap]) (by simp [tm_ap])
      have E1 : cs_100 s.toNatClampNeg m α = cs_105 s.toNatClampNeg (tm_wr (tm_wr (tm_wr α 33 s.toNatClampNeg 5 it) 33 s.toNatClampNeg 4 2) 33 s.toNatClampNeg 10 1) := by
        simp [cs_100, cs_110, e0, e2, e3, d1, d3, c1, c2]
      have E2 : cs_164 1 s n it b c β = cs_159 s (tm_wr (tm_wr (tm_wr β 69 0 s.toNatClampNeg it) 68 0 s.toNatClampNeg 2) 74 0 s.toNatClampNeg 1) := by
        simp [cs_164, c1, c2]
      refine ⟨by simpa [ci_100, ci_110, e0, e2, e3, d1, d3, c1, c2] using y1, by simpa [ci_164, c1, c2, i6] using y2, nx r, ?_⟩
      rw [E1, E2]
      exact y3
    · have E1 : cs_100 s.toNatClampNeg m α = α := by
        simp [cs_100, cs_110, e0, e2, e3, d1, d3, c1, c2]
      have E2 : cs_164 1 s n it b c β = β := by
        simp [cs_164, c1, c2]
      rw [E1, E2]
      exact ⟨by simp [ci_100, ci_110, e0, e2, e3, d1, d3, c1, c2], by simp [ci_164, c1, c2, i6], r, h⟩
  · have E1 : cs_100 s.toNatClampNeg m α = α := by
      simp [cs_100, cs_110, e0, d1, c1]
    have E2 : cs_164 1 s n it b c β = β := by
      simp [cs_164, c1]
    rw [E1, E2]
    exact ⟨by simp [ci_100, ci_110, e0, d1, c1], by simp [ci_164, c1, i6], r, h⟩
set_option maxHeartbeats 2000000 in
theorem nak_h (h : Rel q t r 6 α β) (m : Nat) (s n it b c : Int32) (h0 : 0 ≤ s) (h6 : s < 6) (e0 : α 4 m 0 = 4) (e2 : α 4 m 2 = n) : ci_100 s.toNatClampNeg m α ∧ ci_164 4 s n it b c β ∧ ∃ r', Rel q t r' 6 (cs_100 s.toNatClampNeg m α) (cs_164 4 s n it b c β) := by
  obtain ⟨hi, hoi, hself, hself', g0, g1, g2, g3, g4, hs, l1, l5⟩ := pre h h0 h6
  obtain ⟨d1, d2, d3, d4, d5, d6, d7⟩ := RS_1 hs
  obtain ⟨x1, x2, x3, x4, x5, x6, x7⟩ := RS_3 hs
  have i6 : tm_ix s 6 = true := ix6.mpr ⟨h0, h6⟩
  by_cases c2 : n = β 70 0 s.toNatClampNeg
  · by_cases c1 : β 68 0 s.toNatClampNeg = 2 ∨ β 68 0 s.toNatClampNeg = 5 ∨ β 68 0 s.toNatClampNeg = 6
    · obtain ⟨y1, y2, y3⟩ := select_ok h s h0 h6 (Or.inl rfl) (x6 (by grind))
      have E1 : cs_100 s.toNatClampNeg m α = cs_103 s.toNatClampNeg α := by
        rcases c1 with c1 | c1 | c1 <;> simp [cs_100, cs_112, e0, e2, d1, d3, c1, c2]
      have E2 : cs_164 4 s n it b c β = cs_158 s β := by
        rcases c1 with c1 | c1 | c1 <;> simp [cs_164, c1, c2]
      refine ⟨?_, ?_, nx r, ?_⟩
      · rcases c1 with c1 | c1 | c1 <;> simpa [ci_100, ci_112, e0, e2, d1, d3, c1, c2] using y1
      · rcases c1 with c1 | c1 | c1 <;> simpa [ci_164, c1, c2, i6] using y2
      · rw [E1, E2]
        exact y3
    · have c3 : ¬ β 68 0 s.toNatClampNeg = 2 := fun hq => c1 (Or.inl hq)
      have c4 : ¬ β 68 0 s.toNatClampNeg = 5 := fun hq => c1 (Or.inr (Or.inl hq))
      have c5 : ¬ β 68 0 s.toNatClampNeg = 6 := fun hq => c1 (Or.inr (Or.inr hq))
      have E1 : cs_100 s.toNatClampNeg m α = α := by
        simp [cs_100, cs_112, e0, e2, d1, d3, c2, c3, c4, c5]
      have E2 : cs_164 4 s n it b c β = β := by
        simp [cs_164, c2, c3, c4, c5]
      rw [E1, E2]
      exact ⟨by simp [ci_100, ci_112, e0, e2, d1, d3, c2, c3, c4, c5], by simp [ci_164, c2, c3, c4, c5, i6], r, h⟩
  · have E1 : cs_100 s.toNatClampNeg m α = α := by
      simp [cs_100, cs_112, e0, e2, d3, c2]
    have E2 : cs_164 4 s n it b c β = β := by
      simp [cs_164, c2]
    rw [E1, E2]
    exact ⟨by simp [ci_100, ci_112, e0, e2, d3, c2], by simp [ci_164, c2, i6], r, h⟩
set_option maxHeartbeats 2000000 in
theorem ack_h (h : Rel q t r 6 α β) (m : Nat) (s n it b c : Int32) (h0 : 0 ≤ s) (h6 : s < 6) (e0 : α 4 m 0 = 3) (e2 : α 4 m 2 = n) (e3 : α 4 m 3 = it) : ci_100 s.toNatClampNeg m α ∧ ci_164 3 s n it b c β ∧ ∃ r', Rel q t r' 6 (cs_100 s.toNatClampNeg m α) (cs_164 3 s n it b c β) := by
  obtain ⟨hi, hoi, hself, hself', g0, g1, g2, g3, g4, hs, l1, l5⟩ := pre h h0 h6
  obtain ⟨d1, d2, d3, d4, d5, d6, d7⟩ := RS_1 hs
  obtain ⟨x1, x2, x3, x4, x5, x6, x7⟩ := RS_3 hs
  have hn := h.2.2.2.2.2.2.2.2.2.2 s.toNatClampNeg hi (by omega)
  unfold RN at hn
  have i6 : tm_ix s 6 = true := ix6.mpr ⟨h0, h6⟩
  by_cases c2 : n = β 70 0 s.toNatClampNeg
  · by_cases c3 : it = β 69 0 s.toNatClampNeg
    · by_cases c1 : β 68 0 s.toNatClampNeg = 2
      · have hn := hn (by rw [c1]; decide) (by rw [c1]; decide)
        have had := RS_ad hs (by rw [c1]; decide) (by rw [c1]; decide)
        have E1 : cs_100 s.toNatClampNeg m α = cs_117 6 s 0 0 (β 69 0 s.toNatClampNeg) 0 (tm_wr (tm_wr (tm_wr α 33 s.toNatClampNeg 8 (β 71 0 s.toNatClampNeg + β 36 0 0)) 33 s.toNatClampNeg 4 3) 33 s.toNatClampNeg 9 (β 36 0 3 + 3)) := by
          simp [cs_100, cs_111, e0, e2, e3, d1, d2, d3, c1, c2, c3, hself, hn, g0, g3, tm_ap, fr_117, wr_117]
        have E2 : cs_164 3 s n it b c β = cs_135 6 s 0 (β 69 0 s.toNatClampNeg) 0 (tm_wr (tm_wr (tm_wr β 72 0 s.toNatClampNeg (β 71 0 s.toNatClampNeg + β 36 0 0)) 68 0 s.toNatClampNeg 3) 73 0 s.toNatClampNeg (β 36 0 3 + 3)) := by
          simp [cs_164, c1, c2, c3, tm_ap, p36, wr_135]
        refine ⟨?_, ?_, nx r, ?_⟩
        · simp [ci_100, ci_111, e0, e2, e3, d1, d2, d3, c1, c2, c3]
          exact ci_sc h (by simp [tm_ap])
        · simp [ci_164, c1, c2, c3, i6]
          exact ci_sr h (by simp [tm_ap]) h0 h6
        · rw [E1, E2]
          generalize s.toNatClampNeg = i at *
          refine send_rel (Rel_w h hi (Or.inl rfl) 6 ?_ ?_ ?_ ?_ ?_) 6 s 0 0 _ 0 (mv_s h0 h6 (by decide) (by decide) (fun _ _ => had) (fun h => absurd h (by decide))) rfl
          · intro k j p h1 h2 h3 h4
            simp only [tm_ap]
            grind
          · intro k j p h1 h2 h3
            simp only [tm_ap]
            grind
          · simp [tm_ap, g4]
          · unfold RS at hs ⊢
            simp [tm_ap, tm_wr_ne, hoi] at hs ⊢
            grind
          · intro _
            unfold RN
            simp [tm_ap, hn]
      · by_cases c4 : β 68 0 s.toNatClampNeg = 5 ∨ β 68 0 s.toNatClampNeg = 6
        · have hn := hn (by grind) (by grind)
          have had := RS_ad hs (by grind) (by grind)
          have E1 : cs_100 s.toNatClampNeg m α = tm_wr (tm_wr α 33 s.toNatClampNeg 8 (β 71 0 s.toNatClampNeg + β 36 0 0)) 33 s.toNatClampNeg 4 4 := by
            rcases c4 with c4 | c4 <;> simp [cs_100, cs_111, e0, e2, e3, d1, d2, d3, c4, c2, c3, hn, g0]
          have E2 : cs_164 3 s n it b c β = tm_wr (tm_wr β 72 0 s.toNatClampNeg (β 71 0 s.toNatClampNeg + β 36 0 0)) 68 0 s.toNatClampNeg 4 := by
            rcases c4 with c4 | c4 <;> simp [cs_164, c4, c2, c3]
          refine ⟨?_, ?_, r, ?_⟩
          · rcases c4 with c4 | c4 <;> simp [ci_100, ci_111, e0, e2, e3, d1, d2, d3, c4, c2, c3]
          · rcases c4 with c4 | c4 <;> simp [ci_164, c4, c2, c3, i6]
          · rw [E1, E2]
            generalize s.toNatClampNeg = i at *
            refine Rel_w h hi (Or.inl rfl) 6 ?_ ?_ ?_ ?_ ?_
            · intro k j p h1 h2 h3 h4
              simp only [tm_ap]
              grind
            · intro k j p h1 h2 h3
              simp only [tm_ap]
              grind
            · simp [tm_ap, g4]
            · unfold RS at hs ⊢
              simp [tm_ap, tm_wr_ne, hoi] at hs ⊢
              grind
            · intro _
              unfold RN
              simp [tm_ap, hn]
        · have c5 : ¬ β 68 0 s.toNatClampNeg = 5 := fun hq => c4 (Or.inl hq)
          have c6 : ¬ β 68 0 s.toNatClampNeg = 6 := fun hq => c4 (Or.inr hq)
          have E1 : cs_100 s.toNatClampNeg m α = α := by
            simp [cs_100, cs_111, e0, e2, e3, d1, d2, d3, c1, c2, c3, c5, c6]
          have E2 : cs_164 3 s n it b c β = β := by
            simp [cs_164, c1, c2, c3, c5, c6]
          rw [E1, E2]
          exact ⟨by simp [ci_100, ci_111, e0, e2, e3, d1, d2, d3, c1, c2, c3, c5, c6], by simp [ci_164, c1, c2, c3, c5, c6, i6], r, h⟩
    · have E1 : cs_100 s.toNatClampNeg m α = α := by
        simp [cs_100, cs_111, e0, e2, e3, d1, d2, d3, c2, c3]
      have E2 : cs_164 3 s n it b c β = β := by
        simp [cs_164, c2, c3]
      rw [E1, E2]
      exact ⟨by simp [ci_100, ci_111, e0, e2, e3, d1, d2, d3, c2, c3], by simp [ci_164, c2, c3, i6], r, h⟩
  · have E1 : cs_100 s.toNatClampNeg m α = α := by
      simp [cs_100, cs_111, e0, e2, e3, d3, c2]
    have E2 : cs_164 3 s n it b c β = β := by
      simp [cs_164, c2]
    rw [E1, E2]
    exact ⟨by simp [ci_100, ci_111, e0, e2, e3, d3, c2], by simp [ci_164, c2, i6], r, h⟩
theorem conflict_ok (h : Rel q t r 6 α β) (m : Nat) (s it : Int32) (h0 : 0 ≤ s) (h6 : s < 6) (e3 : α 4 m 3 = it) (hst : β 68 0 s.toNatClampNeg = 3) (hit : it = β 69 0 s.toNatClampNeg) : ci_113 s.toNatClampNeg m α ∧ ci_165 s β ∧ ∃ r', Rel q t r' 6 (cs_113 s.toNatClampNeg m α) (cs_165 s β) := by
  obtain ⟨hi, hoi, hself, hself', g0, g1, g2, g3, g4, hs, l1, l5⟩ := pre h h0 h6
  obtain ⟨d1, d2, d3, d4, d5, d6, d7⟩ := RS_1 hs
  obtain ⟨x1, x2, x3, x4, x5, x6, x7⟩ := RS_3 hs
  have hn := h.2.2.2.2.2.2.2.2.2.2 s.toNatClampNeg hi (by omega)
  have had := RS_ad hs (by rw [hst]; decide) (by rw [hst]; decide)
  have x6 := x6 (by rw [hst]; decide)
  have cc : ¬ (¬ α 33 s.toNatClampNeg 4 = 3 ∨ ¬ α 4 m 3 = α 33 s.toNatClampNeg 5) := by
    rw [d1, hst, e3, d2, hit]; simp
  have i6 : tm_ix s 6 = true := ix6.mpr ⟨h0, h6⟩
  have e11 : cs_117 5 s 0 0 (β 69 0 s.toNatClampNeg) 0 α 33 s.toNatClampNeg 11 = β 75 0 s.toNatClampNeg := by simp [fr_117, d7]
  have e1 : cs_117 5 s 0 0 (β 69 0 s.toNatClampNeg) 0 α 1 0 1 = β 36 0 1 := by simp [fr_117, g1]
  have e75 : cs_135 5 s 0 (β 69 0 s.toNatClampNeg) 0 β 75 0 s.toNatClampNeg = β 75 0 s.toNatClampNeg := by simp [fr_135]
  have e36 : cs_135 5 s 0 (β 69 0 s.toNatClampNeg) 0 β 36 0 1 = β 36 0 1 := p36 _ _ _ _ _ _ _ (by decide)
  unfold cs_113 cs_165 ci_113 ci_165
  rw [if_neg cc, hself, d2, e11, e1, e75, e36]
  have c1 : ci_117 5 s 0 0 (β 69 0 s.toNatClampNeg) 0 α := ci_sc h rfl
  have c2 : ci_135 5 s 0 (β 69 0 s.toNatClampNeg) 0 β := ci_sr h rfl h0 h6
  by_cases hc : β 75 0 s.toNatClampNeg + 1 = β 36 0 1
  · have hc' : ¬ β 75 0 s.toNatClampNeg + 1 < β 36 0 1 := by grind
    rw [if_pos hc, if_neg hc']
    refine ⟨⟨fun _ => c1, fun _ hq => absurd hq hc'⟩, ⟨i6, c2, fun _ => i6, fun hq => absurd hc hq⟩, nx r, ?_⟩
    have E1 : cs_106 s.toNatClampNeg 8 (tm_wr (cs_117 5 s 0 0 (β 69 0 s.toNatClampNeg) 0 α) 33 s.toNatClampNeg 11 (β 75 0 s.toNatClampNeg + 1)) = cs_117 5 s 0 0 (β 69 0 s.toNatClampNeg) 0 (cs_106 s.toNatClampNeg 8 (tm_wr α 33 s.toNatClampNeg 11 (β 75 0 s.toNatClampNeg + 1))) := by
      unfold cs_106
      simp [wr_117]
    have E2 : cs_160 s 8 (tm_wr (cs_135 5 s 0 (β 69 0 s.toNatClampNeg) 0 β) 75 0 s.toNatClampNeg (β 75 0 s.toNatClampNeg + 1)) = cs_135 5 s 0 (β 69 0 s.toNatClampNeg) 0 (cs_160 s 8 (tm_wr β 75 0 s.toNatClampNeg (β 75 0 s.toNatClampNeg + 1))) := by
      unfold cs_160
      simp [wr_135]
    rw [E1, E2]
    unfold cs_106 cs_160
    generalize s.toNatClampNeg = i at *
    refine send_rel (Rel_w h hi (Or.inl rfl) 6 ?_ ?_ ?_ ?_ ?_) 5 s 0 0 _ 0 (mv_s h0 h6 (by decide) (by decide) (fun _ _ => had) (fun h => absurd h (by decide))) rfl
    · intro k j p h1 h2 h3 h4
      simp only [tm_ap]
      grind
    · intro k j p h1 h2 h3
      simp only [tm_ap]
      grind
    · simp [tm_ap, g4]
    · unfold RS at hs ⊢
      simp [tm_ap, tm_wr_ne, hoi] at hs ⊢
      grind
    · intro _
      unfold RN
      simp [tm_ap]
  · have hc' : β 75 0 s.toNatClampNeg + 1 < β 36 0 1 := by grind
    rw [if_neg hc, if_pos hc']
    have hR : Rel q t (nx r) 6 (tm_wr (cs_117 5 s 0 0 (β 69 0 s.toNatClampNeg) 0 α) 33 s.toNatClampNeg 11 (β 75 0 s.toNatClampNeg + 1)) (tm_wr (cs_135 5 s 0 (β 69 0 s.toNatClampNeg) 0 β) 75 0 s.toNatClampNeg (β 75 0 s.toNatClampNeg + 1)) := by
      rw [wr_117 (by decide) (by decide) (by decide), wr_135 (by decide)]
      generalize s.toNatClampNeg = i at *
      refine send_rel (Rel_w h hi (Or.inl rfl) 6 ?_ ?_ ?_ ?_ ?_) 5 s 0 0 _ 0 (mv_s h0 h6 (by decide) (by decide) (fun _ _ => had) (fun h => absurd h (by decide))) rfl
      · intro k j p h1 h2 h3 h4
        simp only [tm_ap]
        grind
      · intro k j p h1 h2 h3
        simp only [tm_ap]
        grind
      · simp [tm_ap, g4]
      · unfold RS at hs ⊢
        simp [tm_ap, tm_wr_ne, hoi] at hs ⊢
        grind
      · intro _
        unfold RN at hn ⊢
        simpa [tm_ap] using hn
    obtain ⟨y1, y2, y3⟩ := select_ok hR s h0 h6 (Or.inl rfl) (by
      have : cs_135 5 s 0 (β 69 0 s.toNatClampNeg) 0 β 36 0 1 = β 36 0 1 := p36 _ _ _ _ _ _ _ (by decide)
      have e1 : tm_wr (cs_135 5 s 0 (β 69 0 s.toNatClampNeg) 0 β) 75 0 s.toNatClampNeg (β 75 0 s.toNatClampNeg + 1) 75 0 s.toNatClampNeg = β 75 0 s.toNatClampNeg + 1 := by simp [tm_ap]
      rw [e1, tm_wr_ne (by decide), this]
      exact hc')
    exact ⟨⟨fun _ => c1, fun _ _ => y1⟩, ⟨i6, c2, fun hq => absurd hq hc, fun _ => y2⟩, _, y3⟩
set_option maxHeartbeats 2000000 in
theorem here_h (h : Rel q t r 6 α β) (m : Nat) (s n it b c : Int32) (h0 : 0 ≤ s) (h6 : s < 6) (e0 : α 4 m 0 = 7) (e3 : α 4 m 3 = it) : ci_100 s.toNatClampNeg m α ∧ ci_164 7 s n it b c β ∧ ∃ r', Rel q t r' 6 (cs_100 s.toNatClampNeg m α) (cs_164 7 s n it b c β) := by
  obtain ⟨hi, hoi, hself, hself', g0, g1, g2, g3, g4, hs, l1, l5⟩ := pre h h0 h6
  obtain ⟨d1, d2, d3, d4, d5, d6, d7⟩ := RS_1 hs
  have i6 : tm_ix s 6 = true := ix6.mpr ⟨h0, h6⟩
  by_cases c1 : β 68 0 s.toNatClampNeg = 3
  · by_cases c2 : it = β 69 0 s.toNatClampNeg
    · obtain ⟨y1, y2, r', y3⟩ := conflict_ok h m s it h0 h6 e3 c1 c2
      have E1 : cs_100 s.toNatClampNeg m α = cs_113 s.toNatClampNeg m α := by
        simp [cs_100, e0]
      have E2 : cs_164 7 s n it b c β = cs_165 s β := by
        simp [cs_164, c1, c2]
      refine ⟨by simpa [ci_100, e0] using y1, by simpa [ci_164, c1, c2, i6] using y2, r', ?_⟩
      rw [E1, E2]
      exact y3
    · have E1 : cs_100 s.toNatClampNeg m α = α := by
        simp [cs_100, cs_113, e0, e3, d1, d2, c1, c2]
      have E2 : cs_164 7 s n it b c β = β := by
        simp [cs_164, c1, c2]
      rw [E1, E2]
      exact ⟨by simp [ci_100, ci_113, e0, e3, d1, d2, c1, c2], by simp [ci_164, c1, c2, i6], r, h⟩
  · have E1 : cs_100 s.toNatClampNeg m α = α := by
      simp [cs_100, cs_113, e0, d1, c1]
    have E2 : cs_164 7 s n it b c β = β := by
      simp [cs_164, c1]
    rw [E1, E2]
    exact ⟨by simp [ci_100, ci_113, e0, d1, c1], by simp [ci_164, c1, i6], r, h⟩
theorem holds_eq {i : Nat} {s : Int32} (hi : s.toNatClampNeg = i) (h0 : 0 ≤ β 68 0 i) (h7 : β 68 0 i ≤ 7) (d1 : α 33 i 4 = β 68 0 i) : cv_98 i α = cv_156 s β := by
  unfold cv_98 cv_156
  rw [hi, d1]
  rcases st8 h0 h7 with h | h | h | h | h | h | h | h <;> rw [h] <;> decide
set_option maxHeartbeats 2000000 in
theorem err_h (h : Rel q t r 6 α β) (m : Nat) (s n it b c : Int32) (h0 : 0 ≤ s) (h6 : s < 6) (e0 : α 4 m 0 = 11) (e3 : α 4 m 3 = it) : ci_100 s.toNatClampNeg m α ∧ ci_164 11 s n it b c β ∧ ∃ r', Rel q t r' 6 (cs_100 s.toNatClampNeg m α) (cs_164 11 s n it b c β) := by
  obtain ⟨hi, hoi, hself, hself', g0, g1, g2, g3, g4, hs, l1, l5⟩ := pre h h0 h6
  obtain ⟨f1, f2, f3, f4, f5⟩ := h.2.2.2.2.2.1
  obtain ⟨d1, d2, d3, d4, d5, d6, d7⟩ := RS_2 hs
  obtain ⟨x1, x2, x3, x4, x5, x6, x7⟩ := RS_3 hs
  have hn := h.2.2.2.2.2.2.2.2.2.2 s.toNatClampNeg hi (by omega)
  have i6 : tm_ix s 6 = true := ix6.mpr ⟨h0, h6⟩
  have hh := holds_eq (α := α) (β := β) (s := s) rfl x1 x2 (RS_1 hs).1
  by_cases c0 : cv_156 s β = 0
  · have E1 : cs_100 s.toNatClampNeg m α = α := by
      simp [cs_100, e0, hh, c0]
    have E2 : cs_164 11 s n it b c β = β := by
      simp [cs_164, c0]
    rw [E1, E2]
    exact ⟨by simp [ci_100, e0, hh, c0], by simp [ci_164, c0, i6, ci_156], r, h⟩
  · by_cases c1 : β 76 0 s.toNatClampNeg = 1
    · have x7 := x7 c1
      have he4 : β 77 0 s.toNatClampNeg < 4 := by grind
      have f51 := f5 _ (tn4 x7.1 he4)
      have i4 : tm_ix (β 77 0 s.toNatClampNeg) 4 = true := ix4.mpr ⟨x7.1, he4⟩
      by_cases c2 : it = β 51 0 (β 77 0 s.toNatClampNeg).toNatClampNeg
      · have E1 : cs_100 s.toNatClampNeg m α = tm_wr α 34 s.toNatClampNeg 11 3 := by
          simp [cs_100, cs_64, e0, e3, hh, c0, d7, d6, c1, f51.1, c2]
        have E2 : cs_164 11 s n it b c β = tm_wr β 76 0 s.toNatClampNeg 3 := by
          simp [cs_164, c0, c1, c2]
        refine ⟨by simp [ci_100, ci_64, e0, hh, c0, d7, d6, c1, i4], by simp [ci_164, c0, c1, c2, i6, i4, ci_156], r, ?_⟩
        rw [E1, E2]
        generalize s.toNatClampNeg = i at *
        refine Rel_w h hi (Or.inl rfl) 6 ?_ ?_ ?_ ?_ ?_
        · intro k j p h1 h2 h3 h4
          simp only [tm_ap]
          grind
        · intro k j p h1 h2 h3
          simp only [tm_ap]
          grind
        · simp [tm_ap, g4]
        · unfold RS at hs ⊢
          simp [tm_ap, tm_wr_ne, hoi] at hs ⊢
          grind
        · intro _
          unfold RN at hn ⊢
          simpa [tm_ap] using hn
      · have E1 : cs_100 s.toNatClampNeg m α = α := by
          simp [cs_100, cs_64, e0, e3, hh, c0, d7, d6, c1, f51.1, c2]
        have E2 : cs_164 11 s n it b c β = β := by
          simp [cs_164, c0, c1, c2]
        rw [E1, E2]
        exact ⟨by simp [ci_100, ci_64, e0, hh, c0, d7, d6, c1, i4], by simp [ci_164, c0, c1, c2, i6, i4, ci_156], r, h⟩
    · have E1 : cs_100 s.toNatClampNeg m α = α := by
        simp [cs_100, cs_64, e0, e3, hh, c0, d7, c1]
      have E2 : cs_164 11 s n it b c β = β := by
        simp [cs_164, c0, c1]
      rw [E1, E2]
      exact ⟨by simp [ci_100, ci_64, e0, hh, c0, d7, c1], by simp [ci_164, c0, c1, i6, ci_156], r, h⟩
set_option maxHeartbeats 2000000 in
theorem data_h (h : Rel q t r 6 α β) (m : Nat) (hm : (α 2 0 2).toNatClampNeg = m) (s n it b c : Int32) (h0 : 0 ≤ s) (h6 : s < 6) (e0 : α 4 m 0 = 9) (e3 : α 4 m 3 = it) (e4 : α 4 m 4 = b) (e6 : α 4 m 6 = c) (hc0 : 0 ≤ c) (hc12 : c ≤ 12) (hit : 0 ≤ it ∧ it ≤ 3) (hby : ∀ j, j < c.toNatClampNeg → α 5 m j = β 84 0 j) : ci_100 s.toNatClampNeg m α ∧ ci_164 9 s n it b c β ∧ ∃ r', Rel q t r' 6 (cs_100 s.toNatClampNeg m α) (cs_164 9 s n it b c β) := by
  obtain ⟨hi, hoi, hself, hself', g0, g1, g2, g3, g4, hs, l1, l5⟩ := pre h h0 h6
  obtain ⟨f1, f2, f3, f4, f5⟩ := h.2.2.2.2.2.1
  obtain ⟨d1, d2, d3, d4, d5, d6, d7⟩ := RS_2 hs
  obtain ⟨x1, x2, x3, x4, x5, x6, x7⟩ := RS_3 hs
  have i6 : tm_ix s 6 = true := ix6.mpr ⟨h0, h6⟩
  have hh := holds_eq (α := α) (β := β) (s := s) rfl x1 x2 (RS_1 hs).1
  by_cases c0 : cv_156 s β = 0
  · have E1 : cs_100 s.toNatClampNeg m α = α := by
      simp [cs_100, e0, hh, c0]
    have E2 : cs_164 9 s n it b c β = β := by
      simp [cs_164, c0]
    rw [E1, E2]
    exact ⟨by simp [ci_100, e0, hh, c0], by simp [ci_164, c0, i6, ci_156], r, h⟩
  · by_cases c1 : β 76 0 s.toNatClampNeg = 1
    · have x7 := x7 c1
      have he4 : β 77 0 s.toNatClampNeg < 4 := by grind
      have f51 := f5 _ (tn4 x7.1 he4)
      have i4 : tm_ix (β 77 0 s.toNatClampNeg) 4 = true := ix4.mpr ⟨x7.1, he4⟩
      by_cases c2 : it = β 51 0 (β 77 0 s.toNatClampNeg).toNatClampNeg
      · by_cases c3 : b = β 78 0 s.toNatClampNeg
        · obtain ⟨y1, y2, r', y3⟩ := data_ok h m hm s it b c h0 h6 e3 e4 e6 hc0 hc12 hit hby c1 c2 c3
          have E1 : cs_100 s.toNatClampNeg m α = cs_63 s.toNatClampNeg m α := by
            simp [cs_100, e0, hh, c0]
          have E2 : cs_164 9 s n it b c β = cs_166 s it b c β := by
            unfold cs_164
            simp only [← c2, ← c3]
            simp [c0, c1]
          refine ⟨by simpa [ci_100, e0, hh, c0] using y1, ?_, r', ?_⟩
          · unfold ci_164
            simp only [← c2, ← c3]
            simpa [c0, c1, i6, i4, ci_156] using y2
          · rw [E1, E2]
            exact y3
        · have E1 : cs_100 s.toNatClampNeg m α = α := by
            simp [cs_100, cs_63, e0, e3, e4, hh, c0, d7, d6, d3, c1, f51.1, c3]
          have E2 : cs_164 9 s n it b c β = β := by
            simp [cs_164, c0, c1, c3]
          rw [E1, E2]
          exact ⟨by simp [ci_100, ci_63, e0, e3, e4, hh, c0, d7, d6, d3, c1, f51.1, c3, i4], by simp [ci_164, c0, c1, c2, c3, i6, i4, ci_156], r, h⟩
      · have E1 : cs_100 s.toNatClampNeg m α = α := by
          simp [cs_100, cs_63, e0, e3, hh, c0, d7, d6, c1, f51.1, c2]
        have E2 : cs_164 9 s n it b c β = β := by
          simp [cs_164, c0, c1, c2]
        rw [E1, E2]
        exact ⟨by simp [ci_100, ci_63, e0, e3, hh, c0, d7, d6, c1, f51.1, c2, i4], by simp [ci_164, c0, c1, c2, i6, i4, ci_156], r, h⟩
    · have E1 : cs_100 s.toNatClampNeg m α = α := by
        simp [cs_100, cs_63, e0, e3, hh, c0, d7, c1]
      have E2 : cs_164 9 s n it b c β = β := by
        simp [cs_164, c0, c1]
      rw [E1, E2]
      exact ⟨by simp [ci_100, ci_63, e0, e3, hh, c0, d7, c1], by simp [ci_164, c0, c1, i6, ci_156], r, h⟩
end HR
