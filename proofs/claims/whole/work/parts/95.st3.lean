/-! Station steps of a tick. -/
section S3
variable {q : Int32 × Nat} {t r w : Nat} {α β α' β' : tm_M}
theorem loadAgain_ok (h : Rel q t r 6 α β) (s : Int32) (h0 : 0 ≤ s) (h6 : s < 6) (hr : β 76 0 s.toNatClampNeg = 1) : ci_66 s.toNatClampNeg α ∧ ci_169 s β ∧ ∃ r', Rel q t r' 6 (cs_66 s.toNatClampNeg α) (cs_169 s β) := by
  obtain ⟨hi, hoi, hself, hself', g0, g1, g2, g3, g4, hs, l1, l5⟩ := pre h h0 h6
  obtain ⟨f1, f2, f3, f4, f5⟩ := h.2.2.2.2.2.1
  have hn := h.2.2.2.2.2.2.2.2.2.2 s.toNatClampNeg hi (by omega)
  obtain ⟨d1, d2, d3, d4, d5, d6, d7⟩ := RS_2 hs
  obtain ⟨x1, x2, x3, x4, x5, x6, x7⟩ := RS_3 hs
  have x7 := x7 hr
  have he4 : β 77 0 s.toNatClampNeg < 4 := by grind
  have hee := tn4 x7.1 he4
  have f51 := f5 _ hee
  unfold cs_66 cs_169 ci_66 ci_169 cs_71 ci_71
  rw [d4, d3, g1, g3]
  by_cases hc : β 79 0 s.toNatClampNeg = β 36 0 1
  · have hc' : ¬ β 79 0 s.toNatClampNeg < β 36 0 1 := by grind
    rw [if_pos hc, if_neg hc']
    refine ⟨fun hq => absurd hq hc', ⟨ix6.mpr ⟨h0, h6⟩, fun hq => absurd hc hq, fun hq => absurd hc hq⟩, r, ?_⟩
    generalize s.toNatClampNeg = i at *
    refine Rel_w h hi (Or.inl rfl) 6 ?_ ?_ ?_ ?_ ?_
    · intro k j p h1 h2 h3 h4
      simp only [tm_ap]
      grind
    · intro k j p h1 h2 h3
      simp only [tm_ap]
      grind
    · simp [tm_ap, g4]
    · unfold RS at hs ⊢
      simp [tm_ap, tm_wr_ne, hoi] at hs ⊢
      grind
    · intro _
      unfold RN at hn ⊢
      simpa [tm_ap] using hn
  · have hc' : β 79 0 s.toNatClampNeg < β 36 0 1 := by grind
    have hR : Rel q t r 6 (tm_wr (tm_wr α 34 s.toNatClampNeg 8 (β 79 0 s.toNatClampNeg + 1)) 34 s.toNatClampNeg 9 (β 36 0 3 + 3)) (tm_wr (tm_wr β 79 0 s.toNatClampNeg (β 79 0 s.toNatClampNeg + 1)) 80 0 s.toNatClampNeg (β 36 0 3 + 3)) := by
      generalize s.toNatClampNeg = i at *
      refine Rel_w h hi (Or.inl rfl) 6 ?_ ?_ ?_ ?_ ?_
      · intro k j p h1 h2 h3 h4
        simp only [tm_ap]
        grind
      · intro k j p h1 h2 h3
        simp only [tm_ap]
        grind
      · simp [tm_ap, g4]
      · unfold RS at hs ⊢
        simp [tm_ap, tm_wr_ne, hoi] at hs ⊢
        grind
      · intro _
        unfold RN at hn ⊢
        simpa [tm_ap] using hn
    rw [if_neg hc, if_pos hc']
    refine ⟨fun _ _ => ⟨by simpa [tm_ap, d6] using ix4.mpr ⟨x7.1, he4⟩, ci_sc h (by simp [tm_ap])⟩, ⟨ix6.mpr ⟨h0, h6⟩, fun _ _ => ix4.mpr ⟨x7.1, he4⟩, fun _ _ => ci_sr h (by simp [tm_ap]) h0 h6⟩, ?_⟩
    by_cases hb : β 78 0 s.toNatClampNeg = 1
    · rw [if_pos hb, if_pos hb]
      refine ⟨nx r, ?_⟩
      have e1 : tm_wr (tm_wr α 34 s.toNatClampNeg 8 (β 79 0 s.toNatClampNeg + 1)) 34 s.toNatClampNeg 9 (β 36 0 3 + 3) 34 s.toNatClampNeg 0 = s := by simp [tm_ap, hself']
      have e2 : tm_wr (tm_wr α 34 s.toNatClampNeg 8 (β 79 0 s.toNatClampNeg + 1)) 34 s.toNatClampNeg 9 (β 36 0 3 + 3) 34 s.toNatClampNeg 10 = β 77 0 s.toNatClampNeg := by simp [tm_ap, d6]
      have e3 : tm_wr (tm_wr α 34 s.toNatClampNeg 8 (β 79 0 s.toNatClampNeg + 1)) 34 s.toNatClampNeg 9 (β 36 0 3 + 3) 16 0 (β 77 0 s.toNatClampNeg).toNatClampNeg = β 51 0 (β 77 0 s.toNatClampNeg).toNatClampNeg := by simp [tm_ap, f51.1]
      rw [e1, e2, e3]
      exact send_rel hR 8 s 0 0 _ 0 (mv_s h0 h6 (by decide) (by decide) (fun _ h => absurd h (by decide)) (fun _ => ⟨f51.2.2.2.1, f51.2.2.2.2.1⟩)) rfl
    · rw [if_neg hb, if_neg hb]
      exact ⟨r, hR⟩
theorem tryAgain_ok (h : Rel q t r 6 α β) (s : Int32) (h0 : 0 ≤ s) (h6 : s < 6) (hst : β 68 0 s.toNatClampNeg = 1 ∨ β 68 0 s.toNatClampNeg = 2) : ci_107 s.toNatClampNeg α ∧ ci_167 s β ∧ ∃ r', Rel q t r' 6 (cs_107 s.toNatClampNeg α) (cs_167 s β) := by
  obtain ⟨hi, hoi, hself, hself', g0, g1, g2, g3, g4, hs, l1, l5⟩ := pre h h0 h6
  have hn := h.2.2.2.2.2.2.2.2.2.2 s.toNatClampNeg hi (by omega)
  obtain ⟨d1, d2, d3, d4, d5, d6, d7⟩ := RS_1 hs
  obtain ⟨x1, x2, x3, x4, x5, x6, x7⟩ := RS_3 hs
  unfold cs_107 cs_167 ci_107 ci_167
  rw [d6, d1, g1]
  by_cases hc : β 74 0 s.toNatClampNeg = β 36 0 1
  · have hc' : ¬ β 74 0 s.toNatClampNeg < β 36 0 1 := by grind
    rw [if_pos hc, if_neg hc']
    obtain ⟨y1, y2⟩ := fail_ok h s 7 h0 h6 (Or.inl rfl) (by decide)
    exact ⟨⟨fun hq => absurd hq hc', fun hq => absurd hq hc'⟩, ⟨ix6.mpr ⟨h0, h6⟩, fun _ => y1, fun hq => absurd hc hq, fun hq => absurd hc hq⟩, r, y2⟩
  · have hc' : β 74 0 s.toNatClampNeg < β 36 0 1 := by grind
    rw [if_neg hc, if_pos hc']
    by_cases hb : β 68 0 s.toNatClampNeg = 1
    · rw [if_pos hb, if_pos hb]
      refine ⟨⟨fun _ _ => ci_sc h (by simp [tm_ap]), fun _ hq => absurd hb hq⟩, ⟨ix6.mpr ⟨h0, h6⟩, fun hq => absurd hq hc, fun _ _ => ci_sr h (by simp [tm_ap]) h0 h6, fun _ hq => absurd hb hq⟩, nx r, ?_⟩
      have e1 : cs_104 s.toNatClampNeg (tm_wr α 33 s.toNatClampNeg 10 (β 74 0 s.toNatClampNeg + 1)) = cs_117 0 s 0 (β 70 0 s.toNatClampNeg) 0 0 (tm_wr (tm_wr α 33 s.toNatClampNeg 10 (β 74 0 s.toNatClampNeg + 1)) 33 s.toNatClampNeg 9 (β 36 0 3 + 3)) := by
        unfold cs_104
        simp [tm_ap, fr_117, wr_117, hself, d3, g3]
      have e2 : tm_wr (cs_135 0 s (β 70 0 s.toNatClampNeg) 0 0 (tm_wr β 74 0 s.toNatClampNeg (β 74 0 s.toNatClampNeg + 1))) 73 0 s.toNatClampNeg (cs_135 0 s (β 70 0 s.toNatClampNeg) 0 0 (tm_wr β 74 0 s.toNatClampNeg (β 74 0 s.toNatClampNeg + 1)) 36 0 3 + 3) = cs_135 0 s (β 70 0 s.toNatClampNeg) 0 0 (tm_wr (tm_wr β 74 0 s.toNatClampNeg (β 74 0 s.toNatClampNeg + 1)) 73 0 s.toNatClampNeg (β 36 0 3 + 3)) := by
        simp [tm_ap, p36, wr_135]
      rw [e1, e2]
      generalize s.toNatClampNeg = i at *
      refine send_rel (Rel_w h hi (Or.inl rfl) 6 ?_ ?_ ?_ ?_ ?_) 0 s 0 _ 0 0 (mv_s h0 h6 (by decide) (by decide) (fun h => absurd h (by decide)) (fun h => absurd h (by decide))) rfl
      · intro k j p h1 h2 h3 h4
        simp only [tm_ap]
        grind
      · intro k j p h1 h2 h3
        simp only [tm_ap]
        grind
      · simp [tm_ap, g4]
      · unfold RS at hs ⊢
        simp [tm_ap, tm_wr_ne, hoi] at hs ⊢
        grind
      · intro _
        unfold RN at hn ⊢
        simpa [tm_ap] using hn
    · have hb2 := hst.resolve_left hb
      rw [if_neg hb, if_neg hb]
      have hR : Rel q t r 6 (tm_wr α 33 s.toNatClampNeg 10 (β 74 0 s.toNatClampNeg + 1)) (tm_wr β 74 0 s.toNatClampNeg (β 74 0 s.toNatClampNeg + 1)) := by
        generalize s.toNatClampNeg = i at *
        refine Rel_w h hi (Or.inl rfl) 6 ?_ ?_ ?_ ?_ ?_
        · intro k j p h1 h2 h3 h4
          simp only [tm_ap]
          grind
        · intro k j p h1 h2 h3
          simp only [tm_ap]
          grind
        · simp [tm_ap, g4]
        · unfold RS at hs ⊢
          simp [tm_ap, tm_wr_ne, hoi] at hs ⊢
          grind
        · intro _
          unfold RN at hn ⊢
          simpa [tm_ap] using hn
      obtain ⟨y1, y2, y3⟩ := ask_ok hR s h0 h6 (Or.inl rfl) (by simp [tm_ap, hb2]) (by simp [tm_ap, hb2])
      exact ⟨⟨fun _ hq => absurd hq hb, fun _ _ => y1⟩, ⟨ix6.mpr ⟨h0, h6⟩, fun hq => absurd hq hc, fun _ hq => absurd hq hb, fun _ _ => y2⟩, _, y3⟩
theorem st_ok (h : Rel q t r 6 α β) (s x : Int32) (h0 : 0 ≤ s) (h6 : s < 6) (hs2 : 2 ≤ β 68 0 s.toNatClampNeg) (hs6 : β 68 0 s.toNatClampNeg ≤ 6) (hx2 : 2 ≤ x) (hx6 : x ≤ 6) : Rel q t r 6 (tm_wr α 33 s.toNatClampNeg 4 x) (tm_wr β 68 0 s.toNatClampNeg x) := by
  obtain ⟨hi, hoi, hself, hself', g0, g1, g2, g3, g4, hs, l1, l5⟩ := pre h h0 h6
  have hn := h.2.2.2.2.2.2.2.2.2.2 s.toNatClampNeg hi (by omega)
  generalize s.toNatClampNeg = i at *
  refine Rel_w h hi (Or.inl rfl) 6 ?_ ?_ ?_ ?_ ?_
  · intro k j p h1 h2 h3 h4
    simp only [tm_ap]
    grind
  · intro k j p h1 h2 h3
    simp only [tm_ap]
    grind
  · simp [tm_ap, g4]
  · unfold RS at hs ⊢
    simp [tm_ap, tm_wr_ne, hoi] at hs ⊢
    grind
  · intro _
    unfold RN at hn ⊢
    simp [tm_ap]
    exact fun _ _ => hn hs2 hs6
theorem endProbe_ok (h : Rel q t r 6 α β) (s : Int32) (h0 : 0 ≤ s) (h6 : s < 6) (hst : β 68 0 s.toNatClampNeg = 3) : ci_108 s.toNatClampNeg α ∧ ci_168 s β ∧ ∃ r', Rel q t r' 6 (cs_108 s.toNatClampNeg α) (cs_168 s β) := by
  obtain ⟨hi, hoi, hself, hself', g0, g1, g2, g3, g4, hs, l1, l5⟩ := pre h h0 h6
  obtain ⟨d1, d2, d3, d4, d5, d6, d7⟩ := RS_1 hs
  obtain ⟨x1, x2, x3, x4, x5, x6, x7⟩ := RS_3 hs
  have d11 := (RS_2 hs).2.2.2.2.2.2
  unfold cs_108 cs_168 ci_108 ci_168
  rw [d4, g3, d11]
  by_cases hc : β 36 0 3 < β 72 0 s.toNatClampNeg
  · rw [if_pos hc, if_pos hc]
    have hR := st_ok h s 4 h0 h6 (by rw [hst]; decide) (by rw [hst]; decide) (by decide) (by decide)
    by_cases hb : β 76 0 s.toNatClampNeg = 0
    · rw [if_pos hb, if_pos hb]
      obtain ⟨y1, y2, y3⟩ := load_ok hR s 0 h0 h6 (by decide) (Or.inl rfl)
      exact ⟨⟨fun _ _ => y1, fun hq => absurd hc hq⟩, ⟨ix6.mpr ⟨h0, h6⟩, fun _ _ => y2, fun hq => absurd hc hq⟩, y3⟩
    · rw [if_neg hb, if_neg hb]
      exact ⟨⟨fun _ hq => absurd hq hb, fun hq => absurd hc hq⟩, ⟨ix6.mpr ⟨h0, h6⟩, fun _ hq => absurd hq hb, fun hq => absurd hc hq⟩, r, hR⟩
  · rw [if_neg hc, if_neg hc]
    obtain ⟨y1, y2, y3⟩ := select_ok h s h0 h6 (Or.inl rfl) (x6 (by rw [hst]; decide))
    exact ⟨⟨fun hq => absurd hq hc, fun _ => y1⟩, ⟨ix6.mpr ⟨h0, h6⟩, fun hq => absurd hq hc, fun _ => y2⟩, _, y3⟩
theorem st8 {x : Int32} (h0 : 0 ≤ x) (h7 : x ≤ 7) : x = 0 ∨ x = 1 ∨ x = 2 ∨ x = 3 ∨ x = 4 ∨ x = 5 ∨ x = 6 ∨ x = 7 := by
  rw [tI_le] at h0 h7
  simp only [tI_eq]
  have e0 : (0 : Int32).toInt = 0 := rfl
  have e1 : (1 : Int32).toInt = 1 := rfl
  have e2 : (2 : Int32).toInt = 2 := rfl
  have e3 : (3 : Int32).toInt = 3 := rfl
  have e4 : (4 : Int32).toInt = 4 := rfl
  have e5 : (5 : Int32).toInt = 5 := rfl
  have e6 : (6 : Int32).toInt = 6 := rfl
  have e7 : (7 : Int32).toInt = 7 := rfl
  omega
theorem passTime_ok (h : Rel q t r 6 α β) (s : Int32) (h0 : 0 ≤ s) (h6 : s < 6) : ci_101 s.toNatClampNeg α ∧ ci_170 s β ∧ ∃ r', Rel q t r' 6 (cs_101 s.toNatClampNeg α) (cs_170 s β) := by
  obtain ⟨hi, hoi, hself, hself', g0, g1, g2, g3, g4, hs, l1, l5⟩ := pre h h0 h6
  have hn := h.2.2.2.2.2.2.2.2.2.2 s.toNatClampNeg hi (by omega)
  obtain ⟨d1, d2, d3, d4, d5, d6, d7⟩ := RS_1 hs
  obtain ⟨x1, x2, x3, x4, x5, x6, x7⟩ := RS_3 hs
  have d11 := (RS_2 hs).2.2.2.2.2.2
  have d9 := (RS_2 hs).2.2.2.2.1
  have i6 : tm_ix s 6 = true := ix6.mpr ⟨h0, h6⟩
  have hsel : β 68 0 s.toNatClampNeg ≠ 7 → ci_103 s.toNatClampNeg α ∧ ci_158 s β ∧ ∃ r', Rel q t r' 6 (cs_103 s.toNatClampNeg α) (cs_158 s β) := fun hq => by
    obtain ⟨y1, y2, y3⟩ := select_ok h s h0 h6 (Or.inl rfl) (x6 hq)
    exact ⟨y1, y2, _, y3⟩
  have hask : ∀ x : Int32, 2 ≤ x → x ≤ 6 → 2 ≤ β 68 0 s.toNatClampNeg → β 68 0 s.toNatClampNeg ≤ 6 → ci_105 s.toNatClampNeg (tm_wr α 33 s.toNatClampNeg 4 x) ∧ ci_159 s (tm_wr β 68 0 s.toNatClampNeg x) ∧ ∃ r', Rel q t r' 6 (cs_105 s.toNatClampNeg (tm_wr α 33 s.toNatClampNeg 4 x)) (cs_159 s (tm_wr β 68 0 s.toNatClampNeg x)) := fun x hx2 hx6 h2 h7 => by
    obtain ⟨y1, y2, y3⟩ := ask_ok (st_ok h s x h0 h6 h2 h7 hx2 hx6) s h0 h6 (Or.inl rfl) (by simpa [tm_ap] using hx2) (by simpa [tm_ap] using hx6)
    exact ⟨y1, y2, _, y3⟩
  have hask0 : 2 ≤ β 68 0 s.toNatClampNeg → β 68 0 s.toNatClampNeg ≤ 6 → ci_105 s.toNatClampNeg α ∧ ci_159 s β ∧ ∃ r', Rel q t r' 6 (cs_105 s.toNatClampNeg α) (cs_159 s β) := fun h2 h7 => by
    obtain ⟨y1, y2, y3⟩ := ask_ok h s h0 h6 (Or.inl rfl) h2 h7
    exact ⟨y1, y2, _, y3⟩
  have hla := loadAgain_ok h s h0 h6
  have hta := tryAgain_ok h s h0 h6
  have hep := endProbe_ok h s h0 h6
  unfold RN at hn
  unfold cs_101 cs_170 ci_101 ci_170 cv_98 cv_156 ci_156 cv_109 cv_65
  simp only [d1, d4, d5, g3, g0, d11, d9, i6, true_and]
  rcases st8 x1 x2 with hv | hv | hv | hv | hv | hv | hv | hv
  · simp [hv]
    exact ⟨r, h⟩
  · have hta := hta (Or.inl hv)
    by_cases c1 : β 36 0 3 < β 73 0 s.toNatClampNeg
    · simp [hv, c1]
      exact ⟨r, h⟩
    · simp [hv, c1]
      exact hta
  · have hta := hta (Or.inr hv)
    by_cases c1 : β 36 0 3 < β 73 0 s.toNatClampNeg
    · simp [hv, c1]
      exact ⟨r, h⟩
    · simp [hv, c1]
      exact hta
  · have hep := hep hv
    by_cases c1 : β 36 0 3 < β 73 0 s.toNatClampNeg
    · simp [hv, c1]
      exact ⟨r, h⟩
    · simp [hv, c1]
      exact hep
  · have hn := hn (by rw [hv]; decide) (by rw [hv]; decide)
    have hsel := hsel (by rw [hv]; decide)
    have hask := hask 5 (by decide) (by decide) (by rw [hv]; decide) (by rw [hv]; decide)
    simp only [hn]
    by_cases c1 : β 36 0 3 < β 72 0 s.toNatClampNeg
    · by_cases c2 : 2 * (β 36 0 3 - β 71 0 s.toNatClampNeg) < β 36 0 0
      · by_cases c3 : β 76 0 s.toNatClampNeg = 1
        · by_cases c4 : β 36 0 3 < β 80 0 s.toNatClampNeg
          · simp [hv, c1, c2, c3, c4]
            exact ⟨r, h⟩
          · simp [hv, c1, c2, c3, c4]
            exact hla c3
        · simp [hv, c1, c2, c3]
          exact ⟨r, h⟩
      · simp [hv, c1, c2]
        exact hask
    · simp [hv, c1]
      exact hsel
  · have hn := hn (by rw [hv]; decide) (by rw [hv]; decide)
    have hsel := hsel (by rw [hv]; decide)
    have hask := hask 6 (by decide) (by decide) (by rw [hv]; decide) (by rw [hv]; decide)
    have hask0 := hask0 (by rw [hv]; decide) (by rw [hv]; decide)
    by_cases c1 : β 36 0 3 < β 72 0 s.toNatClampNeg
    · by_cases c2 : 8 * (β 36 0 3 - (β 72 0 s.toNatClampNeg - β 36 0 0)) < 7 * β 36 0 0
      · by_cases c5 : β 36 0 3 < β 73 0 s.toNatClampNeg
        · by_cases c3 : β 76 0 s.toNatClampNeg = 1
          · by_cases c4 : β 36 0 3 < β 80 0 s.toNatClampNeg
            · simp [hv, c1, c2, c3, c4, c5]
              exact ⟨r, h⟩
            · simp [hv, c1, c2, c3, c4, c5]
              exact hla c3
          · simp [hv, c1, c2, c3, c5]
            exact ⟨r, h⟩
        · simp [hv, c1, c2, c5]
          exact hask0
      · simp [hv, c1, c2]
        exact hask
    · simp [hv, c1]
      exact hsel
  · have hn := hn (by rw [hv]; decide) (by rw [hv]; decide)
    have hsel := hsel (by rw [hv]; decide)
    have hask0 := hask0 (by rw [hv]; decide) (by rw [hv]; decide)
    by_cases c1 : β 36 0 3 < β 72 0 s.toNatClampNeg
    · by_cases c5 : β 36 0 3 < β 73 0 s.toNatClampNeg
      · by_cases c3 : β 76 0 s.toNatClampNeg = 1
        · by_cases c4 : β 36 0 3 < β 80 0 s.toNatClampNeg
          · simp [hv, c1, c3, c4, c5]
            exact ⟨r, h⟩
          · simp [hv, c1, c3, c4, c5]
            exact hla c3
        · simp [hv, c1, c3, c5]
          exact ⟨r, h⟩
      · simp [hv, c1, c5]
        exact hask0
    · simp [hv, c1]
      exact hsel
  · simp [hv]
    exact ⟨r, h⟩
end S3
