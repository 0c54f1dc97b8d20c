/-! Station steps: select, ask, fail, load, again. -/
section S2
variable {q : Int32 × Nat} {t r w : Nat} {α β α' β' : tm_M}
theorem RS_ad {s : Nat} (h : RS α β s) (h2 : 2 ≤ β 68 0 s) (h7 : β 68 0 s ≤ 6) : AD (β 69 0 s) := by
  obtain ⟨_, _, _, _, _, _, _, _, _, _, _, _, _, _, _, _, _, _, _, x, _⟩ := h
  exact x h2 h7
theorem RS_1 {s : Nat} (h : RS α β s) : α 33 s 4 = β 68 0 s ∧ α 33 s 5 = β 69 0 s ∧ α 33 s 6 = β 70 0 s ∧ α 33 s 8 = β 72 0 s ∧ α 33 s 9 = β 73 0 s ∧ α 33 s 10 = β 74 0 s ∧ α 33 s 11 = β 75 0 s := by
  obtain ⟨_, _, h1, h2, h3, h4, h5, h6, h7, _⟩ := h
  exact ⟨h1, h2, h3, h4, h5, h6, h7⟩
theorem RS_2 {s : Nat} (h : RS α β s) : α 34 s 5 = β 81 0 s ∧ α 34 s 6 = β 82 0 s ∧ α 34 s 7 = β 78 0 s ∧ α 34 s 8 = β 79 0 s ∧ α 34 s 9 = β 80 0 s ∧ α 34 s 10 = β 77 0 s ∧ α 34 s 11 = β 76 0 s := by
  obtain ⟨_, _, _, _, _, _, _, _, _, h1, h2, h3, h4, h5, h6, h7, _⟩ := h
  exact ⟨h1, h2, h3, h4, h5, h6, h7⟩
theorem RS_3 {s : Nat} (h : RS α β s) : 0 ≤ β 68 0 s ∧ β 68 0 s ≤ 7 ∧ β 74 0 s ≤ β 36 0 1 ∧ β 79 0 s ≤ β 36 0 1 ∧ 0 ≤ β 75 0 s ∧ (β 68 0 s ≠ 7 → β 75 0 s < β 36 0 1) ∧ (β 76 0 s = 1 → 0 ≤ β 77 0 s ∧ β 77 0 s < β 36 0 20) := by
  obtain ⟨_, _, _, _, _, _, _, _, _, _, _, _, _, _, _, _, _, h1, h2, _, h3, h4, h5, h6, _, _, h7⟩ := h
  exact ⟨h1, h2, h3, h4, h5, h6, fun q => ⟨(h7 q).1, (h7 q).2.1⟩⟩
theorem nf_62 (i : Nat) (μ : tm_M) : cs_62 i μ = tm_wr μ 34 i 11 (if μ 34 i 11 = 1 then 0 else μ 34 i 11) := by
  unfold cs_62
  split
  · rfl
  · rw [tm_id]
def W103 (i : Nat) (α : tm_M) : tm_M := tm_wr (tm_wr (tm_wr (tm_wr (tm_wr (tm_wr (tm_wr α 33 i 4 1) 33 i 5 0) 1 0 4 (α 1 0 4 + 1)) 33 i 6 (α 1 0 4 + 1)) 33 i 10 1) 33 i 9 (α 1 0 3 + 3)) 34 i 11 (if α 34 i 11 = 1 then 0 else α 34 i 11)
def W158 (i : Nat) (β : tm_M) : tm_M := tm_wr (tm_wr (tm_wr (tm_wr (tm_wr (tm_wr (tm_wr β 68 0 i 1) 69 0 i 0) 36 0 4 (β 36 0 4 + 1)) 70 0 i (β 36 0 4 + 1)) 74 0 i 1) 73 0 i (β 36 0 3 + 3)) 76 0 i (if β 76 0 i = 1 then 0 else β 76 0 i)
theorem nf_103 (i : Nat) (α : tm_M) : cs_103 i α = cs_117 0 (α 33 i 0) 0 (α 1 0 4 + 1) 0 0 (W103 i α) := by
  unfold cs_103 cs_104 cs_34 cv_34 W103
  rw [nf_62]
  simp [tm_ap, fr_117, wr_117]
theorem nf_158 (s : Int32) (β : tm_M) : cs_158 s β = cs_135 0 s (β 36 0 4 + 1) 0 0 (W158 s.toNatClampNeg β) := by
  unfold cs_158 cs_157 W158
  simp [tm_ap, fr_135, p36, wr_135]
theorem select_ok (h : Rel q t r w α β) (s : Int32) (h0 : 0 ≤ s) (h6 : s < 6) (hw : w = 6 ∨ w = s.toNatClampNeg) (hc : β 75 0 s.toNatClampNeg < β 36 0 1) : ci_103 s.toNatClampNeg α ∧ ci_158 s β ∧ Rel q t (nx r) 6 (cs_103 s.toNatClampNeg α) (cs_158 s β) := by
  obtain ⟨hi, hoi, hself, hself', g0, g1, g2, g3, g4, hs, l1, l5⟩ := pre h h0 h6
  refine ⟨ci_sc h (by simp [tm_ap, cs_34]), ⟨ix6.mpr ⟨h0, h6⟩, ix6.mpr ⟨h0, h6⟩, ci_sr h (by simp [tm_ap, cs_157]) h0 h6⟩, ?_⟩
  rw [nf_103, nf_158, hself, g4]
  generalize s.toNatClampNeg = i at *
  refine send_rel (Rel_w h hi hw 6 ?_ ?_ ?_ ?_ ?_) 0 s 0 (β 36 0 4 + 1) 0 0 (mv_s h0 h6 (by decide) (by decide) (fun h => absurd h (by decide)) (fun h => absurd h (by decide))) rfl
  · intro k j p h1 h2 h3 h4
    simp only [W103, tm_ap]
    grind
  · intro k j p h1 h2 h3
    simp only [W158, tm_ap]
    grind
  · simp [W103, W158, tm_ap, g4]
  · unfold RS at hs ⊢
    simp [W103, W158, tm_ap, tm_wr_ne, hoi] at hs ⊢
    grind
  · intro _
    unfold RN
    simp [W158, tm_ap]
def W105 (i : Nat) (α : tm_M) : tm_M := tm_wr (tm_wr (tm_wr (tm_wr α 1 0 4 (α 1 0 4 + 1)) 33 i 6 (α 1 0 4 + 1)) 33 i 7 (α 1 0 3)) 33 i 9 (α 1 0 3 + 3)
def W159 (i : Nat) (β : tm_M) : tm_M := tm_wr (tm_wr (tm_wr (tm_wr β 36 0 4 (β 36 0 4 + 1)) 70 0 i (β 36 0 4 + 1)) 71 0 i (β 36 0 3)) 73 0 i (β 36 0 3 + 3)
theorem nf_105 (i : Nat) (α : tm_M) : cs_105 i α = cs_117 2 (α 33 i 0) 0 (α 1 0 4 + 1) (α 33 i 5) 0 (W105 i α) := by
  unfold cs_105 cs_34 cv_34 W105
  simp [tm_ap, fr_117, wr_117]
theorem nf_159 (s : Int32) (β : tm_M) : cs_159 s β = cs_135 2 s (β 36 0 4 + 1) (β 69 0 s.toNatClampNeg) 0 (W159 s.toNatClampNeg β) := by
  unfold cs_159 cs_157 W159
  simp [tm_ap, fr_135, p36, wr_135]
theorem ask_ok (h : Rel q t r w α β) (s : Int32) (h0 : 0 ≤ s) (h6 : s < 6) (hw : w = 6 ∨ w = s.toNatClampNeg) (h2 : 2 ≤ β 68 0 s.toNatClampNeg) (h7 : β 68 0 s.toNatClampNeg ≤ 6) : ci_105 s.toNatClampNeg α ∧ ci_159 s β ∧ Rel q t (nx r) 6 (cs_105 s.toNatClampNeg α) (cs_159 s β) := by
  obtain ⟨hi, hoi, hself, hself', g0, g1, g2, g3, g4, hs, l1, l5⟩ := pre h h0 h6
  refine ⟨ci_sc h (by simp [tm_ap, cs_34]), ⟨ix6.mpr ⟨h0, h6⟩, ix6.mpr ⟨h0, h6⟩, ci_sr h (by simp [tm_ap, cs_157]) h0 h6⟩, ?_⟩
  rw [nf_105, nf_159, hself, g4]
  generalize s.toNatClampNeg = i at *
  have e5 : α 33 i 5 = β 69 0 i := hs.2.2.2.1
  have had : AD (β 69 0 i) := RS_ad hs h2 h7
  rw [e5]
  refine send_rel (Rel_w h hi hw 6 ?_ ?_ ?_ ?_ ?_) 2 s 0 (β 36 0 4 + 1) (β 69 0 i) 0 (mv_s h0 h6 (by decide) (by decide) (fun _ _ => had) (fun h => absurd h (by decide))) rfl
  · intro k j p h1 h2 h3 h4
    simp only [W105, tm_ap]
    grind
  · intro k j p h1 h2 h3
    simp only [W159, tm_ap]
    grind
  · simp [W105, W159, tm_ap, g4]
  · unfold RS at hs ⊢
    simp [W105, W159, tm_ap, tm_wr_ne, hoi] at hs ⊢
    grind
  · intro _
    unfold RN
    simp [W105, W159, tm_ap, g3]
theorem fail_ok (h : Rel q t r w α β) (s x : Int32) (h0 : 0 ≤ s) (h6 : s < 6) (hw : w = 6 ∨ w = s.toNatClampNeg) (hx : x ≠ 1) : ci_160 s x β ∧ Rel q t r 6 (cs_106 s.toNatClampNeg x α) (cs_160 s x β) := by
  obtain ⟨hi, hoi, hself, hself', g0, g1, g2, g3, g4, hs, l1, l5⟩ := pre h h0 h6
  refine ⟨ix6.mpr ⟨h0, h6⟩, ?_⟩
  unfold cs_106 cs_160
  generalize s.toNatClampNeg = i at *
  refine Rel_w h hi hw 6 ?_ ?_ ?_ ?_ ?_
  · intro k j p h1 h2 h3 h4
    simp only [tm_ap]
    grind
  · intro k j p h1 h2 h3
    simp only [tm_ap]
    grind
  · simp [tm_ap, g4]
  · unfold RS at hs ⊢
    simp [tm_ap, tm_wr_ne, hoi] at hs ⊢
    grind
  · intro _
    unfold RN
    simp [tm_ap]
theorem SL_cong {f g : Nat → Int32} (n : Nat) (h : ∀ j, j < n → f j = g j) : SL f n = SL g n := by
  induction n with
  | zero => rfl
  | succ n ih =>
    show SL f n + f n = SL g n + g n
    rw [ih (fun j hj => h j (by omega)), h n (by omega)]
theorem SL_b {f : Nat → Int32} (h : ∀ e, e < 4 → 0 ≤ f e ∧ f e ≤ 40) (n : Nat) (hn : n ≤ 4) : 0 ≤ (SL f n).toInt ∧ (SL f n).toInt ≤ 40 * (n : Int) := by
  induction n with
  | zero =>
    show (0 : Int) ≤ (0 : Int32).toInt ∧ (0 : Int32).toInt ≤ 40 * ((0 : Nat) : Int)
    decide
  | succ n ih =>
    have ih := ih (by omega)
    have hf := h n (by omega)
    rw [tI_le, tI_le] at hf
    have e0 : (0 : Int32).toInt = 0 := rfl
    have e40 : (40 : Int32).toInt = 40 := rfl
    show 0 ≤ (SL f n + f n).toInt ∧ (SL f n + f n).toInt ≤ 40 * ((n + 1 : Nat) : Int)
    rw [tI_add (by omega) (by omega)]
    omega
theorem SL_b3 {f : Nat → Int32} (h : ∀ e, e < 4 → 0 ≤ f e ∧ f e ≤ 40) (n : Nat) (hn : n ≤ 3) : 0 ≤ SL f n ∧ SL f n ≤ 120 := by
  have := SL_b h n (by omega)
  have e0 : (0 : Int32).toInt = 0 := rfl
  have e1 : (120 : Int32).toInt = 120 := rfl
  rw [tI_le, tI_le, e0, e1]
  omega
theorem lp_58 (μ : tm_M) (d : Nat) : ∀ n l : Nat, d < n → l + d ≤ 4 → cv_58_4 (Int32.ofNat (l + d)) n (SL (μ 17 0) l) (Int32.ofNat l) μ = SL (μ 17 0) (l + d) ∧ ci_58_4 (Int32.ofNat (l + d)) n (SL (μ 17 0) l) (Int32.ofNat l) μ := by
  induction d with
  | zero =>
    intro n l hn h
    obtain ⟨n, rfl⟩ : ∃ m, n = m + 1 := ⟨n - 1, by omega⟩
    have c : Int32.ofNat (l + 0) ≤ Int32.ofNat l := by rw [of_le (by omega) (by omega)]; omega
    simp only [cv_58_4, ci_58_4, if_pos c]
    exact ⟨rfl, fun q => absurd c q, fun q => absurd c q⟩
  | succ d ih =>
    intro n l hn h
    obtain ⟨n, rfl⟩ : ∃ m, n = m + 1 := ⟨n - 1, by omega⟩
    have c : ¬ Int32.ofNat (l + (d + 1)) ≤ Int32.ofNat l := by rw [of_le (by omega) (by omega)]; omega
    have ih := ih n (l + 1) (by omega) (by omega)
    have e : l + 1 + d = l + (d + 1) := by omega
    rw [e] at ih
    have e2 : SL (μ 17 0) l + μ 17 0 (Int32.ofNat l).toNatClampNeg = SL (μ 17 0) (l + 1) := by
      rw [tn_of (by omega)]; rfl
    simp only [cv_58_4, ci_58_4, if_neg c]
    rw [e2, tI_of1]
    exact ⟨ih.1, fun _ => ix_n (by decide) (by omega), fun _ => ih.2⟩
theorem v58 (μ : tm_M) {e : Int32} (h0 : 0 ≤ e) (h4 : e < 5) : cv_58 e μ = SL (μ 17 0) e.toNatClampNeg ∧ ci_58 e μ := by
  have h5 : e.toNatClampNeg < 5 := (tn_lt (n := 5) (by decide) h0).mpr h4
  have := lp_58 μ e.toNatClampNeg 64 0 (by omega) (by omega)
  rw [Nat.zero_add, of_tn h0] at this
  exact this
def W61 (i : Nat) (e x : Int32) (α : tm_M) : tm_M := tm_wr (tm_wr (tm_wr (tm_wr (tm_wr (tm_wr (tm_wr α 34 i 11 1) 34 i 10 e) 34 i 6 x) 34 i 5 x) 34 i 7 1) 34 i 8 1) 34 i 9 (α 1 0 3 + 3)
def W161 (i : Nat) (e x : Int32) (β : tm_M) : tm_M := tm_wr (tm_wr (tm_wr (tm_wr (tm_wr (tm_wr (tm_wr β 76 0 i 1) 77 0 i e) 78 0 i 1) 81 0 i x) 82 0 i x) 79 0 i 1) 80 0 i (β 36 0 3 + 3)
theorem nf_61 {i : Nat} {e : Int32} {α : tm_M} (hc : e < α 12 0 5) : cs_61 i e α = cs_117 8 (α 34 i 0) 0 0 (α 16 0 e.toNatClampNeg) 0 (W61 i e (cv_58 e (tm_wr (tm_wr α 34 i 11 1) 34 i 10 e)) α) := by
  unfold cs_61 cs_72 cs_71 W61
  rw [if_pos hc]
  simp [tm_ap, fr_117, wr_117]
theorem nf_161 {s e : Int32} {β : tm_M} (hc : e < β 36 0 20) : cs_161 s e β = cs_135 8 s 0 (β 51 0 e.toNatClampNeg) 0 (W161 s.toNatClampNeg e (if e = 0 then 0 else β 81 0 s.toNatClampNeg) β) := by
  unfold cs_161 W161
  rw [if_pos hc]
  simp [tm_ap, fr_135, p36, wr_135]
theorem load_ok (h : Rel q t r 6 α β) (s e : Int32) (h0 : 0 ≤ s) (h6 : s < 6) (he0 : 0 ≤ e) (he : e = 0 ∨ β 81 0 s.toNatClampNeg = SL (β 52 0) e.toNatClampNeg) : ci_61 s.toNatClampNeg e α ∧ ci_161 s e β ∧ ∃ r', Rel q t r' 6 (cs_61 s.toNatClampNeg e α) (cs_161 s e β) := by
  obtain ⟨hi, hoi, hself, hself', g0, g1, g2, g3, g4, hs, l1, l5⟩ := pre h h0 h6
  obtain ⟨f1, f2, f3, f4, f5⟩ := h.2.2.2.2.2.1
  have hn := h.2.2.2.2.2.2.2.2.2.2 s.toNatClampNeg hi (by omega)
  by_cases hc : e < β 36 0 20
  · have hc' : e < α 12 0 5 := by rw [f1]; exact hc
    have he4 : e < 4 := by grind
    have hee := tn4 he0 he4
    obtain ⟨v1, v2⟩ := v58 (tm_wr (tm_wr α 34 s.toNatClampNeg 11 1) 34 s.toNatClampNeg 10 e) he0 (by grind)
    have e17 : tm_wr (tm_wr α 34 s.toNatClampNeg 11 1) 34 s.toNatClampNeg 10 e 17 = α 17 := by rw [tm_wr_ne (by decide), tm_wr_ne (by decide)]
    have sl : SL (α 17 0) e.toNatClampNeg = SL (β 52 0) e.toNatClampNeg := SL_cong _ (fun j hj => (f5 j (by omega)).2.1)
    rw [e17, sl] at v1
    have hb := SL_b3 (f := β 52 0) (fun e he => ⟨(f5 e he).2.2.2.2.2.1, (f5 e he).2.2.2.2.2.2⟩) e.toNatClampNeg (by omega)
    have hx : (if e = 0 then 0 else β 81 0 s.toNatClampNeg) = SL (β 52 0) e.toNatClampNeg := by
      split
      · rename_i hz; rw [hz]; rfl
      · rename_i hz; exact he.resolve_left hz
    refine ⟨⟨fun _ => v2, fun _ => ⟨by simpa [tm_ap] using ix4.mpr ⟨he0, he4⟩, ci_sc h (by simp [tm_ap])⟩⟩, ⟨fun _ => ix6.mpr ⟨h0, h6⟩, fun _ => ix4.mpr ⟨he0, he4⟩, fun _ => ci_sr h (by simp [tm_ap]) h0 h6, fun hq => absurd hc hq⟩, nx r, ?_⟩
    rw [nf_61 hc', nf_161 hc, hself', v1, hx, (f5 _ hee).1]
    have f51 := f5 _ hee
    generalize s.toNatClampNeg = i at *
    refine send_rel (Rel_w h hi (Or.inl rfl) 6 ?_ ?_ ?_ ?_ ?_) 8 s 0 0 (β 51 0 e.toNatClampNeg) 0 (mv_s h0 h6 (by decide) (by decide) (fun _ h => absurd h (by decide)) (fun _ => ⟨f51.2.2.2.1, f51.2.2.2.2.1⟩)) rfl
    · intro k j p h1 h2 h3 h4
      simp only [W61, tm_ap]
      grind
    · intro k j p h1 h2 h3
      simp only [W161, tm_ap]
      grind
    · simp [W61, W161, tm_ap, g4]
    · unfold RS at hs ⊢
      simp [W61, W161, tm_ap, tm_wr_ne, hoi] at hs ⊢
      grind
    · intro _
      unfold RN at hn ⊢
      simpa [W61, W161, tm_ap] using hn
  · have hc' : ¬ e < α 12 0 5 := by rw [f1]; exact hc
    refine ⟨⟨fun hq => absurd hq hc', fun hq => absurd hq hc'⟩, ⟨fun hq => absurd hq hc, fun hq => absurd hq hc, fun hq => absurd hq hc, fun _ => ix6.mpr ⟨h0, h6⟩⟩, r, ?_⟩
    unfold cs_61 cs_161
    rw [if_neg hc, if_neg hc']
    generalize s.toNatClampNeg = i at *
    refine Rel_w h hi (Or.inl rfl) 6 ?_ ?_ ?_ ?_ ?_
    · intro k j p h1 h2 h3 h4
      simp only [tm_ap]
      grind
    · intro k j p h1 h2 h3
      simp only [tm_ap]
      grind
    · simp [tm_ap, g4]
    · unfold RS at hs ⊢
      simp [tm_ap, tm_wr_ne, hoi] at hs ⊢
      grind
    · intro _
      unfold RN at hn ⊢
      simpa [tm_ap] using hn
end S2
