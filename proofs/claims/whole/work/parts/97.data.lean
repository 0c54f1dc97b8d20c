/-! A block of data arrives. -/
section DT
variable {q : Int32 × Nat} {t r w : Nat} {α β α' β' : tm_M}
theorem of_sub {a b : Nat} (h : b ≤ a) (ha : a < 2147483648) : Int32.ofNat a - Int32.ofNat b = Int32.ofNat (a - b) := by
  rw [tI_eq, tI_sub (by rw [tI_of ha, tI_of (by omega)]; omega) (by rw [tI_of ha, tI_of (by omega)]; omega), tI_of ha, tI_of (by omega), tI_of (by omega)]
  omega
theorem of_add {a b : Nat} (ha : a + b < 2147483648) : Int32.ofNat a + Int32.ofNat b = Int32.ofNat (a + b) := by
  rw [tI_eq, tI_add (by rw [tI_of (by omega), tI_of (by omega)]; omega) (by rw [tI_of (by omega), tI_of (by omega)]; omega), tI_of (by omega), tI_of (by omega), tI_of (by omega)]
  omega
theorem RS_4 {s : Nat} (h : RS α β s) : 0 ≤ β 81 0 s ∧ β 81 0 s ≤ 172 ∧ (β 76 0 s = 1 → 0 ≤ β 77 0 s ∧ β 77 0 s < β 36 0 20 ∧ β 82 0 s = SL (β 52 0) (β 77 0 s).toNatClampNeg ∧ β 82 0 s ≤ β 81 0 s ∧ β 81 0 s - β 82 0 s ≤ 40) := by
  obtain ⟨_, _, _, _, _, _, _, _, _, _, _, _, _, _, _, _, _, _, _, _, _, _, _, _, h5, h6, h7⟩ := h
  exact ⟨h5, h6, h7⟩
def XX (i m g d : Nat) (w7 w11 : Int32) (α : tm_M) : tm_M := tm_wr (tm_wr (tm_wr (tm_wr (A70 i m 0 g d α) 34 i 8 1) 34 i 9 (α 1 0 3 + 3)) 34 i 7 w7) 34 i 11 w11
def YY (i g d : Nat) (w7 w11 : Int32) (β : tm_M) : tm_M := tm_wr (tm_wr (tm_wr (tm_wr (B166 i 0 g d β) 79 0 i 1) 80 0 i (β 36 0 3 + 3)) 78 0 i w7) 76 0 i w11
theorem XY_ok (h : Rel q t r 6 α β) {i m g d v : Nat} (hi : i < 6) (hg : β 81 0 i = Int32.ofNat g) (hv : β 82 0 i = Int32.ofNat v) (hvg : v ≤ g) (hgd : g + d ≤ 172) (hr : β 76 0 i = 1) (hby : ∀ j, j < d → α 5 m j = β 84 0 j) (w7 w11 : Int32) (hw : w11 = 1 → g + d ≤ v + 40) : Rel q t r 6 (XX i m g d w7 w11 α) (YY i g d w7 w11 β) := by
  have hG := h.2.1
  have hs := h.2.2.2.2.2.2.2.2.2.1 i hi
  have hn := h.2.2.2.2.2.2.2.2.2.2 i hi (by omega)
  obtain ⟨g0, g1, g2, g3, g4, g5, g6, g7, g8, g9⟩ := hG
  have q35 : ∀ k, k < 172 → XX i m g d w7 w11 α 35 i k = YY i g d w7 w11 β 83 0 (240 * i + k) := by
    intro k hk
    have hs17 : α 35 i k = β 83 0 (240 * i + k) := by
      obtain ⟨_, _, _, _, _, _, _, _, _, _, _, _, _, _, _, _, x, _⟩ := hs
      exact x k hk
    have hL : XX i m g d w7 w11 α 35 i k = A70 i m 0 g d α 35 i k := by simp [XX, tm_ap]
    have hR : YY i g d w7 w11 β 83 0 (240 * i + k) = B166 i 0 g d β 83 0 (240 * i + k) := by simp [YY, tm_ap]
    rw [hL, hR]
    unfold A70 B166
    by_cases c : g ≤ k ∧ k < g + d
    · rw [if_neg (by omega), if_pos (by omega), if_neg (by omega), if_pos (by omega), hby _ (by omega)]
      congr 1; omega
    · rw [if_neg (by omega), if_neg (by omega), if_neg (by omega), if_neg (by omega)]
      exact hs17
  refine Rel_w h hi (Or.inl rfl) 6 ?_ ?_ ?_ ?_ ?_
  · intro k j p h1 h2 h3 h4
    simp only [XX, tm_ap]
    rw [if_neg (by omega), if_neg (by omega), if_neg (by omega), if_neg (by omega)]
    unfold A70
    rw [if_neg (by omega), if_neg (by omega)]
  · intro k j p h1 h2 h3
    simp only [YY, tm_ap]
    rw [if_neg (by omega), if_neg (by omega), if_neg (by omega), if_neg (by omega)]
    unfold B166
    rw [if_neg (by omega), if_neg (by omega)]
  · simp [XX, YY, tm_ap, A70, B166, g4]
  · have b1 : 0 ≤ Int32.ofNat (g + d) := of0 (by omega)
    have b2 : Int32.ofNat (g + d) ≤ 172 := by
      show Int32.ofNat (g + d) ≤ Int32.ofNat 172
      rw [of_le (by omega) (by decide)]; omega
    have b3 : Int32.ofNat v ≤ Int32.ofNat (g + d) := by rw [of_le (by omega) (by omega)]; omega
    have b4 : g + d ≤ v + 40 → Int32.ofNat (g + d) - Int32.ofNat v ≤ 40 := by
      intro hq
      rw [of_sub (by omega) (by omega)]
      show Int32.ofNat (g + d - v) ≤ Int32.ofNat 40
      rw [of_le (by omega) (by decide)]; omega
    unfold RS at hs ⊢
    obtain ⟨s1, s2, s3, s4, s5, s6, s7, s8, s9, s10, s11, s12, s13, s14, s15, s16, s17, s18, s19, s20, s21, s22, s23, s24, s25, s26, s27⟩ := hs
    obtain ⟨z1, z2, z3, z4, z5⟩ := s27 hr
    have Yk : ∀ κ, κ ∉ ([76, 78, 79, 80, 81, 83] : List Nat) → YY i g d w7 w11 β κ = β κ := by
      intro κ hκ
      simp only [List.mem_cons, List.not_mem_nil, or_false, not_or] at hκ
      funext j p
      simp [YY, tm_ap, B166, hκ]
    have Y76 : YY i g d w7 w11 β 76 0 i = w11 := by simp [YY, tm_ap]
    have Y78 : YY i g d w7 w11 β 78 0 i = w7 := by simp [YY, tm_ap]
    have Y79 : YY i g d w7 w11 β 79 0 i = 1 := by simp [YY, tm_ap]
    have Y80 : YY i g d w7 w11 β 80 0 i = β 36 0 3 + 3 := by simp [YY, tm_ap]
    have Y81 : YY i g d w7 w11 β 81 0 i = Int32.ofNat (g + d) := by simp [YY, tm_ap, B166]
    have X33 : XX i m g d w7 w11 α 33 = α 33 := by funext j p; simp [XX, tm_ap, A70]
    have X0 : XX i m g d w7 w11 α 34 i 0 = α 34 i 0 := by simp [XX, tm_ap, A70]
    have X5 : XX i m g d w7 w11 α 34 i 5 = Int32.ofNat (g + d) := by simp [XX, tm_ap, A70]
    have X6 : XX i m g d w7 w11 α 34 i 6 = α 34 i 6 := by simp [XX, tm_ap, A70]
    have X7 : XX i m g d w7 w11 α 34 i 7 = w7 := by simp [XX, tm_ap, A70]
    have X8 : XX i m g d w7 w11 α 34 i 8 = 1 := by simp [XX, tm_ap, A70]
    have X9 : XX i m g d w7 w11 α 34 i 9 = α 1 0 3 + 3 := by simp [XX, tm_ap, A70]
    have X10 : XX i m g d w7 w11 α 34 i 10 = α 34 i 10 := by simp [XX, tm_ap, A70]
    have X11 : XX i m g d w7 w11 α 34 i 11 = w11 := by simp [XX, tm_ap, A70]
    rw [X33, X0, X5, X6, X7, X8, X9, X10, X11, Y76, Y78, Y79, Y80, Y81, Yk 68 (by decide), Yk 69 (by decide), Yk 70 (by decide), Yk 72 (by decide), Yk 73 (by decide), Yk 74 (by decide), Yk 75 (by decide), Yk 77 (by decide), Yk 82 (by decide), Yk 36 (by decide), Yk 52 (by decide), g3]
    refine ⟨s1, s2, s3, s4, s5, s6, s7, s8, s9, rfl, s11, rfl, rfl, rfl, s15, rfl, q35, s18, s19, s20, s21, g7, s23, s24, b1, b2, fun hz => ⟨z1, z2, z3, ?_, ?_⟩⟩
    · rw [hv]; exact b3
    · rw [hv]; exact b4 (hw hz)
  · intro _
    unfold RN at hn ⊢
    simpa [XX, YY, tm_ap, A70, B166] using hn
theorem data_ok (h : Rel q t r 6 α β) (m : Nat) (hm : (α 2 0 2).toNatClampNeg = m) (s it b c : Int32) (h0 : 0 ≤ s) (h6 : s < 6) (e3 : α 4 m 3 = it) (e4 : α 4 m 4 = b) (e6 : α 4 m 6 = c) (hc0 : 0 ≤ c) (hc12 : c ≤ 12) (hit : 0 ≤ it ∧ it ≤ 3) (hby : ∀ j, j < c.toNatClampNeg → α 5 m j = β 84 0 j) (hr : β 76 0 s.toNatClampNeg = 1) (hit' : it = β 51 0 (β 77 0 s.toNatClampNeg).toNatClampNeg) (hb : b = β 78 0 s.toNatClampNeg) : ci_63 s.toNatClampNeg m α ∧ ci_166 s it b c β ∧ ∃ r', Rel q t r' 6 (cs_63 s.toNatClampNeg m α) (cs_166 s it b c β) := by
  obtain ⟨hi, hoi, hself, hself', g0, g1, g2, g3, g4, hs, l1, l5⟩ := pre h h0 h6
  obtain ⟨f1, f2, f3, f4, f5⟩ := h.2.2.2.2.2.1
  obtain ⟨d1, d2, d3, d4, d5, d6, d7⟩ := RS_2 hs
  obtain ⟨z0, z172, z1⟩ := RS_4 hs
  obtain ⟨n0, n1, n2, n3, n4⟩ := z1 hr
  have he4 : β 77 0 s.toNatClampNeg < 4 := by grind
  have hee := tn4 n0 he4
  have f51 := f5 _ hee
  have hb3 := SL_b3 (f := β 52 0) (fun e he => ⟨(f5 e he).2.2.2.2.2.1, (f5 e he).2.2.2.2.2.2⟩) (β 77 0 s.toNatClampNeg).toNatClampNeg (by omega)
  rw [← n2] at hb3
  have hg160 : β 81 0 s.toNatClampNeg < 161 := by grind
  obtain ⟨g, hg, hgb⟩ : ∃ g, β 81 0 s.toNatClampNeg = Int32.ofNat g ∧ g < 161 := ⟨_, (of_tn z0).symm, (tn_lt (n := 161) (by decide) z0).mpr hg160⟩
  obtain ⟨d, hd, hd12⟩ : ∃ d, c = Int32.ofNat d ∧ d < 13 := ⟨_, (of_tn hc0).symm, (tn_lt (n := 13) (by decide) hc0).mpr (by show c < 13; grind)⟩
  obtain ⟨v, hv, hvb⟩ : ∃ v, β 82 0 s.toNatClampNeg = Int32.ofNat v ∧ v < 121 := ⟨_, (of_tn hb3.1).symm, (tn_lt (n := 121) (by decide) hb3.1).mpr (by show _ < (121 : Int32); grind)⟩
  have hvg : v ≤ g := by rw [hg, hv, of_le (by omega) (by omega)] at n3; exact n3
  have hgv : g ≤ v + 40 := by
    rw [hg, hv, of_sub hvg (by omega)] at n4
    have : Int32.ofNat (g - v) ≤ Int32.ofNat 40 := n4
    rw [of_le (by omega) (by decide)] at this
    omega
  subst hd
  rw [tn_of (by omega : d < 2147483648)] at hby
  have L70 := lp_70 s.toNatClampNeg m d 64 0 g α (by omega) (by omega) (by omega) (d1.trans hg) (by rw [Nat.zero_add]; exact e6)
  have L166 := lp_166 s it b h0 h6 d 64 0 g β (by omega) (by omega) (by omega) hg
  rw [Nat.zero_add] at L166
  have hXY := XY_ok (m := m) h hi hg hv hvg (by omega : g + d ≤ 172) hr hby
  have u7 : α 34 s.toNatClampNeg 7 = b := by rw [d3, hb]
  generalize hii : s.toNatClampNeg = i at *
  have hP : ∀ w7 w11, tm_wr (tm_wr (cs_72 i (cs_117 10 s 0 0 it b (A70 i m 0 g d α))) 34 i 7 w7) 34 i 11 w11 = cs_117 10 s 0 0 it b (XX i m g d w7 w11 α) := by
    intro w7 w11
    unfold cs_72 XX
    simp [fr_117, wr_117, A70]
  have hN : ∀ w7 w11, tm_wr (tm_wr (tm_wr (tm_wr (cs_135 10 s 0 it b (B166 i 0 g d β)) 79 0 i 1) 80 0 i (β 36 0 3 + 3)) 78 0 i w7) 76 0 i w11 = cs_135 10 s 0 it b (YY i g d w7 w11 β) := by
    intro w7 w11
    unfold YY
    simp [wr_135]
  have hPN : ∀ w7 w11, (w11 = 1 → g + d ≤ v + 40) → Rel q t (nx r) 6 (tm_wr (tm_wr (cs_72 i (cs_117 10 s 0 0 it b (A70 i m 0 g d α))) 34 i 7 w7) 34 i 11 w11) (tm_wr (tm_wr (tm_wr (tm_wr (cs_135 10 s 0 it b (B166 i 0 g d β)) 79 0 i 1) 80 0 i (β 36 0 3 + 3)) 78 0 i w7) 76 0 i w11) := by
    intro w7 w11 hw
    rw [hP, hN]
    exact send_rel (hXY w7 w11 hw) 10 s 0 0 it b (mv_s h0 h6 (by decide) (by decide) (fun _ h => absurd h (by decide)) (fun _ => hit)) rfl
  have hN0 : cs_135 10 s 0 it b (B166 i 0 g d β) 36 0 3 = β 36 0 3 := by
    rw [p36 _ _ _ _ _ _ _ (by decide)]
    simp [B166]
  have hA0 : A70 i m 0 g d α 34 i 0 = s := by simp [A70, hself']
  have hA3 : A70 i m 0 g d α 4 m 3 = it := by simp [A70, e3]
  have hA4 : A70 i m 0 g d α 4 m 4 = b := by simp [A70, e4]
  have cc : ¬ (¬ α 34 i 11 = 1 ∨ ¬ α 4 m 3 = α 16 0 (α 34 i 10).toNatClampNeg ∨ ¬ α 4 m 4 = α 34 i 7) := by
    rw [d7, hr, e3, d6, f51.1, e4, u7, ← hit']
    simp
  have ciC : ci_117 10 s 0 0 it b (A70 i m 0 g d α) := ci_sc h (by simp [A70])
  have ciR : ci_135 10 s 0 it b (B166 i 0 g d β) := ci_sr h (by simp [B166]) h0 h6
  have hcr : cs_166 s it b (Int32.ofNat d) β = cs_166_3 s it b (Int32.ofNat d) 1 (Int32.ofNat d) (B166 i 0 g d β) := L166.1
  have hic : ci_166_3 s it b (Int32.ofNat d) 1 (Int32.ofNat d) (B166 i 0 g d β) → ci_166 s it b (Int32.ofNat d) β := L166.2
  have hdd : Int32.ofNat d ≤ Int32.ofNat d := by rw [of_le (by omega) (by omega)]; omega
  have h70 : cs_70 i m α = A70 i m 0 g d α := L70.1
  rw [hcr]
  unfold cs_63 ci_63
  rw [if_neg cc, h70, hA0, hA3, hA4]
  generalize hPd : cs_72 i (cs_117 10 s 0 0 it b (A70 i m 0 g d α)) = P at *
  have p7 : P 34 i 7 = b := by rw [← hPd]; unfold cs_72; simp [tm_ap, fr_117, A70, u7]
  have p11 : P 34 i 11 = 1 := by rw [← hPd]; unfold cs_72; simp [tm_ap, fr_117, A70, d7, hr]
  have p10 : P 34 i 10 = β 77 0 i := by rw [← hPd]; unfold cs_72; simp [tm_ap, fr_117, A70, d6]
  have p5 : P 34 i 5 = Int32.ofNat (g + d) := by rw [← hPd]; unfold cs_72; simp [tm_ap, fr_117, A70]
  have p6 : P 34 i 6 = Int32.ofNat v := by rw [← hPd]; unfold cs_72; simp [tm_ap, fr_117, A70, d2, hv]
  have p2 : P 1 0 2 = β 36 0 2 := by rw [← hPd]; unfold cs_72; simp [tm_ap, fr_117, A70, g2]
  have p17 : P 17 0 = α 17 0 := by rw [← hPd]; funext p; unfold cs_72; simp [tm_ap, fr_117, A70]
  have p18 : P 18 0 = α 18 0 := by rw [← hPd]; funext p; unfold cs_72; simp [tm_ap, fr_117, A70]
  have p35 : P 35 i = XX i m g d 0 0 α 35 i := by
    rw [← hPd]; funext p; unfold cs_72 XX; simp [tm_ap, fr_117]
  have p46 : P 4 m 6 = Int32.ofNat d := by
    have hW : RW r (A70 i m 0 g d α) β := RW_fr h.2.2.2.1 (by funext a b; simp [A70]) (by funext a b; simp [A70]) (by funext a b; simp [A70]) (by funext a b; simp [A70]) rfl rfl rfl rfl rfl rfl rfl rfl rfl rfl
    have o := out_117 hW 10 s 0 0 it b
    have e2 : (A70 i m 0 g d α 2 0 2).toNatClampNeg = m := by
      have : A70 i m 0 g d α 2 0 2 = α 2 0 2 := by simp [A70]
      rw [this, hm]
    rw [e2] at o
    have o6 := congrFun o 6
    rw [← hPd]
    unfold cs_72
    simp only [tm_ap]
    rw [if_neg (by omega), if_neg (by omega), o6]
    simpa [A70] using e6
  rw [p46, p2]
  have hR0 := hPN b 1
  have hcR : cs_166_3 s it b (Int32.ofNat d) 1 (Int32.ofNat d) (B166 i 0 g d β) = (if Int32.ofNat d = β 36 0 2 then (tm_wr (tm_wr (tm_wr (tm_wr (cs_135 10 s 0 it b (B166 i 0 g d β)) 79 0 i 1) 80 0 i (β 36 0 3 + 3)) 78 0 i (b + 1)) 76 0 i (if Int32.ofNat (g + d) - Int32.ofNat v ≤ 40 then 1 else 4)) else cs_166_148 s it b (Int32.ofNat d) 64 (Int32.ofNat (g + d) - Int32.ofNat v) (-1) (Int32.ofNat v) (tm_wr (tm_wr (cs_135 10 s 0 it b (B166 i 0 g d β)) 79 0 i 1) 80 0 i (β 36 0 3 + 3))) := by
    rw [cs_166_3, if_pos hdd, hii, hN0, p36 _ _ _ _ _ _ _ (by decide)]
    have b1 : cs_135 10 s 0 it b (B166 i 0 g d β) 78 0 i = b := by simp [fr_135, B166, hb]
    have b2 : cs_135 10 s 0 it b (B166 i 0 g d β) 81 0 i = Int32.ofNat (g + d) := by simp [fr_135, B166]
    have b3 : cs_135 10 s 0 it b (B166 i 0 g d β) 82 0 i = Int32.ofNat v := by simp [fr_135, B166, hv]
    have b4 : cs_135 10 s 0 it b (B166 i 0 g d β) 76 0 i = 1 := by simp [fr_135, B166, hr]
    have b5 : B166 i 0 g d β 36 0 2 = β 36 0 2 := by simp [B166]
    rw [b1, b2, b3, b4, b5]
  have hcI : (Int32.ofNat d ≠ β 36 0 2 → ci_166_148 s it b (Int32.ofNat d) 64 (Int32.ofNat (g + d) - Int32.ofNat v) (-1) (Int32.ofNat v) (tm_wr (tm_wr (cs_135 10 s 0 it b (B166 i 0 g d β)) 79 0 i 1) 80 0 i (β 36 0 3 + 3))) → ci_166_3 s it b (Int32.ofNat d) 1 (Int32.ofNat d) (B166 i 0 g d β) := by
    intro hq
    have b2 : cs_135 10 s 0 it b (B166 i 0 g d β) 81 0 i = Int32.ofNat (g + d) := by simp [fr_135, B166]
    have b3 : cs_135 10 s 0 it b (B166 i 0 g d β) 82 0 i = Int32.ofNat v := by simp [fr_135, B166, hv]
    have b5 : B166 i 0 g d β 36 0 2 = β 36 0 2 := by simp [B166]
    rw [ci_166_3, hii, hN0, p36 _ _ _ _ _ _ _ (by decide), b2, b3, b5]
    exact ⟨fun _ => ciR, fun _ => ix6.mpr ⟨h0, h6⟩, fun _ hz => hq hz, fun hz => absurd hdd hz, fun hz => absurd hdd hz, fun hz => absurd hdd hz, fun hz => absurd hdd hz⟩
  rw [hcR]
  have i4 : tm_ix (β 77 0 i) 4 = true := ix4.mpr ⟨n0, he4⟩
  by_cases hsz : Int32.ofNat d = β 36 0 2
  · rw [if_pos hsz, if_pos hsz]
    refine ⟨⟨fun _ => by rw [d6]; exact i4, fun _ => L70.2, fun _ => ciC, fun _ hz => absurd hsz hz, fun _ hz => absurd hsz hz⟩, hic (hcI (fun hz => absurd hsz hz)), nx r, ?_⟩
    have e67 : cv_67 i (tm_wr P 34 i 7 (P 34 i 7 + 1)) = Int32.ofNat (g + d) - Int32.ofNat v := by
      unfold cv_67
      simp [tm_ap, p5, p6]
    rw [e67, p7]
    refine hPN (b + 1) _ ?_
    intro hz
    by_cases hq : Int32.ofNat (g + d) - Int32.ofNat v ≤ 40
    · rw [of_sub (by omega) (by omega)] at hq
      have : Int32.ofNat (g + d - v) ≤ Int32.ofNat 40 := hq
      rw [of_le (by omega) (by decide)] at this
      omega
    · rw [if_neg hq] at hz
      exact absurd hz (by decide)
  · rw [if_neg hsz, if_neg hsz]
    have K := lp_52k35 i (Int32.ofNat v) P (g + d - v) 64 v (-1) (by omega) (by omega)
    have ev : v + (g + d - v) = g + d := by omega
    rw [ev] at K
    have N81 : tm_wr (tm_wr (cs_135 10 s 0 it b (B166 i 0 g d β)) 79 0 i 1) 80 0 i (β 36 0 3 + 3) 81 0 s.toNatClampNeg = Int32.ofNat (v + (g + d - v)) := by
      rw [hii, ev]; simp [tm_ap, fr_135, B166]
    have M := lp_148 s h0 h6 it b (Int32.ofNat d) (Int32.ofNat (g + d) - Int32.ofNat v) (tm_wr (tm_wr (cs_135 10 s 0 it b (B166 i 0 g d β)) 79 0 i 1) 80 0 i (β 36 0 3 + 3)) (g + d - v) 64 v (-1) (by omega) (by omega) N81
    rw [hii] at M
    have m77 : tm_wr (tm_wr (cs_135 10 s 0 it b (B166 i 0 g d β)) 79 0 i 1) 80 0 i (β 36 0 3 + 3) 77 0 i = β 77 0 i := by simp [tm_ap, fr_135, B166]
    have m52 : ∀ p, tm_wr (tm_wr (cs_135 10 s 0 it b (B166 i 0 g d β)) 79 0 i 1) 80 0 i (β 36 0 3 + 3) 52 0 p = β 52 0 p := by intro p; simp [tm_ap, fr_135, B166]
    have m53 : ∀ p, tm_wr (tm_wr (cs_135 10 s 0 it b (B166 i 0 g d β)) 79 0 i 1) 80 0 i (β 36 0 3 + 3) 53 0 p = β 53 0 p := by intro p; simp [tm_ap, fr_135, B166]
    have mx : MX (fun k => tm_wr (tm_wr (cs_135 10 s 0 it b (B166 i 0 g d β)) 79 0 i 1) 80 0 i (β 36 0 3 + 3) 83 0 (240 * i + k)) (g + d - v) v (-1) = MX (P 35 i) (g + d - v) v (-1) := by
      refine MX_cong _ _ _ (fun k h1 h2 => ?_)
      have hs35 : XX i m g d 0 0 α 35 i k = YY i g d 0 0 β 83 0 (240 * i + k) := by
        have := (hXY 0 0 (fun hz => absurd hz (by decide))).2.2.2.2.2.2.2.2.2.1 i hi
        obtain ⟨_, _, _, _, _, _, _, _, _, _, _, _, _, _, _, _, x, _⟩ := this
        exact x k (by omega)
      rw [p35, hs35]
      unfold YY
      simp [tm_ap, fr_135]
    rw [m77, m52, m53, mx] at M
    rw [M.1]
    have hv69 : cv_69 i P = (if Int32.ofNat (g + d) - Int32.ofNat v = β 52 0 (β 77 0 i).toNatClampNeg then (if MX (P 35 i) (g + d - v) v (-1) ^^^ (-1) = β 53 0 (β 77 0 i).toNatClampNeg then 1 else 5) else 4) := by
      unfold cv_69 cv_67 cv_52k35
      rw [p5, p6, p10, p17, p18, f51.2.1, f51.2.2.1, K.1]
    have ci69 : ci_69 i P := by
      unfold ci_69 ci_52k35
      rw [p5, p6, p10]
      exact ⟨i4, fun _ => K.2⟩
    have w7e : ∀ w : Int32, tm_wr (tm_wr P 34 i 7 b) 34 i 11 w = tm_wr P 34 i 11 w := by
      intro w
      rw [← p7, tm_id]
    have w8e : ∀ w : Int32, tm_wr (tm_wr (tm_wr (tm_wr (cs_135 10 s 0 it b (B166 i 0 g d β)) 79 0 i 1) 80 0 i (β 36 0 3 + 3)) 78 0 i b) 76 0 i w = tm_wr (tm_wr (tm_wr (cs_135 10 s 0 it b (B166 i 0 g d β)) 79 0 i 1) 80 0 i (β 36 0 3 + 3)) 76 0 i w := by
      intro w
      have hM : tm_wr (tm_wr (cs_135 10 s 0 it b (B166 i 0 g d β)) 79 0 i 1) 80 0 i (β 36 0 3 + 3) 78 0 i = b := by simp [tm_ap, fr_135, B166, hb]
      have e := tm_id (tm_wr (tm_wr (cs_135 10 s 0 it b (B166 i 0 g d β)) 79 0 i 1) 80 0 i (β 36 0 3 + 3)) 78 0 i
      rw [hM] at e
      rw [e]
    have hPN' := fun w hw => hPN b w hw
    simp only [w7e, w8e] at hPN'
    rw [hv69]
    by_cases k1 : Int32.ofNat (g + d) - Int32.ofNat v = β 52 0 (β 77 0 i).toNatClampNeg
    · by_cases k2 : MX (P 35 i) (g + d - v) v (-1) ^^^ (-1) = β 53 0 (β 77 0 i).toNatClampNeg
      · simp only [if_pos k1, if_pos k2]
        have hle : g + d ≤ v + 40 := by
          have k3 := f51.2.2.2.2.2.2
          rw [← k1, of_sub (by omega) (by omega)] at k3
          have : Int32.ofNat (g + d - v) ≤ Int32.ofNat 40 := k3
          rw [of_le (by omega) (by decide)] at this
          omega
        have hR1 := hPN' 1 (fun _ => hle)
        have w9 : tm_wr (tm_wr (tm_wr (cs_135 10 s 0 it b (B166 i 0 g d β)) 79 0 i 1) 80 0 i (β 36 0 3 + 3)) 76 0 i 1 = tm_wr (tm_wr (cs_135 10 s 0 it b (B166 i 0 g d β)) 79 0 i 1) 80 0 i (β 36 0 3 + 3) := by
          have hM : tm_wr (tm_wr (cs_135 10 s 0 it b (B166 i 0 g d β)) 79 0 i 1) 80 0 i (β 36 0 3 + 3) 76 0 i = 1 := by simp [tm_ap, fr_135, B166, hr]
          have e := tm_id (tm_wr (tm_wr (cs_135 10 s 0 it b (B166 i 0 g d β)) 79 0 i 1) 80 0 i (β 36 0 3 + 3)) 76 0 i
          rw [hM] at e
          exact e
        rw [w9] at hR1
        have e1 : (β 77 0 i + 1).toNatClampNeg = (β 77 0 i).toNatClampNeg + 1 := tn_add1 n0 (by grind)
        have hload := load_ok hR1 s (β 77 0 i + 1) h0 h6 (by grind) (Or.inr (by
          rw [hii, e1]
          have m52' : tm_wr (tm_wr (cs_135 10 s 0 it b (B166 i 0 g d β)) 79 0 i 1) 80 0 i (β 36 0 3 + 3) 52 0 = β 52 0 := by funext p; exact m52 p
          rw [m52']
          show _ = SL (β 52 0) (β 77 0 i).toNatClampNeg + β 52 0 (β 77 0 i).toNatClampNeg
          have N81' : tm_wr (tm_wr (cs_135 10 s 0 it b (B166 i 0 g d β)) 79 0 i 1) 80 0 i (β 36 0 3 + 3) 81 0 i = Int32.ofNat (g + d) := by simp [tm_ap, fr_135, B166]
          rw [← n2, ← k1, hv, N81']
          grind))
        rw [hii] at hload
        obtain ⟨y1, y2, y3⟩ := hload
        rw [p10]
        have M2 := M.2 i4 (fun _ _ => y2)
        exact ⟨⟨fun _ => by rw [d6]; exact i4, fun _ => L70.2, fun _ => ciC, fun _ _ => ci69, fun _ _ _ => y1⟩, hic (hcI (fun _ => M2)), y3⟩
      · simp only [if_pos k1, if_neg k2]
        have M2 := M.2 i4 (fun _ hz => absurd hz k2)
        exact ⟨⟨fun _ => by rw [d6]; exact i4, fun _ => L70.2, fun _ => ciC, fun _ _ => ci69, fun _ _ hz => absurd hz (by decide)⟩, hic (hcI (fun _ => M2)), _, hPN' 5 (fun hz => absurd hz (by decide))⟩
    · simp only [if_neg k1]
      have M2 := M.2 i4 (fun hz => absurd hz k1)
      exact ⟨⟨fun _ => by rw [d6]; exact i4, fun _ => L70.2, fun _ => ciC, fun _ _ => ci69, fun _ _ hz => absurd hz (by decide)⟩, hic (hcI (fun _ => M2)), _, hPN' 4 (fun hz => absurd hz (by decide))⟩
end DT
