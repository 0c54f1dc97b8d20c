/-! Transfers. -/
section TR
variable {q : Int32 × Nat} {t r w : Nat} {α β α' β' : tm_M}
theorem of_min {a b : Nat} (ha : a < 2147483648) (hb : b < 2147483648) : (if Int32.ofNat a < Int32.ofNat b then Int32.ofNat a else Int32.ofNat b) = Int32.ofNat (min a b) := by
  by_cases h : a < b
  · rw [if_pos (by rw [of_lt ha hb]; exact h), Nat.min_eq_left (by omega)]
  · rw [if_neg (by rw [of_lt ha hb]; exact h), Nat.min_eq_right (by omega)]
theorem Z46_V48 (x f fr nn : Nat) (μ : tm_M) : Z46 x f fr nn μ = tm_wr (V48 x f fr nn 0 μ) 46 0 x (Int32.ofNat nn) := by
  funext k j p
  unfold Z46 V48
  simp only [tm_ap]
  repeat' split
  all_goals first
    | rfl
    | (exfalso; omega)
theorem wr_V48 {k : Nat} (h1 : k ≠ 48) (h2 : k ≠ 50) (x f fr nn l : Nat) (μ : tm_M) (i p : Nat) (y : Int32) : tm_wr (V48 x f fr nn l μ) k i p y = V48 x f fr nn l (tm_wr μ k i p y) := by
  funext a b c
  unfold V48
  simp only [tm_ap]
  by_cases ha : a = 48 ∧ b = 0 ∧ 12 * x + l ≤ c ∧ c < 12 * x + nn
  · rw [if_neg (by omega), if_pos ha, if_pos ha, if_neg (by omega)]
  · rw [if_neg ha, if_neg ha]
theorem block_ok (h : Rel q t r w α β) (s : Int32) (h0 : 0 ≤ s) (h6 : s < 6) {f bk : Nat} {tr : Int32} (hf : f < 4) (hb1 : 1 ≤ bk) (hb11 : bk ≤ 11) (hlen : (Int32.ofNat bk - 1) * β 36 0 2 ≤ β 49 0 f) (htr : tr ≤ β 36 0 1) (α1 β1 : tm_M)
    (fa : ∀ k, k ≠ 21 → α1 k = α k) (fa' : ∀ j, j ≠ s.toNatClampNeg → α1 21 j = α 21 j) (fb : ∀ k, k ≠ 62 → k ≠ 63 → k ≠ 65 → β1 k = β k) (fb' : ∀ k j, j ≠ s.toNatClampNeg → β1 k 0 j = β k 0 j)
    (a0 : α1 21 s.toNatClampNeg 0 = 1) (a1 : α1 21 s.toNatClampNeg 1 = Int32.ofNat f) (a2 : α1 21 s.toNatClampNeg 2 = Int32.ofNat bk) (a3 : α1 21 s.toNatClampNeg 3 = tr)
    (b2 : β1 62 0 s.toNatClampNeg = Int32.ofNat f + 1) (b3 : β1 63 0 s.toNatClampNeg = Int32.ofNat bk) (b5 : β1 65 0 s.toNatClampNeg + 1 = tr) :
    ci_95 s s.toNatClampNeg α1 ∧ ci_152 s β1 ∧ Rel q t (nx r) w (cs_95 s s.toNatClampNeg α1) (cs_152 s β1) := by
  have hG := h.2.1
  obtain ⟨g0, g1, g2, g3, g4, g5, g6, g7, g8, g9, g10, g11⟩ := hG
  have hi := tn6 h0 h6
  have ix : tm_ix s 6 = true := ix6.mpr ⟨h0, h6⟩
  have hFf := h.2.2.2.2.2.1.2.2.2.1 f hf
  obtain ⟨F1, F2, F3, F4⟩ := hFf
  obtain ⟨sz, hsz, hszb⟩ : ∃ sz, β 36 0 2 = Int32.ofNat sz ∧ sz < 13 := ⟨_, (of_tn (by grind : (0 : Int32) ≤ β 36 0 2)).symm, (tn_lt (n := 13) (by decide) (by grind)).mpr (by show β 36 0 2 < 13; grind)⟩
  have hsz4 : 4 ≤ sz := by
    rw [hsz] at g9
    have : Int32.ofNat 4 ≤ Int32.ofNat sz := g9
    rw [of_le (by decide) (by omega)] at this
    exact this
  obtain ⟨ln, hln, hlnb⟩ : ∃ ln, β 49 0 f = Int32.ofNat ln ∧ ln < 41 := ⟨_, (of_tn F2).symm, (tn_lt (n := 41) (by decide) F2).mpr (by show β 49 0 f < 41; grind)⟩
  have e1 : Int32.ofNat bk - 1 = Int32.ofNat (bk - 1) := of_sub (b := 1) hb1 (by omega)
  have hprod : (bk - 1) * sz ≤ 10 * 12 := Nat.mul_le_mul (by omega) (by omega)
  have efr : (Int32.ofNat bk - 1) * β 36 0 2 = Int32.ofNat ((bk - 1) * sz) := by rw [e1, hsz, of_mul (by omega) (by omega) (by omega)]
  have hfl : (bk - 1) * sz ≤ ln := by
    rw [efr, hln, of_le (by omega) (by omega)] at hlen
    exact hlen
  obtain ⟨fr, hfr⟩ : ∃ fr, fr = (bk - 1) * sz := ⟨_, rfl⟩
  rw [← hfr] at efr hfl hprod
  obtain ⟨nn, hnn⟩ : ∃ nn, nn = min (ln - fr) sz := ⟨_, rfl⟩
  have hnn1 : fr + nn ≤ 40 := by omega
  have hnn2 : nn ≤ 12 := by omega
  have hbs : bk * sz = fr + sz := by
    obtain ⟨b', rfl⟩ : ∃ b', bk = b' + 1 := ⟨bk - 1, by omega⟩
    rw [hfr, Nat.add_sub_cancel, Nat.succ_mul]
  -- the memories with the transfer's fields set
  have hR : Rel q t r w (tm_wr (tm_wr α1 21 s.toNatClampNeg 5 (Int32.ofNat nn)) 21 s.toNatClampNeg 4 (β 36 0 3 + 3)) (tm_wr (tm_wr (tm_wr β1 64 0 s.toNatClampNeg (Int32.ofNat nn)) 65 0 s.toNatClampNeg tr) 66 0 s.toNatClampNeg (β 36 0 3 + 3)) := by
    have fB : ∀ k, k ∉ ([62, 63, 64, 65, 66] : List Nat) → tm_wr (tm_wr (tm_wr β1 64 0 s.toNatClampNeg (Int32.ofNat nn)) 65 0 s.toNatClampNeg tr) 66 0 s.toNatClampNeg (β 36 0 3 + 3) k = β k := by
      intro k hk
      simp only [List.mem_cons, List.not_mem_nil, or_false, not_or] at hk
      rw [tm_wr_ne (by omega), tm_wr_ne (by omega), tm_wr_ne (by omega), fb k (by omega) (by omega) (by omega)]
    have fA : ∀ k, k ≠ 21 → tm_wr (tm_wr α1 21 s.toNatClampNeg 5 (Int32.ofNat nn)) 21 s.toNatClampNeg 4 (β 36 0 3 + 3) k = α k := by
      intro k hk
      rw [tm_wr_ne (by omega), tm_wr_ne (by omega), fa k hk]
    refine Rel_sv h ?_ ?_ ?_ ?_ ?_ ?_
    · intro k hk
      simp only [List.mem_cons, List.not_mem_nil, or_false, not_or] at hk
      exact fA k (by omega)
    · intro k hk
      exact fB k (nin_of hk (by decide))
    · intro p hp
      rw [fB 36 (by decide)]
    · exact RB_fr h.2.2.2.2.2.2.1 (fA _ (by decide)) (fA _ (by decide)) (fA _ (by decide)) (fA _ (by decide)) (fA _ (by decide)) (by rw [fB 36 (by decide)]) (fB _ (by decide)) (fB _ (by decide)) (fB _ (by decide)) (fB _ (by decide)) (fB _ (by decide))
    · exact RJ_fr h.2.2.2.2.2.2.2.1 (fA _ (by decide)) (fA _ (by decide)) (fA _ (by decide)) (fA _ (by decide)) (by rw [fB 36 (by decide)]) (fB _ (by decide)) (fB _ (by decide)) (fB _ (by decide))
    · intro j hj
      by_cases hjs : j = s.toNatClampNeg
      · subst hjs
        unfold RT
        rw [fB 36 (by decide), fB 49 (by decide)]
        simp only [tm_ap]
        simp [a0, a1, a2, a3, b2, b3]
        refine ⟨htr, of0 (by omega), ?_, ?_, ?_, ?_, ?_⟩
        · show Int32.ofNat f ≤ Int32.ofNat 3
          rw [of_le (by omega) (by decide)]; omega
        · show Int32.ofNat 1 ≤ Int32.ofNat bk
          rw [of_le (by decide) (by omega)]; exact hb1
        · show Int32.ofNat bk ≤ Int32.ofNat 11
          rw [of_le (by omega) (by decide)]; exact hb11
        · rw [tn_of (by omega : f < 2147483648)]; exact hlen
        · intro hz
          rw [tn_of (by omega : f < 2147483648), hsz, hln, of_mul (by omega) (by omega) (by omega), hbs, of_le (by omega) (by omega)]
          rw [hsz, of_le (by omega) (by omega)] at hz
          omega
      · refine RT_fr (h.2.2.2.2.2.2.2.2.1 j hj) ?_ (by rw [fB 36 (by decide)]) (by rw [fB 36 (by decide)]) (fB _ (by decide)) ?_ ?_ ?_ ?_ ?_
        · funext p
          simp only [tm_ap]
          rw [if_neg (by omega), if_neg (by omega), fa' j hjs]
        · simp only [tm_ap]
          rw [if_neg (by omega), if_neg (by omega), if_neg (by omega), fb' _ j hjs]
        · simp only [tm_ap]
          rw [if_neg (by omega), if_neg (by omega), if_neg (by omega), fb' _ j hjs]
        · simp only [tm_ap]
          rw [if_neg (by omega), if_neg (by omega), if_neg (by omega), fb' _ j hjs]
        · simp only [tm_ap]
          rw [if_neg (by omega), if_neg (by omega), if_neg (by omega), fb' _ j hjs]
        · simp only [tm_ap]
          rw [if_neg (by omega), if_neg (by omega), if_neg (by omega), fb' _ j hjs]
  have P := pd_ok hR s (Int32.ofNat bk) h0 h6 hf hnn1 hnn2
  -- the class
  have c21 : cs_96 9 s 0 (Int32.ofNat f) (Int32.ofNat bk) α1 21 = α1 21 := fr_96 _ _ _ _ _ _ 21 (by decide)
  have c1 : cs_96 9 s 0 (Int32.ofNat f) (Int32.ofNat bk) α1 1 = α 1 := by rw [fr_96 _ _ _ _ _ _ 1 (by decide), fa 1 (by decide)]
  have c15 : cs_96 9 s 0 (Int32.ofNat f) (Int32.ofNat bk) α1 15 = α 15 := by rw [fr_96 _ _ _ _ _ _ 15 (by decide), fa 15 (by decide)]
  have tf : (Int32.ofNat f).toNatClampNeg = f := tn_of (by omega)
  have m1 : (if Int32.ofNat ln < Int32.ofNat fr then Int32.ofNat ln else Int32.ofNat fr) = Int32.ofNat fr := by
    rw [of_min (by omega) (by omega)]; congr 1; omega
  have m2 : (if Int32.ofNat ln - Int32.ofNat fr < Int32.ofNat sz then Int32.ofNat ln - Int32.ofNat fr else Int32.ofNat sz) = Int32.ofNat nn := by
    rw [of_sub hfl (by omega), of_min (by omega) (by omega), hnn]
  have E56 : ∀ id, cs_56 (Int32.ofNat f) (Int32.ofNat bk) (β 36 0 2) id (cs_96 9 s 0 (Int32.ofNat f) (Int32.ofNat bk) α1) = tm_wr (tm_cb (cs_96 9 s 0 (Int32.ofNat f) (Int32.ofNat bk) α1) 14 f 5 id fr 0 nn) 4 id 6 (Int32.ofNat nn) := by
    intro id
    unfold cs_56 cs_74k14
    rw [tf, c15, F1, efr, hln, hsz, m1, m2, tn_of (by omega : fr < 2147483648), tn_of (by omega : nn < 2147483648)]
  have hcv : cv_96 9 s 0 (Int32.ofNat f) (Int32.ofNat bk) (tm_wr (tm_wr α1 21 s.toNatClampNeg 5 (Int32.ofNat nn)) 21 s.toNatClampNeg 4 (β 36 0 3 + 3)) = cv_96 9 s 0 (Int32.ofNat f) (Int32.ofNat bk) α1 := by
    unfold cv_96 cv_117
    simp only [tm_wr_ne (show (2 : Nat) ≠ 21 by decide), tm_wr_ne (show (3 : Nat) ≠ 21 by decide)]
  have EC : cs_95 s s.toNatClampNeg α1 = tm_wr (tm_cb (cs_96 9 s 0 (Int32.ofNat f) (Int32.ofNat bk) (tm_wr (tm_wr α1 21 s.toNatClampNeg 5 (Int32.ofNat nn)) 21 s.toNatClampNeg 4 (β 36 0 3 + 3))) 14 f 5 (cv_96 9 s 0 (Int32.ofNat f) (Int32.ofNat bk) (tm_wr (tm_wr α1 21 s.toNatClampNeg 5 (Int32.ofNat nn)) 21 s.toNatClampNeg 4 (β 36 0 3 + 3))) fr 0 nn) 4 (cv_96 9 s 0 (Int32.ofNat f) (Int32.ofNat bk) (tm_wr (tm_wr α1 21 s.toNatClampNeg 5 (Int32.ofNat nn)) 21 s.toNatClampNeg 4 (β 36 0 3 + 3))) 6 (Int32.ofNat nn) := by
    unfold cs_95
    rw [a1, a2, c21, a1, a2, c1, g2, E56, hcv]
    generalize cv_96 9 s 0 (Int32.ofNat f) (Int32.ofNat bk) α1 = id
    have e46 : tm_wr (tm_cb (cs_96 9 s 0 (Int32.ofNat f) (Int32.ofNat bk) α1) 14 f 5 id fr 0 nn) 4 id 6 (Int32.ofNat nn) 4 id 6 = Int32.ofNat nn := by simp [tm_ap]
    have e13 : tm_wr (tm_cb (cs_96 9 s 0 (Int32.ofNat f) (Int32.ofNat bk) α1) 14 f 5 id fr 0 nn) 4 id 6 (Int32.ofNat nn) 1 0 3 = β 36 0 3 := by
      rw [tm_wr_ne (by decide), tm_cb_ne (by decide), c1, g3]
    rw [e46, e13, tm_cm (by decide : (21 : Nat) ≠ 4), tm_cm (by decide : (21 : Nat) ≠ 4), wr_cb (by decide) (by decide), wr_cb (by decide) (by decide), wr_96 (by decide) (by decide) (by decide) (by decide), wr_96 (by decide) (by decide) (by decide) (by decide)]
  -- the reference
  have d62 : β1 62 0 s.toNatClampNeg - 1 = Int32.ofNat f := by rw [b2]; grind
  have d36 : β1 36 = β 36 := fb 36 (by decide) (by decide) (by decide)
  have d49 : β1 49 = β 49 := fb 49 (by decide) (by decide) (by decide)
  have mr : (if (0 : Int32) ≤ Int32.ofNat ln - Int32.ofNat fr then ((if Int32.ofNat ln - Int32.ofNat fr ≤ Int32.ofNat sz then Int32.ofNat ln - Int32.ofNat fr else Int32.ofNat sz) : Int32) else 0) = Int32.ofNat nn := by
    rw [of_sub hfl (by omega), if_pos (of0 (by omega))]
    by_cases hz : ln - fr ≤ sz
    · rw [if_pos (by rw [of_le (by omega) (by omega)]; exact hz), hnn]; congr 1; omega
    · rw [if_neg (by rw [of_le (by omega) (by omega)]; exact hz), hnn]; congr 1; omega
  have hW := h.2.2.2.1
  have e9 := hW.2.2.1
  have hr32 := hW.1
  have ciR : ci_135 9 s 0 (Int32.ofNat f) (Int32.ofNat bk) β1 := ci_sr h (by rw [d36]) h0 h6
  have ciC : ci_96 9 s 0 (Int32.ofNat f) (Int32.ofNat bk) α1 := ⟨ix, ci_sc h (by rw [fa 2 (by decide)])⟩
  have B36 : cs_135 9 s 0 (Int32.ofNat f) (Int32.ofNat bk) β1 36 0 3 = β 36 0 3 := by rw [p36 _ _ _ _ _ _ _ (by decide), d36]
  have B65 : cs_135 9 s 0 (Int32.ofNat f) (Int32.ofNat bk) β1 65 0 s.toNatClampNeg + 1 = tr := by rw [fr_135 _ _ _ _ _ _ 65 (by decide)]; exact b5
  have i4 : tm_ix (Int32.ofNat f) 4 = true := ix_n (by decide) hf
  have hrr : r < 32 → ci_152 s β1 ∧ cs_152 s β1 = Z46 r f fr nn (cs_135 9 s 0 (Int32.ofNat f) (Int32.ofNat bk) (tm_wr (tm_wr (tm_wr β1 64 0 s.toNatClampNeg (Int32.ofNat nn)) 65 0 s.toNatClampNeg tr) 66 0 s.toNatClampNeg (β 36 0 3 + 3))) := by
    intro hr
    have k9 : ¬ (32 : Int32) ≤ Int32.ofNat r := by
      show ¬ Int32.ofNat 32 ≤ Int32.ofNat r
      rw [of_le (by decide) (by omega)]; omega
    have k9' : ¬ Int32.ofNat r = 32 := by
      show ¬ Int32.ofNat r = Int32.ofNat 32
      rw [of_eq (by omega) (by decide)]; omega
    have B9 : cs_135 9 s 0 (Int32.ofNat f) (Int32.ofNat bk) β1 36 0 9 = Int32.ofNat (r + 1) := by
      unfold cs_135
      rw [d36, e9, if_neg k9', tI_of1]
      simp [tm_ap]
    obtain ⟨L1, L2⟩ := lp_152 s h0 h6 hr hf hnn1 hnn2 nn 64 0 (cs_135 9 s 0 (Int32.ofNat f) (Int32.ofNat bk) β1) (by omega) (by omega) B9
    have z : Int32.ofNat 0 = (0 : Int32) := rfl
    rw [z] at L1 L2
    refine ⟨?_, ?_⟩
    · unfold ci_152
      rw [d62, b3, d36, d49, tf, e9, efr, hln, hsz, mr, if_neg k9]
      exact ⟨ix, i4, ciR, L2⟩
    · unfold cs_152
      rw [d62, b3, d36, d49, tf, e9, efr, hln, hsz, mr, if_neg k9, L1, B65, B36, Z46_V48]
      rw [tm_cm (by decide : (64 : Nat) ≠ 46), tm_cm (by decide : (65 : Nat) ≠ 46), tm_cm (by decide : (66 : Nat) ≠ 46), wr_V48 (by decide) (by decide), wr_V48 (by decide) (by decide), wr_V48 (by decide) (by decide), wr_135 (by decide), wr_135 (by decide), wr_135 (by decide)]
  have hrn : ¬ r < 32 → ci_152 s β1 ∧ cs_152 s β1 = cs_135 9 s 0 (Int32.ofNat f) (Int32.ofNat bk) (tm_wr (tm_wr (tm_wr β1 64 0 s.toNatClampNeg (Int32.ofNat nn)) 65 0 s.toNatClampNeg tr) 66 0 s.toNatClampNeg (β 36 0 3 + 3)) := by
    intro hr
    have hre : r = 32 := by omega
    have k9 : (32 : Int32) ≤ Int32.ofNat r := by rw [hre]; decide
    have oz : ((0 : Int32) = 0) = True := by simp
    refine ⟨?_, ?_⟩
    · unfold ci_152
      rw [d62, b3, d36, d49, tf, e9, efr, hln, hsz, mr, if_pos k9]
      refine ⟨ix, i4, ciR, ?_⟩
      rw [ci_152_96]
      exact ⟨fun _ _ => ix, fun _ hz => absurd rfl hz, fun _ _ => ix, fun hz => absurd (Or.inr rfl) hz, fun hz => absurd (Or.inr rfl) hz, fun hz => absurd (Or.inr rfl) hz⟩
    · unfold cs_152
      rw [d62, b3, d36, d49, tf, e9, efr, hln, hsz, mr, if_pos k9, cs_152_96, if_pos (Or.inr rfl), if_pos rfl, B65, B36]
      rw [wr_135 (by decide), wr_135 (by decide), wr_135 (by decide)]
  refine ⟨?_, ?_, ?_⟩
  · unfold ci_95 ci_56 ci_74k14 tc_ok
    rw [a1, a2, c21, a1, a2, c1, g2, tf, c15, F1, efr, hln, hsz, m1, m2, tn_of (by omega : fr < 2147483648), tn_of (by omega : nn < 2147483648)]
    refine ⟨ciC, ix_n (by decide) hf, ?_, by decide, ?_, hnn1, ?_⟩
    · have := of0 (l := fr) (by omega); grind
    · have := of0 (l := nn) (by omega); grind
    · show 0 + nn ≤ 12; omega
  · by_cases hr : r < 32
    · exact (hrr hr).1
    · exact (hrn hr).1
  · rw [EC]
    by_cases hr : r < 32
    · rw [if_pos hr] at P
      rw [(hrr hr).2]
      exact P
    · rw [if_neg hr] at P
      rw [(hrn hr).2]
      exact P
end TR
section TS
variable {q : Int32 × Nat} {t r w : Nat} {α β α' β' : tm_M}
theorem shut_ok (h : Rel q t r w α β) {i : Nat} (hi : i < 6) : Rel q t r w (tm_wr α 21 i 0 0) (tm_wr β 62 0 i 0) := by
  have fA : ∀ k, k ≠ 21 → tm_wr α 21 i 0 0 k = α k := fun k hk => tm_wr_ne hk
  have fB : ∀ k, k ≠ 62 → tm_wr β 62 0 i 0 k = β k := fun k hk => tm_wr_ne hk
  refine Rel_sv h ?_ ?_ ?_ ?_ ?_ ?_
  · intro k hk
    simp only [List.mem_cons, List.not_mem_nil, or_false, not_or] at hk
    exact fA k (by omega)
  · intro k hk
    simp only [List.mem_cons, List.not_mem_nil, or_false, not_or] at hk
    exact fB k (by omega)
  · intro p hp
    rw [fB 36 (by decide)]
  · exact RB_fr h.2.2.2.2.2.2.1 (fA _ (by decide)) (fA _ (by decide)) (fA _ (by decide)) (fA _ (by decide)) (fA _ (by decide)) (by rw [fB 36 (by decide)]) (fB _ (by decide)) (fB _ (by decide)) (fB _ (by decide)) (fB _ (by decide)) (fB _ (by decide))
  · exact RJ_fr h.2.2.2.2.2.2.2.1 (fA _ (by decide)) (fA _ (by decide)) (fA _ (by decide)) (fA _ (by decide)) (by rw [fB 36 (by decide)]) (fB _ (by decide)) (fB _ (by decide)) (fB _ (by decide))
  · intro j hj
    have hT := h.2.2.2.2.2.2.2.2.1 j hj
    by_cases hji : j = i
    · subst hji
      unfold RT at hT ⊢
      obtain ⟨t1, t2, t3, t4, t5, -⟩ := hT
      rw [fB 63 (by decide), fB 64 (by decide), fB 65 (by decide), fB 66 (by decide), fB 36 (by decide)]
      exact ⟨by simpa [tm_ap] using t1, by simpa [tm_ap] using t2, by simpa [tm_ap] using t3, by simpa [tm_ap] using t4, t5, Or.inl ⟨by simp [tm_ap], by simp [tm_ap]⟩⟩
    · exact RT_fr hT (by funext p; simp [tm_ap, hji]) (by rw [fB 36 (by decide)]) (by rw [fB 36 (by decide)]) (fB _ (by decide)) (by simp [tm_ap, hji]) (by rw [fB 63 (by decide)]) (by rw [fB 64 (by decide)]) (by rw [fB 65 (by decide)]) (by rw [fB 66 (by decide)])
theorem nat_of {x : Int32} {n : Nat} (hn : n < 2147483648) (h0 : 0 ≤ x) (h1 : x ≤ Int32.ofNat n) : ∃ k, x = Int32.ofNat k ∧ k ≤ n := by
  refine ⟨x.toNatClampNeg, (of_tn h0).symm, ?_⟩
  rw [← of_tn h0, of_le (tn_b x) hn] at h1
  exact h1
theorem read_ok (h : Rel q t r w α β) (m : Nat) (s it : Int32) (h0 : 0 ≤ s) (h6 : s < 6) (e1 : α 4 m 1 = s) (e3 : α 4 m 3 = it) (i0 : 0 ≤ it) (i3 : it ≤ 3) : ci_93 m α ∧ (β 49 0 it.toNatClampNeg = 0 → ci_135 11 s 0 it 0 β) ∧ (¬ β 49 0 it.toNatClampNeg = 0 → ci_152 s (tm_wr (tm_wr (tm_wr β 62 0 s.toNatClampNeg (it + 1)) 63 0 s.toNatClampNeg 1) 65 0 s.toNatClampNeg 0)) ∧ Rel q t (nx r) w (cs_93 m α) (if β 49 0 it.toNatClampNeg = 0 then cs_135 11 s 0 it 0 β else cs_152 s (tm_wr (tm_wr (tm_wr β 62 0 s.toNatClampNeg (it + 1)) 63 0 s.toNatClampNeg 1) 65 0 s.toNatClampNeg 0)) := by
  obtain ⟨f, rfl, hf⟩ := nat_of (n := 3) (by decide) i0 i3
  have tf : (Int32.ofNat f).toNatClampNeg = f := tn_of (by omega)
  rw [tf]
  obtain ⟨F1, F2, F3, F4⟩ := h.2.2.2.2.2.1.2.2.2.1 f (by omega)
  obtain ⟨g0, g1, g2, g3, g4, g5, g6, g7, g8, g9, g10, g11⟩ := h.2.1
  have ix : tm_ix s 6 = true := ix6.mpr ⟨h0, h6⟩
  have i4 : tm_ix (Int32.ofNat f) 4 = true := ix_n (by decide) (by omega)
  have h51 : cv_51 (Int32.ofNat f) α = 1 := by
    unfold cv_51
    rw [if_neg (by grind), if_neg (by grind)]
  unfold ci_93 cs_93 ci_55 cv_55
  rw [e1, e3, h51, tf, F1]
  by_cases hz : β 49 0 f = 0
  · obtain ⟨y1, y2, y3⟩ := srv_send h 11 s 0 (Int32.ofNat f) 0 h0 h6 (Or.inr (Or.inr (Or.inr (Or.inr rfl)))) (fun _ z => absurd z (by decide)) (fun _ => ⟨i0, i3⟩)
    have k1 : β 49 0 f ≤ 0 := by rw [hz]; decide
    have e55 : ((if (1 : Int32) = 0 then 0 else ((if β 49 0 f ≤ 0 then 0 else 1) : Int32)) : Int32) = 0 := by rw [if_neg (by decide), if_pos k1]
    rw [e55, if_pos rfl, if_pos hz]
    exact ⟨⟨fun _ => i4, fun _ => y1, fun z => absurd rfl z, fun z => absurd rfl z⟩, fun _ => y2, fun z => absurd hz z, y3⟩
  · have k1 : ¬ β 49 0 f ≤ 0 := by grind
    have o1 : ¬ (1 : Int32) = 0 := by decide
    have B := block_ok h s h0 h6 (f := f) (bk := 1) (tr := 1) (by omega) (by decide) (by decide) (by
      have : (Int32.ofNat 1 - 1) * β 36 0 2 = 0 := by
        have e : Int32.ofNat 1 - 1 = 0 := by decide
        rw [e]; grind
      rw [this]; exact F2) g7 (tm_wr (tm_wr (tm_wr (tm_wr α 21 s.toNatClampNeg 0 1) 21 s.toNatClampNeg 1 (Int32.ofNat f)) 21 s.toNatClampNeg 2 1) 21 s.toNatClampNeg 3 1) (tm_wr (tm_wr (tm_wr β 62 0 s.toNatClampNeg (Int32.ofNat f + 1)) 63 0 s.toNatClampNeg 1) 65 0 s.toNatClampNeg 0)
      (fun k hk => by rw [tm_wr_ne hk, tm_wr_ne hk, tm_wr_ne hk, tm_wr_ne hk])
      (fun j hj => by funext p; simp [tm_ap, hj])
      (fun k k1 k2 k3 => by rw [tm_wr_ne k3, tm_wr_ne k2, tm_wr_ne k1])
      (fun k j hj => by simp [tm_ap, hj])
      (by simp [tm_ap]) (by simp [tm_ap]) (by first | (simp [tm_ap]; done) | (simp [tm_ap]; rfl)) (by simp [tm_ap]) (by simp [tm_ap]) (by first | (simp [tm_ap]; done) | (simp [tm_ap]; rfl)) (by simp [tm_ap])
    have e55 : ((if (1 : Int32) = 0 then 0 else ((if β 49 0 f ≤ 0 then 0 else 1) : Int32)) : Int32) = 1 := by rw [if_neg (by decide), if_neg k1]
    rw [e55, if_neg o1, if_neg hz]
    exact ⟨⟨fun _ => i4, fun z => absurd z o1, fun _ => ix, fun _ => B.1⟩, fun z => absurd z hz, fun _ => B.2.1, B.2.2⟩
theorem got_ok (h : Rel q t r w α β) (m : Nat) (s it b : Int32) (h0 : 0 ≤ s) (h6 : s < 6) (e1 : α 4 m 1 = s) (e3 : α 4 m 3 = it) (e4 : α 4 m 4 = b) (i0 : 0 ≤ it) (i3 : it ≤ 3) : ci_94 m α ∧ (¬ (¬ β 62 0 s.toNatClampNeg = it + 1 ∨ ¬ β 63 0 s.toNatClampNeg = b) → β 36 0 2 ≤ β 64 0 s.toNatClampNeg → ci_152 s (tm_wr (tm_wr β 63 0 s.toNatClampNeg (β 63 0 s.toNatClampNeg + 1)) 65 0 s.toNatClampNeg 0)) ∧ ∃ r', Rel q t r' w (cs_94 m α) (if ¬ β 62 0 s.toNatClampNeg = it + 1 ∨ ¬ β 63 0 s.toNatClampNeg = b then β else if β 36 0 2 ≤ β 64 0 s.toNatClampNeg then cs_152 s (tm_wr (tm_wr β 63 0 s.toNatClampNeg (β 63 0 s.toNatClampNeg + 1)) 65 0 s.toNatClampNeg 0) else tm_wr β 62 0 s.toNatClampNeg 0) := by
  have hi := tn6 h0 h6
  have ix : tm_ix s 6 = true := ix6.mpr ⟨h0, h6⟩
  obtain ⟨g0, g1, g2, g3, g4, g5, g6, g7, g8, g9, g10, g11⟩ := h.2.1
  obtain ⟨t1, t2, t3, t4, t5, t6⟩ := h.2.2.2.2.2.2.2.2.1 _ hi
  unfold ci_94 cs_94
  rw [e1, e3, e4, t1, t4, g2]
  by_cases hc : ¬ β 62 0 s.toNatClampNeg = it + 1 ∨ ¬ β 63 0 s.toNatClampNeg = b
  · have hc' : α 21 s.toNatClampNeg 0 = 0 ∨ ¬ α 21 s.toNatClampNeg 1 = it ∨ ¬ β 63 0 s.toNatClampNeg = b := by grind
    rw [if_pos hc, if_pos hc']
    exact ⟨⟨ix, fun z => absurd hc' z⟩, fun z => absurd hc z, r, h⟩
  · rcases t6 with ⟨u1, u2⟩ | ⟨u0, u1, u2, u3, u4, u5, u6, u7⟩
    · exact absurd (by left; rw [u2]; grind : ¬ β 62 0 s.toNatClampNeg = it + 1 ∨ ¬ β 63 0 s.toNatClampNeg = b) hc
    · have ef : α 21 s.toNatClampNeg 1 = it := by grind
      have hc' : ¬ (α 21 s.toNatClampNeg 0 = 0 ∨ ¬ α 21 s.toNatClampNeg 1 = it ∨ ¬ β 63 0 s.toNatClampNeg = b) := by
        rw [u0, ef]; grind
      rw [if_neg hc, if_neg hc']
      by_cases hsz : β 36 0 2 ≤ β 64 0 s.toNatClampNeg
      · rw [if_pos hsz, if_pos hsz]
        obtain ⟨f, rfl, hf⟩ := nat_of (n := 3) (by decide) i0 i3
        obtain ⟨bk, hbk, hb11⟩ := nat_of (x := β 63 0 s.toNatClampNeg) (n := 11) (by decide) (by grind) u5
        have hb1 : 1 ≤ bk := by
          rw [hbk] at u4
          have : Int32.ofNat 1 ≤ Int32.ofNat bk := u4
          rw [of_le (by decide) (by omega)] at this
          exact this
        have tf : (Int32.ofNat f).toNatClampNeg = f := tn_of (by omega)
        have u7 := u7 hsz
        rw [ef, tf] at u7
        obtain ⟨F1, F2, F3, F4⟩ := h.2.2.2.2.2.1.2.2.2.1 f (by omega)
        have e1' : Int32.ofNat (bk + 1) - 1 = Int32.ofNat bk := of_sub (b := 1) (by omega) (by omega)
        have hb11' : bk + 1 ≤ 11 := by
          obtain ⟨sz, hsz', hs13⟩ := nat_of (x := β 36 0 2) (n := 12) (by decide) (by grind) g10
          have hs4 : 4 ≤ sz := by
            rw [hsz'] at g9
            have : Int32.ofNat 4 ≤ Int32.ofNat sz := g9
            rw [of_le (by decide) (by omega)] at this
            exact this
          obtain ⟨ln, hln, hl40⟩ := nat_of (x := β 49 0 f) (n := 40) (by decide) F2 F3
          have hm : bk * sz ≤ 11 * 12 := Nat.mul_le_mul hb11 hs13
          rw [hbk, hsz', hln, of_mul (by omega) (by omega) (by omega), of_le (by omega) (by omega)] at u7
          have : bk * 4 ≤ bk * sz := Nat.mul_le_mul_left _ hs4
          omega
        have B := block_ok h s h0 h6 (f := f) (bk := bk + 1) (tr := 1) (by omega) (by omega) hb11' (by rw [e1', ← hbk]; exact u7) g7 (tm_wr (tm_wr α 21 s.toNatClampNeg 2 (β 63 0 s.toNatClampNeg + 1)) 21 s.toNatClampNeg 3 1) (tm_wr (tm_wr β 63 0 s.toNatClampNeg (β 63 0 s.toNatClampNeg + 1)) 65 0 s.toNatClampNeg 0)
          (fun k hk => by rw [tm_wr_ne hk, tm_wr_ne hk])
          (fun j hj => by funext p; simp [tm_ap, hj])
          (fun k k1 k2 k3 => by rw [tm_wr_ne k3, tm_wr_ne k2])
          (fun k j hj => by simp [tm_ap, hj])
          (by simpa [tm_ap] using u0) (by simpa [tm_ap] using ef) (by rw [← tI_of1, ← hbk]; simp [tm_ap]) (by simp [tm_ap]) (by rw [← ef]; simpa [tm_ap] using u1) (by rw [← tI_of1, ← hbk]; simp [tm_ap]) (by simp [tm_ap])
        exact ⟨⟨ix, fun _ _ => B.1⟩, fun _ _ => B.2.1, _, B.2.2⟩
      · rw [if_neg hsz, if_neg hsz]
        exact ⟨⟨ix, fun _ z => absurd z hsz⟩, fun _ z => absurd z hsz, r, shut_ok h hi⟩
end TS
