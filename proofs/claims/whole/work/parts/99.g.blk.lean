/-! Blocks of files are sent. -/
section BK
variable {q : Int32 × Nat} {t r w : Nat} {α β α' β' : tm_M}
theorem of_mul {a b : Nat} (h : a * b < 2147483648) (ha : a < 2147483648) (hb : b < 2147483648) : Int32.ofNat a * Int32.ofNat b = Int32.ofNat (a * b) := by
  have e : ((a * b : Nat) : Int) = (a : Int) * (b : Int) := Int.natCast_mul a b
  rw [tI_eq, tI_mul (by rw [tI_of ha, tI_of hb, ← e]; omega) (by rw [tI_of ha, tI_of hb, ← e]; omega), tI_of ha, tI_of hb, tI_of h, e]
/-- row x gets its bytes -/
def Z46 (x f fr nn : Nat) (β : tm_M) : tm_M := fun k j p => if k = 46 ∧ j = 0 ∧ p = x then Int32.ofNat nn else if k = 48 ∧ j = 0 ∧ 12 * x ≤ p ∧ p < 12 * x + nn then β 50 0 (40 * f + fr + (p - 12 * x)) else β k j p
def V48 (x f fr nn l : Nat) (β : tm_M) : tm_M := fun k j p => if k = 48 ∧ j = 0 ∧ 12 * x + l ≤ p ∧ p < 12 * x + nn then β 50 0 (40 * f + fr + (p - 12 * x)) else β k j p
theorem lp_152 (s : Int32) (h0 : 0 ≤ s) (h6 : s < 6) {x f fr nn : Nat} (hx : x < 32) (hf : f < 4) (hfn : fr + nn ≤ 40) (hn : nn ≤ 12) (d : Nat) : ∀ (n l : Nat) (β : tm_M), d < n → l + d = nn → β 36 0 9 = Int32.ofNat (x + 1) → cs_152_96 s n (Int32.ofNat f) (Int32.ofNat fr) (Int32.ofNat nn) 1 (Int32.ofNat l) β = tm_wr (tm_wr (tm_wr (tm_wr (V48 x f fr nn l β) 46 0 x (Int32.ofNat nn)) 64 0 s.toNatClampNeg (Int32.ofNat nn)) 65 0 s.toNatClampNeg (β 65 0 s.toNatClampNeg + 1)) 66 0 s.toNatClampNeg (β 36 0 3 + 3) ∧ ci_152_96 s n (Int32.ofNat f) (Int32.ofNat fr) (Int32.ofNat nn) 1 (Int32.ofNat l) β := by
  have o1 : ¬ (1 : Int32) = 0 := by decide
  have ex : Int32.ofNat (x + 1) - 1 = Int32.ofNat x := of_sub (b := 1) (by omega) (by omega)
  have ix : tm_ix s 6 = true := ix6.mpr ⟨h0, h6⟩
  induction d with
  | zero =>
    intro n l β hn' hl e9
    obtain ⟨n, rfl⟩ : ∃ m, n = m + 1 := ⟨n - 1, by omega⟩
    have c : Int32.ofNat nn ≤ Int32.ofNat l := by rw [of_le (by omega) (by omega)]; omega
    have ev : V48 x f fr nn l β = β := by
      funext k j p
      unfold V48
      rw [if_neg (by omega)]
    simp only [cs_152_96, ci_152_96, c, true_or, if_true, o1, if_false, e9, ex, ev]
    rw [tn_of (by omega : x < 2147483648)]
    exact ⟨rfl, fun _ z => z.elim, fun _ _ => ix_n (by decide) hx, fun _ _ => ix, fun z => absurd (by trivial) z, fun z => absurd (by trivial) z, fun z => absurd (by trivial) z⟩
  | succ d ih =>
    intro n l β hn' hl e9
    obtain ⟨n, rfl⟩ : ∃ m, n = m + 1 := ⟨n - 1, by omega⟩
    have c : ¬ (Int32.ofNat nn ≤ Int32.ofNat l ∨ (1 : Int32) = 0) := by
      rw [of_le (by omega) (by omega)]
      rintro (z | z)
      · omega
      · exact o1 z
    obtain ⟨m1, m2⟩ := n12 hx (by omega : l < 12)
    have e40 : 40 * Int32.ofNat f + Int32.ofNat fr + Int32.ofNat l = Int32.ofNat (40 * f + fr + l) := by
      have : (40 : Int32) = Int32.ofNat 40 := rfl
      rw [this, of_mul (by omega) (by omega) (by omega), of_add (by omega), of_add (by omega)]
    have i40 : tm_ix (Int32.ofNat (40 * f + fr + l)) 160 = true := ix_n (by decide) (by omega)
    have t40 : (Int32.ofNat (40 * f + fr + l)).toNatClampNeg = 40 * f + fr + l := tn_of (by omega)
    obtain ⟨i1, i2⟩ := ih n (l + 1) (tm_wr β 48 0 (12 * x + l) (β 50 0 (40 * f + fr + l))) (by omega) (by omega) (by simpa [tm_ap] using e9)
    have ev : V48 x f fr nn (l + 1) (tm_wr β 48 0 (12 * x + l) (β 50 0 (40 * f + fr + l))) = V48 x f fr nn l β := by
      funext k j p
      unfold V48
      by_cases a1 : k = 48 ∧ j = 0 ∧ 12 * x + (l + 1) ≤ p ∧ p < 12 * x + nn
      · rw [if_pos a1, if_pos (by omega)]
        simp only [tm_ap]
        rw [if_neg (by omega)]
      · rw [if_neg a1]
        simp only [tm_ap]
        by_cases a2 : k = 48 ∧ p = 12 * x + l ∧ j = 0
        · rw [if_pos a2, if_pos (by omega)]
          congr 1; omega
        · rw [if_neg a2, if_neg (by omega)]
    have e65 : tm_wr β 48 0 (12 * x + l) (β 50 0 (40 * f + fr + l)) 65 0 s.toNatClampNeg = β 65 0 s.toNatClampNeg := by simp [tm_ap]
    have e36 : tm_wr β 48 0 (12 * x + l) (β 50 0 (40 * f + fr + l)) 36 0 3 = β 36 0 3 := by simp [tm_ap]
    rw [ev, e65, e36] at i1
    simp only [cs_152_96, ci_152_96, if_neg c, e9, ex, e40, m1, t40]
    rw [tI_of1]
    exact ⟨i1, fun z => absurd z c, fun z => absurd z c, fun z => absurd z c, fun _ => i40, fun _ => m2, fun _ => i2⟩
theorem wr_cb {k k0 i0 k2 i2 : Nat} (h0 : k ≠ k0) (h2 : k ≠ k2) (μ : tm_M) (sp dp n i p : Nat) (x : Int32) : tm_wr (tm_cb μ k0 i0 k2 i2 sp dp n) k i p x = tm_cb (tm_wr μ k i p x) k0 i0 k2 i2 sp dp n := by
  have e0 : tm_wr μ k i p x k0 = μ k0 := tm_wr_ne (Ne.symm h0)
  have e2 : tm_wr μ k i p x k2 = μ k2 := tm_wr_ne (Ne.symm h2)
  funext a b c
  unfold tm_cb
  rw [e0, e2]
  simp only [tm_ap]
  by_cases ha : a = k2 ∧ b = i2
  · rw [if_pos ha, if_pos ha, if_neg (by omega)]
  · rw [if_neg ha, if_neg ha]
theorem wr_96 {k : Nat} (h2 : k ≠ 2) (h3 : k ≠ 3) (h4 : k ≠ 4) (h9 : k ≠ 9) (a1 a2 a3 a4 a5 : Int32) (μ : tm_M) (i p : Nat) (x : Int32) : tm_wr (cs_96 a1 a2 a3 a4 a5 μ) k i p x = cs_96 a1 a2 a3 a4 a5 (tm_wr μ k i p x) := by
  unfold cs_96 cv_46
  rw [wr_117 h2 h3 h4, tm_wr_ne (Ne.symm h9)]
/-- a row's bytes are set on both sides -/
theorem RW_set (h : RW r α β) {x : Nat} (hx : x < r) (a2 : α' 2 = α 2) (a3 : α' 3 = α 3) (ax : ∀ y, y ≠ (α 3 0 x).toNatClampNeg → α' 4 y = α 4 y ∧ α' 5 y = α 5 y) (e9 : β' 36 0 9 = β 36 0 9) (hR : ∀ i f, i ≠ x → f < 19 → ROW β' i f = ROW β i f) (hM : RM α' β' x (α 3 0 x).toNatClampNeg) (hV : MV (β' 67 0) (β' 41 0 x) (β' 42 0 x) (β' 44 0 x) (β' 46 0 x) (β' 47 0 x)) (b67 : β' 67 = β 67) : RW r α' β' := by
  obtain ⟨hr', e1, e2, ⟨o1, o2, o3⟩, hm⟩ := h
  refine ⟨hr', by rw [a2]; exact e1, by rw [e9]; exact e2, ?_, ?_⟩
  · unfold RO
    rw [a2, a3]
    exact ⟨o1, o2, o3⟩
  · intro i hi
    rw [a3]
    by_cases hir : i = x
    · subst hir
      exact ⟨hM, hV⟩
    · have g := hm i hi
      have hne : (α 3 0 i).toNatClampNeg ≠ (α 3 0 x).toNatClampNeg := fun hq => hir (o3 i x (by omega) (by omega) hq)
      have hR' : ∀ f, f < 19 → ROW β' i f = ROW β i f := fun f hf => hR i f hir hf
      have hl : (β 46 0 i).toNatClampNeg ≤ 12 := (tn_le g.2.2.2.2.2.1 (by decide : (0 : Int32) ≤ 12)).mpr g.2.2.2.2.2.2.1
      exact ⟨RM_row g.1 hl hR' (ax _ hne).1 (ax _ hne).2, MV_row g.2 hR' b67⟩
theorem pd_ok (h : Rel q t r w α β) (s b : Int32) (h0 : 0 ≤ s) (h6 : s < 6) {f fr nn : Nat} (hf : f < 4) (hfn : fr + nn ≤ 40) (hn : nn ≤ 12) : Rel q t (nx r) w (tm_wr (tm_cb (cs_96 9 s 0 (Int32.ofNat f) b α) 14 f 5 (cv_96 9 s 0 (Int32.ofNat f) b α) fr 0 nn) 4 (cv_96 9 s 0 (Int32.ofNat f) b α) 6 (Int32.ofNat nn)) (if r < 32 then Z46 r f fr nn (cs_135 9 s 0 (Int32.ofNat f) b β) else cs_135 9 s 0 (Int32.ofNat f) b β) := by
  have hf0 : 0 ≤ Int32.ofNat f := of0 (by omega)
  have hf3 : Int32.ofNat f ≤ 3 := by
    show Int32.ofNat f ≤ Int32.ofNat 3
    rw [of_le (by omega) (by decide)]; omega
  have hW := h.2.2.2.1
  obtain ⟨y1, y2, y3⟩ := srv_send h 9 s 0 (Int32.ofNat f) b h0 h6 (Or.inr (Or.inr (Or.inr (Or.inl rfl)))) (fun _ z => absurd z (by decide)) (fun _ => ⟨hf0, hf3⟩)
  have x3 : cs_96 9 s 0 (Int32.ofNat f) b α 3 = α 3 := fr_96 _ _ _ _ _ _ 3 (by decide)
  have x2 : cs_96 9 s 0 (Int32.ofNat f) b α 2 0 2 = α 2 0 2 := out2_117 _ _ _ _ _ _ _
  have b50 : cs_135 9 s 0 (Int32.ofNat f) b β 50 = β 50 := fr_135 _ _ _ _ _ _ 50 (by decide)
  have x14 : cs_96 9 s 0 (Int32.ofNat f) b α 14 = α 14 := fr_96 _ _ _ _ _ _ 14 (by decide)
  have hF := (h.2.2.2.2.2.1.2.2.2.1 f hf).2.2.2
  by_cases hr : r < 32
  · have hc := cnt_lt hW hr
    have e1 := hW.2.1
    have hid : cv_96 9 s 0 (Int32.ofNat f) b α = (α 3 0 r).toNatClampNeg := by
      unfold cv_96 cv_117
      rw [if_neg hc, e1, tn_of (by omega : r < 2147483648)]
    have hnx : nx r = r + 1 := if_pos hr
    rw [if_pos hr, hid]
    rw [hnx] at y3 ⊢
    have hW' := y3.2.2.2.1
    generalize hX : cs_96 9 s 0 (Int32.ofNat f) b α = X at *
    generalize hBB : cs_135 9 s 0 (Int32.ofNat f) b β = B at *
    have g := hW'.2.2.2.2 r (by omega)
    rw [x3] at g
    have o2 := hW.2.2.2.1.2.1 r hr
    have hZR : ∀ i f', f' < 19 → i ≠ r → ROW (Z46 r f fr nn B) i f' = ROW B i f' := by
      intro i f' hf' hi
      rcases f19 hf' with h | h | h | h | h | h | h | ⟨j, hj, h⟩
      · subst h; simp [ROW, Z46]
      · subst h; simp [ROW, Z46]
      · subst h; simp [ROW, Z46]
      · subst h; simp [ROW, Z46]
      · subst h; simp [ROW, Z46]
      · subst h; simp [ROW, Z46, hi]
      · subst h; simp [ROW, Z46]
      · subst h
        rw [ROW_b, ROW_b]
        unfold Z46
        rw [if_neg (by omega), if_neg (by omega)]
    refine Rel_rows y3 ?_ (RW_set hW' (x := r) (by omega) ?_ ?_ ?_ ?_ (fun i f' hi hf' => hZR i f' hf' hi) ?_ ?_ ?_) ?_ ?_ ?_
    · have hq := y3.1
      unfold RQ at hq ⊢
      have e2 : tm_wr (tm_cb X 14 f 5 (α 3 0 r).toNatClampNeg fr 0 nn) 4 (α 3 0 r).toNatClampNeg 6 (Int32.ofNat nn) 2 0 2 = X 2 0 2 := by simp [tm_ap, tm_cb]
      rw [e2]
      simp only [tm_ap, tm_cb]
      rw [if_neg (by omega), if_neg (by omega)]
      exact hq
    · funext a b; simp [tm_ap, tm_cb]
    · funext a b; simp [tm_ap, tm_cb]
    · intro y hy
      rw [x3] at hy
      exact ⟨by funext p; simp [tm_ap, tm_cb, hy], by funext p; simp [tm_ap, tm_cb, hy]⟩
    · simp [Z46]
    · rw [x3]
      obtain ⟨m1, m2, m3, m4, m5, m6, m7, m8⟩ := g.1
      unfold RM
      refine ⟨by simpa [tm_ap, tm_cb, Z46] using m1, by simpa [tm_ap, tm_cb, Z46] using m2, by simpa [tm_ap, tm_cb, Z46] using m3, by simpa [tm_ap, tm_cb, Z46] using m4, by simpa [tm_ap, tm_cb, Z46] using m5, by simp [tm_ap, tm_cb, Z46], by simpa [tm_ap, tm_cb, Z46] using m7, ?_⟩
      intro j hj
      have e46 : Z46 r f fr nn B 46 0 r = Int32.ofNat nn := by simp [Z46]
      rw [e46, tn_of (by omega : nn < 2147483648)] at hj
      have eL : tm_wr (tm_cb X 14 f 5 (α 3 0 r).toNatClampNeg fr 0 nn) 4 (α 3 0 r).toNatClampNeg 6 (Int32.ofNat nn) 5 (α 3 0 r).toNatClampNeg j = X 14 f (fr + j) := by
        simp [tm_ap, tm_cb, va_cpy, hj]
      have eR : Z46 r f fr nn B 48 0 (12 * r + j) = B 50 0 (40 * f + fr + j) := by
        unfold Z46
        rw [if_neg (by omega), if_pos (by omega)]
        congr 1; omega
      rw [eL, eR, x14, b50, hF (fr + j) (by omega)]
      congr 1; omega
    · obtain ⟨v1, v2, v3, v4, v5, v6, v7, v8, v9⟩ := g.2
      have e46 : Z46 r f fr nn B 46 0 r = Int32.ofNat nn := by simp [Z46]
      have e41 : Z46 r f fr nn B 41 0 r = B 41 0 r := by simp [Z46]
      have e42 : Z46 r f fr nn B 42 0 r = B 42 0 r := by simp [Z46]
      have e44 : Z46 r f fr nn B 44 0 r = B 44 0 r := by simp [Z46]
      have e47 : Z46 r f fr nn B 47 0 r = B 47 0 r := by simp [Z46]
      have e67 : Z46 r f fr nn B 67 = B 67 := by funext a b; simp [Z46]
      rw [e46, e41, e42, e44, e47, e67]
      refine ⟨v1, v2, v3, v4, of0 (by omega), ?_, v7, v8, v9⟩
      show Int32.ofNat nn ≤ Int32.ofNat 12
      rw [of_le (by omega) (by decide)]; exact hn
    · funext a b; simp [Z46]
    · intro k hk
      simp only [List.mem_cons, List.not_mem_nil, or_false, not_or] at hk
      rw [tm_wr_ne (by omega), tm_cb_ne (by omega)]
    · intro k hk
      simp only [List.mem_cons, List.not_mem_nil, or_false, not_or] at hk
      funext a b
      unfold Z46
      rw [if_neg (by omega), if_neg (by omega)]
    · intro p hp
      simp [Z46]
  · have hr32 : r = 32 := by have := hW.1; omega
    subst hr32
    have e1 := hW.2.1
    have hc : (32 : Int32) ≤ α 2 0 1 := by rw [e1]; decide
    have hid : cv_96 9 s 0 (Int32.ofNat f) b α = 1 := by
      unfold cv_96 cv_117
      rw [if_pos hc]
    have hnx : nx 32 = 32 := if_neg hr
    rw [if_neg hr, hid]
    rw [hnx] at y3 ⊢
    have hW' := y3.2.2.2.1
    generalize hX : cs_96 9 s 0 (Int32.ofNat f) b α = X at *
    have oo := hW'.2.2.2.1
    refine Rel_rows y3 ?_ ?_ ?_ (fun _ _ => rfl) (fun _ _ => rfl)
    · have hq := y3.1
      unfold RQ at hq ⊢
      have e2 : tm_wr (tm_cb X 14 f 5 1 fr 0 nn) 4 1 6 (Int32.ofNat nn) 2 0 2 = X 2 0 2 := by simp [tm_ap, tm_cb]
      rw [e2]
      simp only [tm_ap, tm_cb]
      rw [if_neg (by omega), if_neg (by omega)]
      exact hq
    · obtain ⟨p1, p2, p3, ⟨o1, o2, o3⟩, p5⟩ := hW'
      have q2 : tm_wr (tm_cb X 14 f 5 1 fr 0 nn) 4 1 6 (Int32.ofNat nn) 2 = X 2 := by rw [tm_wr_ne (by decide), tm_cb_ne (by decide)]
      have q3 : tm_wr (tm_cb X 14 f 5 1 fr 0 nn) 4 1 6 (Int32.ofNat nn) 3 = X 3 := by rw [tm_wr_ne (by decide), tm_cb_ne (by decide)]
      refine ⟨p1, by rw [q2]; exact p2, p3, ?_, ?_⟩
      · unfold RO
        rw [q2, q3]; exact ⟨o1, o2, o3⟩
      · intro i hi
        rw [q3]
        obtain ⟨g1, g2⟩ := p5 i hi
        refine ⟨?_, g2⟩
        have hne := (o2 i hi).1
        have q4 : tm_wr (tm_cb X 14 f 5 1 fr 0 nn) 4 1 6 (Int32.ofNat nn) 4 (X 3 0 i).toNatClampNeg = X 4 (X 3 0 i).toNatClampNeg := by funext p; simp [tm_ap, tm_cb, hne]
        have q5 : tm_wr (tm_cb X 14 f 5 1 fr 0 nn) 4 1 6 (Int32.ofNat nn) 5 (X 3 0 i).toNatClampNeg = X 5 (X 3 0 i).toNatClampNeg := by funext p; simp [tm_ap, tm_cb, hne]
        unfold RM at g1 ⊢
        rw [q4, q5]
        exact g1
    · intro k hk
      simp only [List.mem_cons, List.not_mem_nil, or_false, not_or] at hk
      rw [tm_wr_ne (by omega), tm_cb_ne (by omega)]
end BK
