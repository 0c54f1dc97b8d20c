/-! Deliver. -/
section DL
variable {q : Int32 × Nat} {t r w : Nat} {α β α' β' : tm_M}
theorem k12 {x : Int32} (h0 : 0 ≤ x) (h7 : x ≤ 11) : x = 0 ∨ x = 1 ∨ x = 2 ∨ x = 3 ∨ x = 4 ∨ x = 5 ∨ x = 6 ∨ x = 7 ∨ x = 8 ∨ x = 9 ∨ x = 10 ∨ x = 11 := by
  rw [tI_le] at h0 h7
  simp only [tI_eq]
  have e0 : (0 : Int32).toInt = 0 := rfl
  have e1 : (1 : Int32).toInt = 1 := rfl
  have e2 : (2 : Int32).toInt = 2 := rfl
  have e3 : (3 : Int32).toInt = 3 := rfl
  have e4 : (4 : Int32).toInt = 4 := rfl
  have e5 : (5 : Int32).toInt = 5 := rfl
  have e6 : (6 : Int32).toInt = 6 := rfl
  have e7 : (7 : Int32).toInt = 7 := rfl
  have e8 : (8 : Int32).toInt = 8 := rfl
  have e9 : (9 : Int32).toInt = 9 := rfl
  have e10 : (10 : Int32).toInt = 10 := rfl
  have e11 : (11 : Int32).toInt = 11 := rfl
  omega
theorem ts_ne {k : Int32} {μ : tm_M} (h0 : 0 ≤ k) (h11 : k ≤ 11) (h : ¬ cv_133 k μ = 0) : k = 0 ∨ k = 2 ∨ k = 5 ∨ k = 8 ∨ k = 10 := by
  unfold cv_133 at h
  grind
theorem ts_z {k : Int32} {μ : tm_M} (h0 : 0 ≤ k) (h11 : k ≤ 11) (h : cv_133 k μ = 0) (h6 : k ≠ 6) : k = 1 ∨ k = 3 ∨ k = 4 ∨ k = 7 ∨ k = 9 ∨ k = 11 := by
  unfold cv_133 at h
  rcases k12 h0 h11 with h | h | h | h | h | h | h | h | h | h | h | h <;> simp_all
theorem serve_ok (h : Rel q t r 6 α β) (m : Nat) (k s n it b leg c : Int32) (e0 : α 4 m 0 = k) (e1 : α 4 m 1 = s) (e2 : α 4 m 2 = n) (e3 : α 4 m 3 = it) (e4 : α 4 m 4 = b) (hv : MV (β 67 0) k s it c leg) (hk : k = 0 ∨ k = 2 ∨ k = 5 ∨ k = 8 ∨ k = 10) : ci_82 m α ∧ ci_146 k s n it b β ∧ ∃ r', Rel q t r' 6 (cs_82 m α) (cs_146 k s n it b β) := by
  obtain ⟨v1, v2, h0, h6, v5, v6, v7, v8, v9⟩ := hv
  have ix : tm_ix s 6 = true := ix6.mpr ⟨h0, h6⟩
  rcases hk with hk | hk | hk | hk | hk
  · subst hk
    obtain ⟨y1, y2, y3⟩ := disc_ok h m s n h0 h6 e1 e2
    exact ⟨by simpa [ci_82, e0] using y1, by simpa [ci_146] using y2, by simpa [cs_82, cs_146, e0] using y3⟩
  · subst hk
    obtain ⟨y1, y2, y3⟩ := req_ok h m s n it h0 h6 e1 e2 e3 (v8 (by decide) (by decide))
    exact ⟨by simpa [ci_82, e0] using y1, by simpa [ci_146] using y2, by simpa [cs_82, cs_146, e0] using y3⟩
  · subst hk
    obtain ⟨y1, y2, y3, y4⟩ := dec_ok h m s it h0 h6 e1 e3 (v8 (by decide) (by decide))
    refine ⟨by simpa [ci_82, e0] using y1, ?_, r, by simpa [cs_82, cs_146, e0] using y4⟩
    simp [ci_146, y2, y3]
  · subst hk
    obtain ⟨i0, i3⟩ := v9 (by decide)
    obtain ⟨y1, y2, y3, y4⟩ := read_ok h m s it h0 h6 e1 e3 i0 i3
    refine ⟨by simpa [ci_82, e0] using y1, ?_, nx r, by simpa [cs_82, cs_146, e0] using y4⟩
    have i4 : tm_ix it 4 = true := ix4.mpr ⟨i0, by grind⟩
    simp [ci_146, i4, ix]
    exact ⟨y2, y3⟩
  · subst hk
    obtain ⟨i0, i3⟩ := v9 (by decide)
    obtain ⟨y1, y2, r', y4⟩ := got_ok h m s it b h0 h6 e1 e3 e4 i0 i3
    refine ⟨by simpa [ci_82, e0] using y1, ?_, r', ?_⟩
    · unfold ci_146
      exact ⟨fun z => absurd z (by decide), fun _ z => absurd z (by decide), fun _ _ z => absurd z (by decide), fun _ _ z => absurd z (by decide), fun _ _ z => absurd z (by decide), fun _ _ _ z => absurd z (by decide), fun _ _ _ z => absurd z (by decide), fun _ _ _ z => absurd z (by decide), fun _ _ _ z => absurd z (by decide), fun _ _ _ _ => ix, fun _ _ _ _ z1 z2 => y2 z1 z2⟩
    · have E1 : cs_82 m α = cs_94 m α := by simp [cs_82, e0]
      have E2 : cs_146 10 s n it b β = (if ¬ β 62 0 s.toNatClampNeg = it + 1 ∨ ¬ β 63 0 s.toNatClampNeg = b then β else if β 36 0 2 ≤ β 64 0 s.toNatClampNeg then cs_152 s (tm_wr (tm_wr β 63 0 s.toNatClampNeg (β 63 0 s.toNatClampNeg + 1)) 65 0 s.toNatClampNeg 0) else tm_wr β 62 0 s.toNatClampNeg 0) := by
        unfold cs_146
        rw [if_neg (by decide), if_neg (by decide), if_neg (by decide), if_neg (by decide)]
      rw [E1, E2]
      exact y4
theorem hear_ok (h : Rel q t r 6 α β) (m : Nat) (hm : (α 2 0 2).toNatClampNeg = m) (k s n it b leg c : Int32) (e0 : α 4 m 0 = k) (e2 : α 4 m 2 = n) (e3 : α 4 m 3 = it) (e4 : α 4 m 4 = b) (e6 : α 4 m 6 = c) (hv : MV (β 67 0) k s it c leg) (hk : k = 1 ∨ k = 3 ∨ k = 4 ∨ k = 7 ∨ k = 9 ∨ k = 11) (hby : ∀ j, j < c.toNatClampNeg → α 5 m j = β 84 0 j) : ci_100 s.toNatClampNeg m α ∧ ci_164 k s n it b c β ∧ ∃ r', Rel q t r' 6 (cs_100 s.toNatClampNeg m α) (cs_164 k s n it b c β) := by
  obtain ⟨v1, v2, h0, h6, v5, v6, v7, v8, v9⟩ := hv
  rcases hk with hk | hk | hk | hk | hk | hk
  · subst hk; exact offer_h h m s n it b c h0 h6 e0 e2 e3 (v8 (by decide) (by decide))
  · subst hk; exact ack_h h m s n it b c h0 h6 e0 e2 e3
  · subst hk; exact nak_h h m s n it b c h0 h6 e0 e2
  · subst hk; exact here_h h m s n it b c h0 h6 e0 e3
  · subst hk; exact data_h h m hm s n it b c h0 h6 e0 e3 e4 e6 v5 v6 (v9 (by decide)) hby
  · subst hk; exact err_h h m s n it b c h0 h6 e0 e3
/-- a message goes on over the relay: it stands at the end with the other leg -/
theorem relay_ok (h : Rel q t r w α β) {k : Nat} (hk : k < r) (hR : ∀ i f, f < 19 → ROW β' i f = if k ≤ i ∧ i < r - 1 then ROW β (i + 1) f else if i = r - 1 then ROW β k f else ROW β i f) (fb : ∀ κ, κ ∉ ([41, 42, 43, 44, 45, 46, 47, 48, 84, 85] : List Nat) → β' κ = β κ) (lg : Int32) (hlg : lg = 1 - β 47 0 k) (hv : lg = 0 ∨ lg = 1 ∧ β 67 0 (β 42 0 k).toNatClampNeg ≠ 0 ∧ β 41 0 k ≠ 6 ∧ β 41 0 k ≠ 7) : ci_119 (α 3 0 k).toNatClampNeg lg (cs_118 (Int32.ofNat k) α) ∧ Rel (β 41 0 k, (α 3 0 k).toNatClampNeg) t r w (cs_119 (α 3 0 k).toNatClampNeg lg (cs_118 (Int32.ofNat k) α)) (tm_wr β' 47 0 (r - 1) (1 - β' 47 0 (r - 1))) := by
  have hW := h.2.2.2.1
  have hr := hW.1
  obtain ⟨j1, j2, j3, j4, j5⟩ := take_c hW hk
  obtain ⟨g1, g2⟩ := hW.2.2.2.2 k hk
  obtain ⟨o1, o2, o3⟩ := hW.2.2.2.1
  have f36 : β' 36 = β 36 := fb 36 (by decide)
  have hT : Rel (β 41 0 k, (α 3 0 k).toNatClampNeg) t (r - 1) w (cs_118 (Int32.ofNat k) α) (tm_wr β' 36 0 9 (Int32.ofNat (r - 1))) := by
    refine take_rel h hk (by simp [tm_ap]) ?_ ?_ ?_
    · intro i f hi hf
      have e : ROW (tm_wr β' 36 0 9 (Int32.ofNat (r - 1))) i f = ROW β' i f := ROW_wr (by omega) _ _ _ _ _ _
      rw [e, hR i f hf]
      by_cases a : i < k
      · rw [if_neg (by omega), if_neg (by omega), if_pos a]
      · rw [if_pos (by omega), if_neg a]
    · intro κ hκ
      simp only [List.mem_cons, List.not_mem_nil, or_false, not_or] at hκ
      rw [tm_wr_ne (by omega)]
      exact fb κ (by simp only [List.mem_cons, List.not_mem_nil, or_false]; omega)
    · intro p hp
      simp only [tm_ap]
      rw [if_neg (by omega), f36]
  have f4 : cs_118 (Int32.ofNat k) α 4 = α 4 := fr_118 _ _ 4 (by decide)
  have f5 : cs_118 (Int32.ofNat k) α 5 = α 5 := fr_118 _ _ 5 (by decide)
  have s3 : (cs_118 (Int32.ofNat k) α 3 0 (r - 1)).toNatClampNeg = (α 2 0 2).toNatClampNeg := by
    rw [j5, if_neg (by omega), if_neg (by omega), if_pos (by omega)]
  have c46 : α 4 (α 3 0 k).toNatClampNeg 6 = β 46 0 k := g1.2.2.2.2.2.1
  obtain ⟨P0, P1, P2, P3, P4, P5, P6, P7, P8, P9, P10, P11, P12⟩ := post_copy hT.2.2.2.1 (by omega) (α 3 0 k).toNatClampNeg (by rw [s3]; exact (o2 k (by omega)).2) lg (by rw [f4, c46]; exact g2.2.2.2.2.1) (by rw [f4, c46]; exact g2.2.2.2.2.2.1)
  have hre : r - 1 + 1 = r := by omega
  refine ⟨P0, ?_⟩
  have e47 : β' 47 0 (r - 1) = β 47 0 k := by
    have := hR (r - 1) 6 (by decide)
    rw [if_neg (by omega), if_pos rfl] at this
    exact this
  have hRE : ∀ f, f < 19 → ROW β' (r - 1) f = ROW β k f := fun f hf => by rw [hR _ f hf, if_neg (by omega), if_pos rfl]
  have e41 : β' 41 0 (r - 1) = β 41 0 k := hRE 0 (by decide)
  have e42 : β' 42 0 (r - 1) = β 42 0 k := hRE 1 (by decide)
  have e43 : β' 43 0 (r - 1) = β 43 0 k := hRE 2 (by decide)
  have e44 : β' 44 0 (r - 1) = β 44 0 k := hRE 3 (by decide)
  have e45 : β' 45 0 (r - 1) = β 45 0 k := hRE 4 (by decide)
  have e46 : β' 46 0 (r - 1) = β 46 0 k := hRE 5 (by decide)
  have hl : (β 46 0 k).toNatClampNeg ≤ 12 := (tn_le g2.2.2.2.2.1 (by decide : (0 : Int32) ≤ 12)).mpr g2.2.2.2.2.2.1
  rw [e47, ← hlg]
  have A := RW_app (β' := tm_wr β' 47 0 (r - 1) lg) hT.2.2.2.1 (by omega : r - 1 < 32) P1 P2 P3 P4 (by rw [hre, tm_wr_ne (by decide), f36]; exact hW.2.2.1) (by
    intro i f hi hf
    have e : ROW (tm_wr β' 36 0 9 (Int32.ofNat (r - 1))) i f = ROW β' i f := ROW_wr (by omega) _ _ _ _ _ _
    rw [e]
    unfold ROW
    by_cases hf7 : f < 7
    · rw [if_pos hf7, if_pos hf7]
      simp only [tm_ap]
      rw [if_neg (by omega)]
    · rw [if_neg hf7, if_neg hf7, tm_wr_ne (by decide)]) (by
    unfold RM
    rw [P5, P6, P7, P8, P9, P10, P11, f4]
    obtain ⟨m1, m2, m3, m4, m5, m6, m7, m8⟩ := g1
    have w : ∀ κ, κ ≠ 47 → tm_wr β' 47 0 (r - 1) lg κ = β' κ := fun κ hκ => tm_wr_ne hκ
    rw [w 41 (by decide), w 42 (by decide), w 43 (by decide), w 44 (by decide), w 45 (by decide), w 46 (by decide), w 48 (by decide), e41, e42, e43, e44, e45, e46]
    refine ⟨m1, m2, m3, m4, m5, m6, by simp [tm_ap], fun j hj => ?_⟩
    have hj' : j < (cs_118 (Int32.ofNat k) α 4 (α 3 0 k).toNatClampNeg 6).toNatClampNeg := by rw [f4, m6]; exact hj
    rw [P12 j hj', f5, m8 j hj]
    have := hRE (7 + j) (by omega)
    rw [ROW_b, ROW_b] at this
    exact this.symm) (by
    have w : ∀ κ, κ ≠ 47 → tm_wr β' 47 0 (r - 1) lg κ = β' κ := fun κ hκ => tm_wr_ne hκ
    rw [w 67 (by decide), w 41 (by decide), w 42 (by decide), w 44 (by decide), w 46 (by decide), e41, e42, e44, e46, fb 67 (by decide)]
    obtain ⟨v1, v2, v3, v4, v5, v6, v7, v8, v9⟩ := g2
    refine ⟨v1, v2, v3, v4, v5, v6, ?_, v8, v9⟩
    simpa [tm_ap] using hv) (by rw [tm_wr_ne (by decide), fb 67 (by decide), tm_wr_ne (by decide), fb 67 (by decide)])
  rw [hre] at A
  refine Rel_rows h (RQ_app hT.1 hT.2.2.2.1 (by omega) P2 P4) A ?_ ?_ ?_
  · intro κ hκ
    rw [fr_119 _ _ _ κ (nin_of hκ (by decide)), fr_118 _ _ κ (nin_of hκ (by decide))]
  · intro κ hκ
    simp only [List.mem_cons, List.not_mem_nil, or_false, not_or] at hκ
    rw [tm_wr_ne (by omega)]
    exact fb κ (by simp only [List.mem_cons, List.not_mem_nil, or_false]; omega)
  · intro p _
    rw [tm_wr_ne (by decide), f36]
theorem deliver_ok (h : Rel q t r 6 α β) (k : Int32) : cv_9 k α = cv_139 k β ∧ ci_9 k α ∧ ci_139 k β ∧ ∃ q' r', Rel q' t r' 6 (cs_9 k α) (cs_139 k β) := by
  have hW := h.2.2.2.1
  obtain ⟨H1, H2⟩ := has_eq hW k
  unfold cv_9 ci_9 cs_9 cv_139 ci_139 cs_139
  by_cases hk : k < 0 ∨ β 36 0 9 ≤ k
  · have hz := H1.mpr hk
    have hk2 : k < 0 ∨ ¬ k < β 36 0 9 := by grind
    simp only [if_pos hz, if_pos hk2]
    exact ⟨(by trivial), ⟨fun z => absurd hz z, fun z => absurd hz z⟩, ⟨fun z => absurd hk2 z, fun z => absurd hk2 z, fun z => absurd hk2 z⟩, q, r, h⟩
  · have hz : ¬ cv_116 k α = 0 := fun z => hk (H1.mp z)
    have hk2 : ¬ (k < 0 ∨ ¬ k < β 36 0 9) := by grind
    obtain ⟨n, hn, rfl⟩ := H2 hk
    have hr := hW.1
    have e9 := hW.2.2.1
    have tn : (Int32.ofNat n).toNatClampNeg = n := tn_of (by omega)
    have es : β 36 0 9 - 1 = Int32.ofNat (r - 1) := by rw [e9]; exact of_sub (b := 1) (by omega) (by omega)
    obtain ⟨j1, j2, j3, j4, j5⟩ := take_c hW hn
    obtain ⟨g1, g2⟩ := hW.2.2.2.2 n hn
    obtain ⟨m0, m1, m2, m3, m4, m6, m5, m8⟩ := g1
    have G2 := g2
    obtain ⟨v1, v2, h0, h6, v5, v6, v7, v8, v9⟩ := g2
    have f4 : cs_118 (Int32.ofNat n) α 4 = α 4 := fr_118 _ _ 4 (by decide)
    have f5 : cs_118 (Int32.ofNat n) α 5 = α 5 := fr_118 _ _ 5 (by decide)
    have f9 : cs_118 (Int32.ofNat n) α 9 = α 9 := fr_118 _ _ 9 (by decide)
    have e9s := (h.2.2.2.2.1.2.2.2.2.1 _ (tn6 h0 h6)).1
    simp only [if_neg hz, if_neg hk2]
    rw [tn, es, j1]
    obtain ⟨β', i1, i2, i3, i4, i5⟩ := lp_120 (Int32.ofNat n) (e := r - 1) (by omega) (β 41 0 n) (β 42 0 n) ((if β 67 0 (β 42 0 n).toNatClampNeg = 0 then 0 else ((if cv_133 (β 41 0 n) β = 0 then ((if cv_134 (β 41 0 n) β = 0 then 0 else ((if β 47 0 n = 1 then 1 else 0) : Int32)) : Int32) else ((if β 47 0 n = 0 then 1 else ((if cv_134 (β 41 0 n) β = 0 then 0 else ((if β 47 0 n = 1 then 1 else 0) : Int32)) : Int32)) : Int32)) : Int32)) : Int32) (β 43 0 n) (β 44 0 n) (β 45 0 n) (β 46 0 n) (r - 1 - n) 64 n β (by omega) (by omega)
    have f36 : β' 36 = β 36 := i5 36 (by decide)
    rw [i1, i2]
    have c75 : cv_75 (α 3 0 n).toNatClampNeg (cs_118 (Int32.ofNat n) α) = cv_133 (β 41 0 n) β := by
      unfold cv_75 cv_133
      rw [f4, m0]
    have c46 : cv_46 (β 42 0 n) (cs_118 (Int32.ofNat n) α) = if β 67 0 (β 42 0 n).toNatClampNeg = 0 then 0 else 1 := by
      unfold cv_46
      rw [f9, e9s]
    have kk : Int32.ofNat (r - 1) ≤ Int32.ofNat (r - 1) := by rw [of_le (by omega) (by omega)]; omega
    have ixn : tm_ix (Int32.ofNat n) 32 = true := ix_n (by decide) (by omega)
    have ixs : tm_ix (β 42 0 n) 6 = true := ix6.mpr ⟨h0, h6⟩
    have tr1 : (Int32.ofNat (r - 1)).toNatClampNeg = r - 1 := tn_of (by omega)
    have ixe : tm_ix (Int32.ofNat (r - 1)) 32 = true := ix_n (by decide) (by omega)
    -- what follows when nothing goes over the relay
    have L := lp_169 (Int32.ofNat n) (e := r - 1) (by omega) (β 41 0 n) (β 42 0 n) 0 (β 43 0 n) (β 44 0 n) (β 45 0 n) (β 46 0 n) 12 64 0 β' (by decide) (by decide)
    have z0 : Int32.ofNat 0 = (0 : Int32) := rfl
    rw [z0] at L
    have c12 : (12 : Int32) ≤ Int32.ofNat 12 := by decide
    have dec9 : D84 (r - 1) 0 β' 36 0 9 - 1 = Int32.ofNat (r - 1) := by
      have : D84 (r - 1) 0 β' 36 0 9 = β 36 0 9 := by
        rw [← f36]
        simp [D84]
      rw [this, es]
    have hT : Rel (β 41 0 n, (α 3 0 n).toNatClampNeg) t (r - 1) 6 (cs_118 (Int32.ofNat n) α) (tm_wr (D84 (r - 1) 0 β') 36 0 9 (Int32.ofNat (r - 1))) := by
      refine take_rel h hn (by simp [tm_ap]) ?_ ?_ ?_
      · intro i f hi hf
        have e : ROW (tm_wr (D84 (r - 1) 0 β') 36 0 9 (Int32.ofNat (r - 1))) i f = ROW β' i f := by
          rw [ROW_wr (by omega)]
          unfold ROW D84
          by_cases hf7 : f < 7
          · rw [if_pos hf7, if_pos hf7, if_neg (by omega)]
          · rw [if_neg hf7, if_neg hf7, if_neg (by omega)]
        rw [e, i4 i f hf]
        by_cases a : i < n
        · rw [if_neg (by omega), if_neg (by omega), if_pos a]
        · rw [if_pos (by omega), if_neg a]
      · intro κ hκ
        simp only [List.mem_cons, List.not_mem_nil, or_false, not_or] at hκ
        rw [tm_wr_ne (by omega)]
        funext a b
        unfold D84
        rw [if_neg (by omega), i5 κ (by simp only [List.mem_cons, List.not_mem_nil, or_false]; omega)]
      · intro p hp
        simp only [tm_ap]
        rw [if_neg (by omega), ← f36]
        simp [D84]
    have h84 : ∀ j, j < (β 46 0 n).toNatClampNeg → cs_118 (Int32.ofNat n) α 5 (α 3 0 n).toNatClampNeg j = tm_wr (D84 (r - 1) 0 β') 36 0 9 (Int32.ofNat (r - 1)) 84 0 j := by
      intro j hj
      have hl : (β 46 0 n).toNatClampNeg ≤ 12 := (tn_le v5 (by decide : (0 : Int32) ≤ 12)).mpr v6
      rw [f5, m8 j hj]
      have e := i4 (r - 1) (7 + j) (by omega)
      rw [if_neg (by omega), if_pos rfl, ROW_b, ROW_b] at e
      simp only [tm_ap]
      rw [if_neg (by omega)]
      unfold D84
      rw [if_pos (by omega), e]
    have hmo : (cs_118 (Int32.ofNat n) α 2 0 2).toNatClampNeg = (α 3 0 n).toNatClampNeg := j4
    have G2' : MV (tm_wr (D84 (r - 1) 0 β') 36 0 9 (Int32.ofNat (r - 1)) 67 0) (β 41 0 n) (β 42 0 n) (β 44 0 n) (β 46 0 n) (β 47 0 n) := by
      have : tm_wr (D84 (r - 1) 0 β') 36 0 9 (Int32.ofNat (r - 1)) 67 = β 67 := by
        rw [tm_wr_ne (by decide), ← i5 67 (by decide)]
        funext a b
        simp [D84]
      rw [this]
      exact G2
    have rq : ∀ (A B : tm_M) (r' : Nat), Rel (β 41 0 n, (α 3 0 n).toNatClampNeg) t r' 6 A B → A 4 (α 3 0 n).toNatClampNeg 0 = β 41 0 n := by
      intro A B r' S
      obtain ⟨⟨x, y⟩, -⟩ := S
      simp only at x y
      rw [y] at x
      exact x
    generalize hRR : ((if β 67 0 (β 42 0 n).toNatClampNeg = 0 then 0 else ((if cv_133 (β 41 0 n) β = 0 then ((if cv_134 (β 41 0 n) β = 0 then 0 else ((if β 47 0 n = 1 then 1 else 0) : Int32)) : Int32) else ((if β 47 0 n = 0 then 1 else ((if cv_134 (β 41 0 n) β = 0 then 0 else ((if β 47 0 n = 1 then 1 else 0) : Int32)) : Int32)) : Int32)) : Int32)) : Int32) = R at *
    have csR : ¬ R = 0 → cs_139_120 (Int32.ofNat n) 1 (β 41 0 n) (β 42 0 n) R (β 43 0 n) (β 44 0 n) (β 45 0 n) (β 46 0 n) (Int32.ofNat (r - 1)) (Int32.ofNat (r - 1)) β' = tm_wr β' 47 0 (r - 1) (1 - β' 47 0 (r - 1)) ∧ cv_139_120 (Int32.ofNat n) 1 (β 41 0 n) (β 42 0 n) R (β 43 0 n) (β 44 0 n) (β 45 0 n) (β 46 0 n) (Int32.ofNat (r - 1)) (Int32.ofNat (r - 1)) β' = β 41 0 n ∧ ci_139_120 (Int32.ofNat n) 1 (β 41 0 n) (β 42 0 n) R (β 43 0 n) (β 44 0 n) (β 45 0 n) (β 46 0 n) (Int32.ofNat (r - 1)) (Int32.ofNat (r - 1)) β' := by
      intro hR
      rw [cs_139_120, cv_139_120, ci_139_120, if_pos kk, if_pos kk, if_neg hR, if_neg hR, tr1]
      exact ⟨rfl, rfl, fun _ z => absurd z hR, fun _ _ => ixe, fun z => absurd kk z, fun z => absurd kk z⟩
    have cs0 : R = 0 → cs_139_120 (Int32.ofNat n) 1 (β 41 0 n) (β 42 0 n) R (β 43 0 n) (β 44 0 n) (β 45 0 n) (β 46 0 n) (Int32.ofNat (r - 1)) (Int32.ofNat (r - 1)) β' = (if cv_133 (β 41 0 n) β = 0 then (if β 41 0 n = 6 then cs_163 (β 42 0 n) (β 44 0 n) (tm_wr (D84 (r - 1) 0 β') 36 0 9 (Int32.ofNat (r - 1))) else cs_164 (β 41 0 n) (β 42 0 n) (β 43 0 n) (β 44 0 n) (β 45 0 n) (β 46 0 n) (tm_wr (D84 (r - 1) 0 β') 36 0 9 (Int32.ofNat (r - 1)))) else cs_146 (β 41 0 n) (β 42 0 n) (β 43 0 n) (β 44 0 n) (β 45 0 n) (tm_wr (D84 (r - 1) 0 β') 36 0 9 (Int32.ofNat (r - 1)))) ∧ cv_139_120 (Int32.ofNat n) 1 (β 41 0 n) (β 42 0 n) R (β 43 0 n) (β 44 0 n) (β 45 0 n) (β 46 0 n) (Int32.ofNat (r - 1)) (Int32.ofNat (r - 1)) β' = β 41 0 n ∧ ((cv_133 (β 41 0 n) β = 0 → β 41 0 n = 6 → ci_163 (β 42 0 n) (β 44 0 n) (tm_wr (D84 (r - 1) 0 β') 36 0 9 (Int32.ofNat (r - 1)))) → (cv_133 (β 41 0 n) β = 0 → ¬ β 41 0 n = 6 → ci_164 (β 41 0 n) (β 42 0 n) (β 43 0 n) (β 44 0 n) (β 45 0 n) (β 46 0 n) (tm_wr (D84 (r - 1) 0 β') 36 0 9 (Int32.ofNat (r - 1)))) → (¬ cv_133 (β 41 0 n) β = 0 → ci_146 (β 41 0 n) (β 42 0 n) (β 43 0 n) (β 44 0 n) (β 45 0 n) (tm_wr (D84 (r - 1) 0 β') 36 0 9 (Int32.ofNat (r - 1)))) → ci_139_120 (Int32.ofNat n) 1 (β 41 0 n) (β 42 0 n) R (β 43 0 n) (β 44 0 n) (β 45 0 n) (β 46 0 n) (Int32.ofNat (r - 1)) (Int32.ofNat (r - 1)) β') := by
      intro hR
      subst hR
      have q133 : ∀ μ : tm_M, cv_133 (β 41 0 n) μ = cv_133 (β 41 0 n) β := fun _ => rfl
      rw [cs_139_120, cv_139_120, ci_139_120, if_pos kk, if_pos kk, if_pos rfl, if_pos rfl, L.1, L.2.1]
      refine ⟨?_, rfl, ?_⟩
      · rw [cs_139_169, if_pos c12, dec9, q133]
      · intro q1 q2 q3
        refine ⟨fun _ _ => L.2.2 ?_, fun _ z => absurd rfl z, fun z => absurd kk z, fun z => absurd kk z⟩
        rw [ci_139_169, dec9, q133]
        exact ⟨fun _ => q1, fun _ => q2, fun _ => q3, fun z => absurd c12 z, fun z => absurd c12 z, fun z => absurd c12 z⟩
    have lgc : β 47 0 n = 0 ∨ β 47 0 n = 1 := by
      rcases v7 with v7 | ⟨v7, -⟩
      · exact Or.inl v7
      · exact Or.inr v7
    unfold cs_18 ci_18
    rw [c75, f4, m0, m1, m5, c46]
    by_cases ts : cv_133 (β 41 0 n) β = 0
    · simp only [if_pos ts]
      by_cases k6 : β 41 0 n = 6
      · simp only [if_pos k6]
        have hR : R = 0 := by
          rw [← hRR]
          have : cv_134 (β 41 0 n) β = 0 := by rw [k6]; rfl
          simp [ts, this]
        obtain ⟨C1, C2, C3⟩ := cs0 hR
        obtain ⟨y1, y2, r', y3⟩ := probe_ok hT (α 3 0 n).toNatClampNeg (β 42 0 n) (β 44 0 n) h0 h6 (by rw [f4]; exact m1) (by rw [f4]; exact m3) (v8 (by rw [k6]; decide) (by rw [k6]; decide))
        rw [C1, C2, if_pos ts, if_pos k6]
        exact ⟨rq _ _ _ y3, ⟨fun _ => j2, fun _ => ⟨fun _ _ => y1, fun _ z => absurd k6 z, fun _ z => absurd k6 z, fun _ z => absurd k6 z, fun z => absurd ts z, fun z => absurd ts z, fun z => absurd ts z⟩⟩, ⟨fun _ => ixn, fun _ => ixs, fun _ => i3 (C3 (fun _ _ => y2) (fun _ z => absurd k6 z) (fun z => absurd ts z))⟩, _, r', y3⟩
      · simp only [if_neg k6]
        by_cases l1 : β 47 0 n = 1
        · simp only [if_pos l1]
          obtain ⟨w1, w2, w3⟩ : β 67 0 (β 42 0 n).toNatClampNeg ≠ 0 ∧ β 41 0 n ≠ 6 ∧ β 41 0 n ≠ 7 := by
            rcases v7 with v7 | ⟨-, v7⟩
            · rw [v7] at l1; exact absurd l1 (by decide)
            · exact v7
          have hR : ¬ R = 0 := by
            rw [← hRR]
            have : cv_134 (β 41 0 n) β = 1 := by
              rcases ts_z v1 v2 ts k6 with z | z | z | z | z | z
              · rw [z]; rfl
              · rw [z]; rfl
              · rw [z]; rfl
              · exact absurd z w3
              · rw [z]; rfl
              · rw [z]; rfl
            simp [ts, this, l1, w1]
          obtain ⟨C1, C2, C3⟩ := csR hR
          obtain ⟨y1, y2⟩ := relay_ok h hn i4 i5 0 (by rw [l1]; decide) (Or.inl rfl)
          rw [C1, C2]
          exact ⟨rq _ _ _ y2, ⟨fun _ => j2, fun _ => ⟨fun _ z => absurd z k6, fun _ _ _ => y1, fun _ _ z => absurd l1 z, fun _ _ z => absurd l1 z, fun z => absurd ts z, fun z => absurd ts z, fun z => absurd ts z⟩⟩, ⟨fun _ => ixn, fun _ => ixs, fun _ => i3 C3⟩, _, r, y2⟩
        · simp only [if_neg l1]
          have hR : R = 0 := by
            rw [← hRR]
            simp [ts, l1]
          obtain ⟨C1, C2, C3⟩ := cs0 hR
          obtain ⟨y1, y2, r', y3⟩ := hear_ok hT (α 3 0 n).toNatClampNeg hmo (β 41 0 n) (β 42 0 n) (β 43 0 n) (β 44 0 n) (β 45 0 n) (β 47 0 n) (β 46 0 n) (by rw [f4]; exact m0) (by rw [f4]; exact m2) (by rw [f4]; exact m3) (by rw [f4]; exact m4) (by rw [f4]; exact m6) G2' (ts_z v1 v2 ts k6) h84
          rw [C1, C2, if_pos ts, if_neg k6]
          exact ⟨rq _ _ _ y3, ⟨fun _ => j2, fun _ => ⟨fun _ z => absurd z k6, fun _ _ z => absurd z l1, fun _ _ _ => ixs, fun _ _ _ => y1, fun z => absurd ts z, fun z => absurd ts z, fun z => absurd ts z⟩⟩, ⟨fun _ => ixn, fun _ => ixs, fun _ => i3 (C3 (fun _ z => absurd z k6) (fun _ _ => y2) (fun z => absurd ts z))⟩, _, r', y3⟩
    · simp only [if_neg ts]
      have f134 : cv_134 (β 41 0 n) β = 0 := by
        rcases ts_ne v1 v2 ts with z | z | z | z | z <;> rw [z] <;> rfl
      by_cases hq : ¬ β 47 0 n = 0 ∨ ((if β 67 0 (β 42 0 n).toNatClampNeg = 0 then 0 else 1) : Int32) = 0
      · simp only [if_pos hq]
        have hR : R = 0 := by
          rw [← hRR]
          rcases hq with hq | hq
          · simp [ts, f134, hq]
          · have : β 67 0 (β 42 0 n).toNatClampNeg = 0 := by grind
            simp [this]
        obtain ⟨C1, C2, C3⟩ := cs0 hR
        obtain ⟨y1, y2, r', y3⟩ := serve_ok hT (α 3 0 n).toNatClampNeg (β 41 0 n) (β 42 0 n) (β 43 0 n) (β 44 0 n) (β 45 0 n) (β 47 0 n) (β 46 0 n) (by rw [f4]; exact m0) (by rw [f4]; exact m1) (by rw [f4]; exact m2) (by rw [f4]; exact m3) (by rw [f4]; exact m4) G2' (ts_ne v1 v2 ts)
        rw [C1, C2, if_neg ts]
        exact ⟨rq _ _ _ y3, ⟨fun _ => j2, fun _ => ⟨fun z => absurd z ts, fun z => absurd z ts, fun z => absurd z ts, fun z => absurd z ts, fun _ _ => ixs, fun _ _ => y1, fun _ z => absurd hq z⟩⟩, ⟨fun _ => ixn, fun _ => ixs, fun _ => i3 (C3 (fun z => absurd z ts) (fun z => absurd z ts) (fun _ => y2))⟩, _, r', y3⟩
      · simp only [if_neg hq]
        have l0 : β 47 0 n = 0 := by
          apply Classical.byContradiction
          intro z; exact hq (Or.inl z)
        have sn : ¬ β 67 0 (β 42 0 n).toNatClampNeg = 0 := fun z => hq (Or.inr (by rw [if_pos z]))
        have hR : ¬ R = 0 := by
          rw [← hRR]
          simp [ts, l0, sn]
        have k67 : β 41 0 n ≠ 6 ∧ β 41 0 n ≠ 7 := by
          rcases ts_ne v1 v2 ts with z | z | z | z | z <;> rw [z] <;> decide
        obtain ⟨C1, C2, C3⟩ := csR hR
        obtain ⟨y1, y2⟩ := relay_ok h hn i4 i5 1 (by rw [l0]; decide) (Or.inr ⟨rfl, sn, k67⟩)
        rw [C1, C2]
        exact ⟨rq _ _ _ y2, ⟨fun _ => j2, fun _ => ⟨fun z => absurd z ts, fun z => absurd z ts, fun z => absurd z ts, fun z => absurd z ts, fun _ _ => ixs, fun _ z => absurd z hq, fun _ _ => y1⟩⟩, ⟨fun _ => ixn, fun _ => ixs, fun _ => i3 C3⟩, _, r, y2⟩
end DL
