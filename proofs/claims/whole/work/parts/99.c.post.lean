/-! Copies of messages; alter. -/
section PC
variable {q : Int32 × Nat} {t r w : Nat} {α β α' β' : tm_M}
theorem ROW_wr {k : Nat} (hk : k < 41 ∨ 48 < k) (μ : tm_M) (i p : Nat) (x : Int32) (j f : Nat) : ROW (tm_wr μ k i p x) j f = ROW μ j f := by
  unfold ROW
  by_cases hf : f < 7
  · rw [if_pos hf, if_pos hf, tm_wr_ne (by omega)]
  · rw [if_neg hf, if_neg hf, tm_wr_ne (by omega)]
theorem cnt_lt (h : RW r α β) (hr : r < 32) : ¬ (32 : Int32) ≤ α 2 0 1 := by
  obtain ⟨_, e1, -⟩ := h
  rw [e1]
  show ¬ Int32.ofNat 32 ≤ Int32.ofNat r
  rw [of_le (by decide) (by omega)]; omega
theorem post_copy (h : RW r α β) (hr : r < 32) (m : Nat) (hm : m ≠ (α 3 0 r).toNatClampNeg) (a2 : Int32) (c0 : 0 ≤ α 4 m 6) (c12 : α 4 m 6 ≤ 12) : ci_119 m a2 α ∧ cs_119 m a2 α 2 0 1 = Int32.ofNat (r + 1) ∧ cs_119 m a2 α 2 0 2 = α 2 0 2 ∧ cs_119 m a2 α 3 = α 3 ∧ (∀ x, x ≠ (α 3 0 r).toNatClampNeg → cs_119 m a2 α 4 x = α 4 x ∧ cs_119 m a2 α 5 x = α 5 x) ∧ cs_119 m a2 α 4 (α 3 0 r).toNatClampNeg 0 = α 4 m 0 ∧ cs_119 m a2 α 4 (α 3 0 r).toNatClampNeg 1 = α 4 m 1 ∧ cs_119 m a2 α 4 (α 3 0 r).toNatClampNeg 2 = α 4 m 2 ∧ cs_119 m a2 α 4 (α 3 0 r).toNatClampNeg 3 = α 4 m 3 ∧ cs_119 m a2 α 4 (α 3 0 r).toNatClampNeg 4 = α 4 m 4 ∧ cs_119 m a2 α 4 (α 3 0 r).toNatClampNeg 6 = α 4 m 6 ∧ cs_119 m a2 α 4 (α 3 0 r).toNatClampNeg 5 = a2 ∧ ∀ j, j < (α 4 m 6).toNatClampNeg → cs_119 m a2 α 5 (α 3 0 r).toNatClampNeg j = α 5 m j := by
  have hc := cnt_lt h hr
  obtain ⟨hr', e1, -⟩ := h
  have e3 : (α 3 0 (α 2 0 1).toNatClampNeg).toNatClampNeg = (α 3 0 r).toNatClampNeg := by rw [e1, tn_of (by omega)]
  have ix : tm_ix (α 2 0 1) 32 = true := by rw [e1]; exact ix_n (by decide) hr
  have hn : (α 4 m 6).toNatClampNeg ≤ 12 := (tn_le c0 (by decide : (0 : Int32) ≤ 12)).mpr c12
  generalize hid : (α 3 0 r).toNatClampNeg = id at *
  have hv : ∀ a1 a2 a3 a4 a5 a6, cv_117 a1 a2 a3 a4 a5 a6 α = id := by
    intro a1 a2 a3 a4 a5 a6
    unfold cv_117
    rw [if_neg hc, e3]
  have hX : ∀ a1 a2 a3 a4 a5 a6, cs_117 a1 a2 a3 a4 a5 a6 α = tm_wr (tm_wr (tm_wr (tm_wr (tm_wr (tm_wr (tm_wr (tm_wr α 2 0 1 (Int32.ofNat (r + 1))) 4 id 0 a1) 4 id 1 a2) 4 id 5 a3) 4 id 2 a4) 4 id 3 a5) 4 id 4 a6) 4 id 6 0 := by
    intro a1 a2 a3 a4 a5 a6
    unfold cs_117
    rw [if_neg hc, e3, e1, tI_of1]
  have hN : cs_119 m a2 α = tm_wr (tm_cb (tm_wr (tm_wr (tm_wr (tm_wr (tm_wr (tm_wr (tm_wr (tm_wr α 2 0 1 (Int32.ofNat (r + 1))) 4 id 0 (α 4 m 0)) 4 id 1 (α 4 m 1)) 4 id 5 a2) 4 id 2 (α 4 m 2)) 4 id 3 (α 4 m 3)) 4 id 4 (α 4 m 4)) 4 id 6 0) 5 m 5 id 0 0 (α 4 m 6).toNatClampNeg) 4 id 6 (α 4 m 6) := by
    unfold cs_119 cs_74k5
    rw [hv, hX]
    simp [tm_ap, hm]
  refine ⟨⟨fun _ => ix, ?_⟩, ?_⟩
  · unfold ci_74k5 tc_ok
    rw [hX]
    simp only [tm_ap]
    rw [if_neg (by omega), if_neg (by omega), if_neg (by omega), if_neg (by omega), if_neg (by omega), if_neg (by omega), if_neg (by omega), if_neg (by omega)]
    refine ⟨by decide, by decide, by grind, ?_, ?_⟩
    · show 0 + _ ≤ 12
      omega
    · show 0 + _ ≤ 12
      omega
  · rw [hN]
    refine ⟨by simp [tm_ap, tm_cb], by simp [tm_ap, tm_cb], by funext a b; simp [tm_ap, tm_cb], ?_, by simp [tm_ap, tm_cb], by simp [tm_ap, tm_cb], by simp [tm_ap, tm_cb], by simp [tm_ap, tm_cb], by simp [tm_ap, tm_cb], by simp [tm_ap, tm_cb], by simp [tm_ap, tm_cb], ?_⟩
    · intro x hx
      exact ⟨by funext p; simp [tm_ap, tm_cb, hx], by funext p; simp [tm_ap, tm_cb, hx]⟩
    · intro j hj
      simp [tm_ap, tm_cb, va_cpy, hj]
/-- a row more -/
theorem RW_app (h : RW r α β) (hr : r < 32) (a1 : α' 2 0 1 = Int32.ofNat (r + 1)) (a2 : α' 2 0 2 = α 2 0 2) (a3 : α' 3 = α 3) (ax : ∀ x, x ≠ (α 3 0 r).toNatClampNeg → α' 4 x = α 4 x ∧ α' 5 x = α 5 x) (e9 : β' 36 0 9 = Int32.ofNat (r + 1)) (hR : ∀ i f, i < r → f < 19 → ROW β' i f = ROW β i f) (hM : RM α' β' r (α 3 0 r).toNatClampNeg) (hV : MV (β' 67 0) (β' 41 0 r) (β' 42 0 r) (β' 44 0 r) (β' 46 0 r) (β' 47 0 r)) (b67 : β' 67 = β 67) : RW (r + 1) α' β' := by
  obtain ⟨hr', e1, e2, ⟨o1, o2, o3⟩, hm⟩ := h
  refine ⟨by omega, a1, e9, ?_, ?_⟩
  · unfold RO
    rw [a2, a3]
    exact ⟨o1, o2, o3⟩
  · intro i hi
    rw [a3]
    by_cases hir : i = r
    · subst hir
      exact ⟨hM, hV⟩
    · have g := hm i (by omega)
      have hne : (α 3 0 i).toNatClampNeg ≠ (α 3 0 r).toNatClampNeg := fun hq => hir (o3 i r (by omega) hr hq)
      have hR' : ∀ f, f < 19 → ROW β' i f = ROW β i f := fun f hf => hR i f (by omega) hf
      have hl : (β 46 0 i).toNatClampNeg ≤ 12 := (tn_le g.2.2.2.2.2.1 (by decide : (0 : Int32) ≤ 12)).mpr g.2.2.2.2.2.2.1
      exact ⟨RM_row g.1 hl hR' (ax _ hne).1 (ax _ hne).2, MV_row g.2 hR' b67⟩
theorem RQ_app (hq : RQ q α) (h : RW r α β) (hr : r < 32) (a2 : α' 2 0 2 = α 2 0 2) (ax : ∀ x, x ≠ (α 3 0 r).toNatClampNeg → α' 4 x = α 4 x ∧ α' 5 x = α 5 x) : RQ q α' := by
  obtain ⟨hr', e1, e2, ⟨o1, o2, o3⟩, hm⟩ := h
  unfold RQ at *
  rw [a2, (ax _ (fun hz => (o2 r hr).2 hz.symm)).1]
  exact hq
theorem has_eq (h : RW r α β) (k : Int32) : (cv_116 k α = 0 ↔ (k < 0 ∨ β 36 0 9 ≤ k)) ∧ (¬ (k < 0 ∨ β 36 0 9 ≤ k) → ∃ n, n < r ∧ k = Int32.ofNat n) := by
  obtain ⟨hr, e1, e2, -⟩ := h
  refine ⟨?_, ?_⟩
  · unfold cv_116
    rw [e1, e2]
    grind
  · intro hq
    have k0 : 0 ≤ k := by grind
    have kr : k < Int32.ofNat r := by grind
    exact ⟨k.toNatClampNeg, (tn_lt (by omega) k0).mpr kr, (of_tn k0).symm⟩
/-- both take message k out of the row, nothing else -/
theorem take_rel (h : Rel q t r w α β) {k : Nat} (hk : k < r) (hb : β' 36 0 9 = Int32.ofNat (r - 1)) (hR : ∀ i f, i + 1 < r → f < 19 → ROW β' i f = if i < k then ROW β i f else ROW β (i + 1) f) (fb : ∀ κ, κ ∉ ([36, 41, 42, 43, 44, 45, 46, 47, 48, 84, 85] : List Nat) → β' κ = β κ) (fp : ∀ p, p ≠ 9 → β' 36 0 p = β 36 0 p) : Rel (β 41 0 k, (α 3 0 k).toNatClampNeg) t (r - 1) w (cs_118 (Int32.ofNat k) α) β' := by
  have hW := h.2.2.2.1
  obtain ⟨j1, j2, j3, j4, j5⟩ := take_c hW hk
  refine Rel_rows h ?_ (RW_take hW hk hb hR (fb 67 (by decide))) (fun κ hκ => ?_) fb fp
  · unfold RQ
    rw [j4, fr_118 _ _ 4 (by decide)]
    exact ⟨(hW.2.2.2.2 k hk).1.1, rfl⟩
  · exact fr_118 _ _ κ (nin_of hκ (by decide))
/-- message k stands once more at the end -/
theorem rep_rel (h : Rel q t r w α β) {n : Nat} (hnr : n < r) (hr' : r < 32) : ci_119 (α 3 0 n).toNatClampNeg (α 4 (α 3 0 n).toNatClampNeg 5) α ∧ ci_136 (Int32.ofNat n) (Int32.ofNat r) β ∧ Rel q t (r + 1) w (cs_119 (α 3 0 n).toNatClampNeg (α 4 (α 3 0 n).toNatClampNeg 5) α) (tm_wr (cs_136 (Int32.ofNat n) (Int32.ofNat r) β) 36 0 9 (Int32.ofNat (r + 1))) := by
  have hW := h.2.2.2.1
  obtain ⟨g1, g2⟩ := hW.2.2.2.2 n hnr
  have o3 := hW.2.2.2.1.2.2
  have hne : (α 3 0 n).toNatClampNeg ≠ (α 3 0 r).toNatClampNeg := fun hq => by
    have := o3 n r (by omega) hr' hq
    omega
  have c46 : α 4 (α 3 0 n).toNatClampNeg 6 = β 46 0 n := g1.2.2.2.2.2.1
  obtain ⟨P0, P1, P2, P3, P4, P5, P6, P7, P8, P9, P10, P11, P12⟩ := post_copy hW hr' (α 3 0 n).toNatClampNeg hne (α 4 (α 3 0 n).toNatClampNeg 5) (by rw [c46]; exact g2.2.2.2.2.1) (by rw [c46]; exact g2.2.2.2.2.2.1)
  obtain ⟨C1, C2⟩ := copy_row (by omega : n < 32) hr' (by omega) β
  have f36 : cs_136 (Int32.ofNat n) (Int32.ofNat r) β 36 = β 36 := fr_136 _ _ _ 36 (by decide)
  have f67 : cs_136 (Int32.ofNat n) (Int32.ofNat r) β 67 = β 67 := fr_136 _ _ _ 67 (by decide)
  have fR : ∀ i f, f < 19 → ROW (tm_wr (cs_136 (Int32.ofNat n) (Int32.ofNat r) β) 36 0 9 (Int32.ofNat (r + 1))) i f = if i = r then ROW β n f else ROW β i f := by
    intro i f hf
    rw [ROW_wr (by omega)]
    exact C2 i f hf
  have hRr : ∀ f, f < 19 → ROW (tm_wr (cs_136 (Int32.ofNat n) (Int32.ofNat r) β) 36 0 9 (Int32.ofNat (r + 1))) r f = ROW β n f := fun f hf => by rw [fR r f hf, if_pos rfl]
  have b67 : tm_wr (cs_136 (Int32.ofNat n) (Int32.ofNat r) β) 36 0 9 (Int32.ofNat (r + 1)) 67 = β 67 := by rw [tm_wr_ne (by decide), f67]
  have hl : (β 46 0 n).toNatClampNeg ≤ 12 := (tn_le g2.2.2.2.2.1 (by decide : (0 : Int32) ≤ 12)).mpr g2.2.2.2.2.2.1
  have hA := RW_app (β' := tm_wr (cs_136 (Int32.ofNat n) (Int32.ofNat r) β) 36 0 9 (Int32.ofNat (r + 1))) hW hr' P1 P2 P3 P4 (by simp [tm_ap]) (fun i f hi hf => by rw [fR i f hf, if_neg (by omega)]) (by
    have hM : RM α (tm_wr (cs_136 (Int32.ofNat n) (Int32.ofNat r) β) 36 0 9 (Int32.ofNat (r + 1))) r (α 3 0 n).toNatClampNeg := RM_row g1 hl hRr rfl rfl
    unfold RM at hM ⊢
    obtain ⟨m1, m2, m3, m4, m5, m6, m7, m8⟩ := hM
    rw [P5, P6, P7, P8, P9, P10, P11]
    refine ⟨m1, m2, m3, m4, m5, m6, m7, fun j hj => ?_⟩
    rw [← m6] at hj
    rw [P12 j hj]
    rw [m6] at hj
    exact m8 j hj) (MV_row g2 hRr b67) b67
  refine ⟨P0, C1, Rel_rows h (RQ_app h.1 hW hr' P2 P4) hA ?_ ?_ ?_⟩
  · intro κ hκ
    exact fr_119 _ _ _ κ (nin_of hκ (by decide))
  · intro κ hκ
    simp only [List.mem_cons, List.not_mem_nil, or_false, not_or] at hκ
    rw [tm_wr_ne (by omega)]
    exact fr_136 _ _ _ κ (by simp only [List.mem_cons, List.not_mem_nil, or_false]; omega)
  · intro p hp
    simp only [tm_ap]
    rw [if_neg (by omega), f36]
theorem drop_rel (h : Rel q t r w α β) {n : Nat} (hnr : n < r) : ci_118 (Int32.ofNat n) α ∧ ci_137 (Int32.ofNat n) β ∧ Rel (β 41 0 n, (α 3 0 n).toNatClampNeg) t (r - 1) w (cs_118 (Int32.ofNat n) α) (cs_137 (Int32.ofNat n) β) := by
  have hW := h.2.2.2.1
  have hr32 := hW.1
  have e9 := hW.2.2.1
  obtain ⟨j1, j2, j3, j4, j5⟩ := take_c hW hnr
  have es : β 36 0 9 - 1 = Int32.ofNat (r - 1) := by rw [e9]; exact of_sub (b := 1) (by omega) (by omega)
  have L := lp_137 (Int32.ofNat n) (e := r - 1) (by omega) (r - 1 - n) 64 n (tm_wr β 36 0 9 (β 36 0 9 - 1)) (by omega) (by omega) (by simp [tm_ap, es])
  have f36 : cs_137 (Int32.ofNat n) β 36 = tm_wr β 36 0 9 (β 36 0 9 - 1) 36 := fr_137_12 _ 36 (by decide) _ _ _
  refine ⟨j2, L.1, take_rel h hnr ?_ ?_ ?_ ?_⟩
  · rw [f36]; simp [tm_ap, es]
  · intro i f hi hf
    have := L.2 i f hf
    rw [ROW_wr (by omega), ROW_wr (by omega)] at this
    show ROW (cs_137_12 (Int32.ofNat n) 64 (Int32.ofNat n) (tm_wr β 36 0 9 (β 36 0 9 - 1))) i f = _
    rw [this]
    by_cases a : i < n
    · rw [if_neg (by omega), if_pos a]
    · rw [if_pos (by omega), if_neg a]
  · intro κ hκ
    simp only [List.mem_cons, List.not_mem_nil, or_false, not_or] at hκ
    have : cs_137 (Int32.ofNat n) β κ = tm_wr β 36 0 9 (β 36 0 9 - 1) κ := fr_137_12 _ κ (by simp only [List.mem_cons, List.not_mem_nil, or_false]; omega) _ _ _
    rw [this, tm_wr_ne (by omega)]
  · intro p hp
    rw [f36]; simp [tm_ap, hp]
theorem alter_ok (h : Rel q t r w α β) (k tw : Int32) : cv_10 k tw α = cv_138 k tw β ∧ ci_10 k tw α ∧ ci_138 k tw β ∧ ∃ q' r', Rel q' t r' w (cs_10 k tw α) (cs_138 k tw β) := by
  have hW := h.2.2.2.1
  obtain ⟨H1, H2⟩ := has_eq hW k
  unfold cv_10 cv_138 ci_10 ci_138 cs_10 cs_138
  by_cases hk : k < 0 ∨ β 36 0 9 ≤ k
  · have := H1.mpr hk
    rw [if_pos hk, if_pos hk, if_pos this, if_pos this]
    exact ⟨rfl, ⟨fun hq => absurd this hq, fun hq => absurd this hq⟩, ⟨fun hq => absurd hk hq, fun hq => absurd hk hq⟩, q, r, h⟩
  · have hn : ¬ cv_116 k α = 0 := fun hq => hk (H1.mp hq)
    obtain ⟨n, hnr, rfl⟩ := H2 hk
    have hr32 := hW.1
    have e1 := hW.2.1
    have e9 := hW.2.2.1
    rw [if_neg hk, if_neg hk, if_neg hn, if_neg hn]
    by_cases ht : tw = 0
    · obtain ⟨y1, y2, y3⟩ := drop_rel h hnr
      rw [if_pos ht, if_pos ht, if_pos ht, if_pos (Or.inl ht), if_pos (Or.inl ht)]
      exact ⟨rfl, ⟨fun _ _ => y1, fun _ hz => absurd ht hz⟩, ⟨fun _ _ _ => y2, fun _ _ hz => absurd ht hz⟩, _, _, y3⟩
    · rw [if_neg ht, if_neg ht]
      unfold cv_120 cs_120 ci_120
      rw [tn_of (by omega : n < 2147483648)]
      by_cases hr : r = 32
      · have c1 : ¬ α 2 0 1 < 32 := by rw [e1, hr]; decide
        have c2 : β 36 0 9 = 32 := by rw [e9, hr]; rfl
        have c3 : ¬ (tw = 0 ∨ ¬ β 36 0 9 = 32) := by
          rintro (z | z)
          · exact ht z
          · exact z c2
        rw [if_neg c1, if_neg c1, if_neg c3, if_neg c3]
        exact ⟨rfl, ⟨fun _ hz => absurd hz ht, fun _ _ => ⟨fun hz => absurd hz c1, fun hz => absurd hz c1⟩⟩, ⟨fun _ hz => absurd hz c3, fun _ hz => absurd hz c3⟩, q, r, h⟩
      · have hr' : r < 32 := by omega
        obtain ⟨y1, y2, y3⟩ := rep_rel h hnr hr'
        have c1 : α 2 0 1 < 32 := by
          rw [e1]
          show Int32.ofNat r < Int32.ofNat 32
          rw [of_lt (by omega) (by decide)]; omega
        have c2 : ¬ β 36 0 9 = 32 := by
          rw [e9]
          show ¬ Int32.ofNat r = Int32.ofNat 32
          rw [of_eq (by omega) (by decide)]; omega
        have f36 : cs_136 (Int32.ofNat n) (Int32.ofNat r) β 36 = β 36 := fr_136 _ _ _ 36 (by decide)
        rw [if_pos c1, if_pos c1, if_pos (Or.inr c2), if_pos (Or.inr c2), if_neg ht]
        refine ⟨rfl, ⟨fun _ hz => absurd hz ht, fun _ _ => ⟨fun _ => ix_n (by decide) (by omega), fun _ => y1⟩⟩, ⟨fun _ _ hz => absurd hz ht, fun _ _ _ => by rw [e9]; exact y2⟩, q, r + 1, ?_⟩
        rw [e9, f36, e9, tI_of1]
        exact y3
end PC
