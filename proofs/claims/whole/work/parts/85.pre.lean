/-! The law's beginning over the list memory: two objects are made. -/
section XZ
variable {σ R : Type} {I : xm_I σ R} {Z : Nat → Nat → Nat → xm_L R → xm_S R → σ → Prop}
def xz_t (I : xm_I σ R) (Z : Nat → Nat → Nat → xm_L R → xm_S R → σ → Prop) (d y mc ms pc : Nat) (ls : xm_L R) (st : xm_S R) (s : σ) (Q : Option (xm_V R) → σ → Prop) : Prop := ∃ n, xm_lp I (xm_MW I d) y Z n mc ms pc ls st s Q
variable {d y mc ms pc : Nat} {ls : xm_L R} {st : xm_S R} {s : σ} {Q : Option (xm_V R) → σ → Prop}
theorem xz_z (h : Z mc ms pc ls st s) : xz_t I Z d y mc ms pc ls st s Q := ⟨0, h⟩
theorem xz_nx {pc' a b : Nat} {ls' : xm_L R} {st' : xm_S R} {s' : σ} (h : xm_st I y pc ls st s = .inl (pc', ls', st', s', a, b)) (ha : a ≤ mc) (hb : b ≤ ms) (k : xz_t I Z d y (mc - a) (ms - b) pc' ls' st' s' Q) : xz_t I Z d y mc ms pc ls st s Q := by
  obtain ⟨n, hn⟩ := k
  refine ⟨n + 1, ?_⟩
  unfold xm_lp
  rw [h]
  exact ⟨ha, hb, hn⟩
theorem xz_cl {y' : Nat} {as r : xm_S R} (h : xm_st I y pc ls st s = .inr (.inr (.inl (y', as, r)))) (h1 : (decide (y' < xt_N) && decide (xt_gc y' ≤ mc) && decide (xt_gs y' ≤ ms) && decide (r.length ≤ 8) && decide (as.length ≤ xt_ml y')) = true) (k : xm_MW I d y' as s (fun v t => xz_t I Z d y (mc - xt_gc y') (ms - xt_gs y') (pc + 3) ls (v.toList ++ r) t Q)) : xz_t I Z d y mc ms pc ls st s Q := by
  simp only [Bool.and_eq_true, decide_eq_true_eq] at h1
  obtain ⟨⟨⟨⟨h1, h2⟩, h3⟩, h4⟩, h5⟩ := h1
  obtain ⟨v, t, ⟨n, hn⟩, hw⟩ := xr_MW_wi _ _ _ _ _ k
  refine ⟨n + 1, ?_⟩
  unfold xm_lp
  rw [h]
  refine ⟨h1, h2, h3, h4, h5, xr_MW_mo _ _ _ _ _ _ (fun v' t' hh => ?_) hw⟩
  obtain ⟨rfl, rfl⟩ := hh
  exact hn
theorem xz_go (n : Nat) {mc' ms' pc' : Nat} {ls' : xm_L R} {st' : xm_S R} {s' : σ} (h : xq_ad I y n mc ms pc ls st s = some (mc', ms', pc', ls', st', s')) (k : xz_t I Z d y mc' ms' pc' ls' st' s' Q) : xz_t I Z d y mc ms pc ls st s Q := by
  induction n generalizing mc ms pc ls st s with
  | zero =>
    cases h
    exact k
  | succ n ih =>
    unfold xq_ad at h
    split at h
    · rename_i hst
      split at h
      · rename_i hc
        exact xz_nx hst hc.1 hc.2 (ih h)
      · cases h
    · cases h
end XZ
/-- the law's cell -/
def cn_c (L : Nat) (xs : Nat → Int32) (k : Int32) : Int32 := if Int32.ofNat L ≤ k then 0 else xs k.toNatClampNeg
section CNP
variable {L : Nat} {xs : Nat → Int32} {d : Nat} {h : List ml_C}
set_option maxRecDepth 100000 in
theorem cn_cell {Q : Option (xm_V Nat) → List ml_C → Prop} {k : Int32} (hk : ¬ k < 0) (hL : L ≤ k.toNatClampNeg → Int32.ofNat L ≤ k) (h0 : Q (some (.inl (cn_c L xs k))) h) : xm_MW (ml_I L xs) (d + 1) 175 [.inr (some 999999), .inl k] h Q := by
  refine xq_in [some (.inr (some 999999)), some (.inl k)] rfl ?_
  refine xq_go 3 (mc' := 0) (ms' := 0) (pc' := 3) (ls' := [some (.inr (some 999999)), some (.inl k)]) (st' := [.inl (Int32.ofNat L), .inl k]) (s' := h) rfl ?_
  refine xq_nx (pc' := if Int32.ofNat L ≤ k then 12 else 6) (a := 0) (b := 0) (ls' := [some (.inr (some 999999)), some (.inl k)]) (st' := []) (s' := h) rfl (Nat.zero_le _) (Nat.zero_le _) ?_
  by_cases c : Int32.ofNat L ≤ k
  · rw [if_pos c]
    rw [cn_c, if_pos c] at h0
    refine xq_go 1 (mc' := 0) (ms' := 0) (pc' := 13) (ls' := [some (.inr (some 999999)), some (.inl k)]) (st' := [.inl 0]) (s' := h) rfl ?_
    exact xq_rt (v := some (.inl 0)) rfl h0
  · rw [if_neg c]
    rw [cn_c, if_neg c] at h0
    refine xq_go 2 (mc' := 0) (ms' := 0) (pc' := 8) (ls' := [some (.inr (some 999999)), some (.inl k)]) (st' := [.inl k, .inr (some 999999)]) (s' := h) rfl ?_
    refine xq_nx (pc' := 9) (a := 0) (b := 0) (ls' := [some (.inr (some 999999)), some (.inl k)]) (st' := [.inl (xs k.toNatClampNeg)]) (s' := h) ?_ (Nat.zero_le _) (Nat.zero_le _) ?_
    · have e : ml_al L xs h 0 999999 k = some (xs k.toNatClampNeg) := by
        unfold ml_al
        rw [if_pos rfl, if_pos ⟨rfl, fun hh => hh.elim hk (fun h2 => c (hL h2))⟩]
      show xm_o (ml_al L xs h 0 999999 k) _ = _
      rw [e]
      rfl
    refine xq_go 1 (mc' := 0) (ms' := 0) (pc' := 13) (ls' := [some (.inr (some 999999)), some (.inl k)]) (st' := [.inl (xs k.toNatClampNeg)]) (s' := h) rfl ?_
    exact xq_rt (v := some (.inl (xs k.toNatClampNeg))) rfl h0
theorem cn_w0 : L ≤ (0 : Int32).toNatClampNeg → Int32.ofNat L ≤ 0 := fun h => by
  have : L ≤ 0 := h
  rcases (by omega : L = 0) with rfl
  decide
theorem cn_w1 : L ≤ (1 : Int32).toNatClampNeg → Int32.ofNat L ≤ 1 := fun h => by
  have : L ≤ 1 := h
  rcases (by omega : L = 0 ∨ L = 1) with rfl | rfl <;> decide
theorem cn_w2 : L ≤ (2 : Int32).toNatClampNeg → Int32.ofNat L ≤ 2 := fun h => by
  have : L ≤ 2 := h
  rcases (by omega : L = 0 ∨ L = 1 ∨ L = 2) with rfl | rfl | rfl <;> decide
set_option maxHeartbeats 4000000 in
set_option maxRecDepth 100000 in
theorem cn_pre {Z : Nat → Nat → Nat → xm_L Nat → xm_S Nat → List ml_C → Prop} {Q : Option (xm_V Nat) → List ml_C → Prop} {a1 a2 a3 : Int32} (e1 : cn_c L xs 0 = a1) (e2 : cn_c L xs 1 = a2) (e3 : cn_c L xs 2 = a3)
    (hZ : ∀ mc ms, Z mc ms 48 [some (.inr (some 999999)), some (.inr (some 0)), some (.inr (some 125)), some (.inl 3)] [] (mh_c153 a1 a2 a3)) : xz_t (ml_I L xs) Z 8 176 200 10000 0 [some (.inr (some 999999)), none, none, none] [] [] Q := by
  refine xz_go 4 (mc' := 199) (ms' := 9994) (pc' := 6) (ls' := [some (.inr (some 999999)), none, none, none]) (st' := [.inl 0, .inr (some 999999), .inr (some 0), .inr (some 0)]) (s' := mh_c1 a1 a2 a3) rfl ?_
  refine xz_cl (y' := 175) (as := [.inr (some 999999), .inl 0]) (r := [.inr (some 0), .inr (some 0)]) rfl rfl ?_
  refine cn_cell (d := 7) (by decide) cn_w0 ?_
  rw [e1]
  show xz_t (ml_I L xs) Z 8 176 199 9994 9 [some (.inr (some 999999)), none, none, none] [.inl a1, .inr (some 0), .inr (some 0)] (mh_c1 a1 a2 a3) Q
  refine xz_go 2 (mc' := 199) (ms' := 9994) (pc' := 11) (ls' := [some (.inr (some 999999)), none, none, none]) (st' := [.inl 1, .inr (some 999999), .inl a1, .inr (some 0), .inr (some 0)]) (s' := mh_c1 a1 a2 a3) rfl ?_
  refine xz_cl (y' := 175) (as := [.inr (some 999999), .inl 1]) (r := [.inl a1, .inr (some 0), .inr (some 0)]) rfl rfl ?_
  refine cn_cell (d := 7) (by decide) cn_w1 ?_
  rw [e2]
  show xz_t (ml_I L xs) Z 8 176 199 9994 14 [some (.inr (some 999999)), none, none, none] [.inl a2, .inl a1, .inr (some 0), .inr (some 0)] (mh_c1 a1 a2 a3) Q
  refine xz_go 2 (mc' := 199) (ms' := 9994) (pc' := 16) (ls' := [some (.inr (some 999999)), none, none, none]) (st' := [.inl 2, .inr (some 999999), .inl a2, .inl a1, .inr (some 0), .inr (some 0)]) (s' := mh_c1 a1 a2 a3) rfl ?_
  refine xz_cl (y' := 175) (as := [.inr (some 999999), .inl 2]) (r := [.inl a2, .inl a1, .inr (some 0), .inr (some 0)]) rfl rfl ?_
  refine cn_cell (d := 7) (by decide) cn_w2 ?_
  rw [e3]
  show xz_t (ml_I L xs) Z 8 176 199 9994 19 [some (.inr (some 999999)), none, none, none] [.inl a3, .inl a2, .inl a1, .inr (some 0), .inr (some 0)] (mh_c1 a1 a2 a3) Q
  refine xz_cl (y' := 0) (as := [.inr (some 0), .inl a1, .inl a2, .inl a3]) (r := [.inr (some 0)]) rfl rfl ?_
  refine cn_c64 (d := 5) ?_
  show xz_t (ml_I L xs) Z 8 176 75 7569 22 [some (.inr (some 999999)), none, none, none] [.inr (some 0)] (mh_c134 a1 a2 a3) Q
  refine xz_go 5 (mc' := 74) (ms' := 7511) (pc' := 29) (ls' := [some (.inr (some 999999)), some (.inr (some 0)), none, none]) (st' := [.inl 0, .inr (some 999999), .inr (some 125), .inr (some 125)]) (s' := mh_c135 a1 a2 a3) rfl ?_
  refine xz_cl (y' := 175) (as := [.inr (some 999999), .inl 0]) (r := [.inr (some 125), .inr (some 125)]) rfl rfl ?_
  refine cn_cell (d := 7) (by decide) cn_w0 ?_
  rw [e1]
  show xz_t (ml_I L xs) Z 8 176 74 7511 32 [some (.inr (some 999999)), some (.inr (some 0)), none, none] [.inl a1, .inr (some 125), .inr (some 125)] (mh_c135 a1 a2 a3) Q
  refine xz_go 2 (mc' := 74) (ms' := 7511) (pc' := 34) (ls' := [some (.inr (some 999999)), some (.inr (some 0)), none, none]) (st' := [.inl 1, .inr (some 999999), .inl a1, .inr (some 125), .inr (some 125)]) (s' := mh_c135 a1 a2 a3) rfl ?_
  refine xz_cl (y' := 175) (as := [.inr (some 999999), .inl 1]) (r := [.inl a1, .inr (some 125), .inr (some 125)]) rfl rfl ?_
  refine cn_cell (d := 7) (by decide) cn_w1 ?_
  rw [e2]
  show xz_t (ml_I L xs) Z 8 176 74 7511 37 [some (.inr (some 999999)), some (.inr (some 0)), none, none] [.inl a2, .inl a1, .inr (some 125), .inr (some 125)] (mh_c135 a1 a2 a3) Q
  refine xz_go 2 (mc' := 74) (ms' := 7511) (pc' := 39) (ls' := [some (.inr (some 999999)), some (.inr (some 0)), none, none]) (st' := [.inl 2, .inr (some 999999), .inl a2, .inl a1, .inr (some 125), .inr (some 125)]) (s' := mh_c135 a1 a2 a3) rfl ?_
  refine xz_cl (y' := 175) (as := [.inr (some 999999), .inl 2]) (r := [.inl a2, .inl a1, .inr (some 125), .inr (some 125)]) rfl rfl ?_
  refine cn_cell (d := 7) (by decide) cn_w2 ?_
  rw [e3]
  show xz_t (ml_I L xs) Z 8 176 74 7511 42 [some (.inr (some 999999)), some (.inr (some 0)), none, none] [.inl a3, .inl a2, .inl a1, .inr (some 125), .inr (some 125)] (mh_c135 a1 a2 a3) Q
  refine xz_cl (y' := 121) (as := [.inr (some 125), .inl a1, .inl a2, .inl a3]) (r := [.inr (some 125)]) rfl rfl ?_
  refine cn_m (d := 7) ?_
  show xz_t (ml_I L xs) Z 8 176 25 4878 45 [some (.inr (some 999999)), some (.inr (some 0)), none, none] [.inr (some 125)] (mh_c153 a1 a2 a3) Q
  refine xz_go 3 (mc' := 25) (ms' := 4878) (pc' := 48) (ls' := [some (.inr (some 999999)), some (.inr (some 0)), some (.inr (some 125)), some (.inl 3)]) (st' := []) (s' := mh_c153 a1 a2 a3) rfl ?_
  exact xz_z (hZ _ _)
end CNP
