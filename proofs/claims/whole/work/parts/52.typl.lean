/-! The laws of the typed memory. -/
section TML
variable {base b0 L : Nat} {xs : Nat → Int32} {tys : List (ClassId × FieldType)}
theorem tm_wl_get {μ : tm_M} (j : Nat) : (tm_wl base b0 tys μ)[j]? = (tk_pl[j]?).map (fun q => (base + j, tm_E base b0 tys μ q.1 q.2)) := by
  unfold tm_wl
  rw [List.getElem?_mapIdx]
theorem tm_ad_k {k i : Nat} (hk : k < tk_NK) : tm_ad base b0 (k, i) = base + tk_of k i := by
  have : k ≠ 99 := fun h => by rw [h] at hk; exact absurd hk (by decide)
  unfold tm_ad
  rw [if_neg this]
theorem tm_at {μ : tm_M} {k i : Nat} (hk : k < tk_NK) (hi : i < tk_ct k) : (tm_wl base b0 tys μ)[tk_of k i]? = some (tm_ad base b0 (k, i), tm_E base b0 tys μ k i) := by
  rw [tm_wl_get, tk_ofs k hk i hi, tm_ad_k hk]
  rfl
theorem tm_sv_c {μ μ' : tm_M} {k i p : Nat} (h : μ' k i p = μ k i p) : tm_sv μ' k i p = tm_sv μ k i p ∧ tm_rf μ' k i p = tm_rf μ k i p := by
  have h2 : tm_rf μ' k i p = tm_rf μ k i p := by
    unfold tm_rf
    split <;> first | rfl | rw [h]
  refine ⟨?_, h2⟩
  unfold tm_sv
  split
  · rw [h]
  · rw [h2]
theorem tm_E_c {μ μ' : tm_M} {k i : Nat} (h : ∀ p, μ' k i p = μ k i p) : tm_E base b0 tys μ' k i = tm_E base b0 tys μ k i := by
  have h0 : μ' k i = μ k i := funext h
  have h1 : (fun p => xm_e (tm_ad base b0) (tm_sv μ' k i p)) = fun p => xm_e (tm_ad base b0) (tm_sv μ k i p) := funext fun p => by rw [(tm_sv_c (h p)).1]
  have h2 : (fun p => (tm_rf μ' k i p).map (tm_ad base b0)) = fun p => (tm_rf μ k i p).map (tm_ad base b0) := funext fun p => by rw [(tm_sv_c (h p)).2]
  unfold tm_E
  rw [h0, h1, h2]
/-- one cell of a row of cells changes -/
theorem tm_gen {base f0 k i : Nat} {pl : List (Nat × Nat)} {E E' : Nat → Nat → va_E} (hof : pl[f0]? = some (k, i)) (hne : ∀ (j : Nat) (q : Nat × Nat), pl[j]? = some q → q.1 = k → q.2 = i → j = f0) (hE : ∀ a b, ¬ (a = k ∧ b = i) → E' a b = E a b) : pl.mapIdx (fun j q => (base + j, E' q.1 q.2)) = (pl.mapIdx (fun j q => (base + j, E q.1 q.2))).set f0 (base + f0, E' k i) := by
  have hlt : f0 < pl.length := (List.getElem?_eq_some_iff.mp hof).1
  apply List.ext_getElem?
  intro j
  by_cases hj : f0 = j
  · subst hj
    rw [List.getElem?_set_self (by rw [List.length_mapIdx]; exact hlt), List.getElem?_mapIdx, hof]
    rfl
  · rw [List.getElem?_set_ne hj, List.getElem?_mapIdx, List.getElem?_mapIdx]
    cases hq : pl[j]? with
    | none => rfl
    | some q =>
      have := hE q.1 q.2 (fun h => hj (hne j q hq h.1 h.2).symm)
      simp only [Option.map_some, this]
theorem tm_wl_up {μ μ' : tm_M} {k i : Nat} (hk : k < tk_NK) (hi : i < tk_ct k) (h : ∀ a b c, ¬ (a = k ∧ b = i) → μ' a b c = μ a b c) : tm_wl base b0 tys μ' = (tm_wl base b0 tys μ).set (tk_of k i) (tm_ad base b0 (k, i), tm_E base b0 tys μ' k i) := by
  rw [tm_ad_k hk]
  unfold tm_wl
  refine tm_gen (tk_ofs k hk i hi) (fun j q hq h1 h2 => ?_) (fun a b hh => tm_E_c (fun p => h a b p hh))
  have hjl : j < tk_NC := tk_pln ▸ (List.getElem?_eq_some_iff.mp hq).1
  rw [← (tk_pls j hjl q hq).2, h1, h2]
theorem tm_D (μ : tm_M) : va_D (fun q => base ≤ q) (tm_wl base b0 tys μ) := by
  have key : ∀ (k : Nat) (q : Nat × va_E), (tm_wl base b0 tys μ)[k]? = some q → q.1 = base + k := by
    intro k q hk
    rw [tm_wl_get] at hk
    cases hh : tk_pl[k]? with
    | none => rw [hh] at hk; cases hk
    | some c => rw [hh] at hk; cases hk; rfl
  refine ⟨fun i j p q hp hq e => ?_, fun k q hk => by rw [key k q hk]; exact Nat.le_add_right _ _⟩
  have h1 := key i p hp
  have h2 := key j q hq
  omega
/-- a live reference of a kind that isn't the script -/
theorem tm_lk {μ : tm_M} {r : tm_R} (h : tm_Lv μ r) (h9 : tk_so r.1 ≠ 9) : r.1 < tk_NK ∧ r.2 < tk_ct r.1 := by
  rcases h with ⟨h1, -⟩ | h1
  · rw [h1] at h9
    exact absurd (by decide) h9
  · exact h1
theorem tm_rf_lv {μ : tm_M} (hG : tm_Gd μ) {k i p : Nat} (hk : k < tk_NK) (hi : i < tk_ct k) (hp : (tk_so k = 0 ∧ p < tk_f k) ∨ (tk_so k = 2 ∧ p < tk_n k)) {r : tm_R} (h : tm_rf μ k i p = some r) : tm_Lv μ r := by
  have hok : tk_ok k (if tk_so k = 0 then p else 0) = true := by
    rcases hp with ⟨h1, h2⟩ | ⟨h1, h2⟩
    · rw [if_pos h1]; exact tk_oks k hk p h2
    · rw [if_neg (by rw [h1]; decide)]
      have hr := tk_okrs k hk
      unfold tk_okr at hr
      rw [if_neg (by rw [h1]; decide), if_neg (by rw [h1]; decide)] at hr
      simp only [decide_eq_true_eq] at hr
      exact tk_oks k hk 0 (by rw [hr.2.2.2]; decide)
  have hsp : tk_sp k (if tk_so k = 0 then p else 0) = tk_sp k p := by
    unfold tk_sp
    split <;> rfl
  unfold tk_ok at hok
  rw [hsp] at hok
  unfold tm_rf at h
  split at h
  · rename_i q c hs
    rw [hs] at hok
    simp only [decide_eq_true_eq] at hok
    cases h
    exact Or.inr ⟨hok.1, hok.2.1⟩
  · rename_i q c hs
    rw [hs] at hok
    simp only [decide_eq_true_eq] at hok
    cases h
    exact Or.inr ⟨hok.1, by rw [← hok.2.1]; exact hi⟩
  · rename_i q c hs
    rw [hs] at hok
    simp only [Bool.and_eq_true, decide_eq_true_eq] at hok
    cases h
    obtain ⟨rfl, -⟩ := hok
    exact Or.inr ⟨by show 4 < tk_NK; decide, hG k i p 4 c hs⟩
  · rename_i q c hs
    rw [hs] at hok
    simp only [decide_eq_true_eq] at hok
    cases h
    refine Or.inr ⟨hok.1, ?_⟩
    rcases hp with ⟨h1, h2⟩ | ⟨h1, h2⟩
    · rw [hok.2.2] at h1; cases h1
    · exact Nat.lt_of_lt_of_le h2 hok.2.1
  · cases h
theorem tm_sv_lv {μ : tm_M} (hG : tm_Gd μ) {k i p : Nat} (hk : k < tk_NK) (hi : i < tk_ct k) (hs : tk_so k = 0) (hp : p < tk_f k) : xm_vv tm_Lv μ (tm_sv μ k i p) := by
  intro r h
  unfold tm_sv at h
  split at h
  · cases h
  · exact tm_rf_lv hG hk hi (Or.inl ⟨hs, hp⟩) (by injection h)
theorem tm_lgf : xm_lgf (tm_I L xs) (tm_ad base b0) (tm_wl base b0 tys) tm_Lv tm_Gd := by
  intro μ r ci p v hG hL h
  replace h : tm_gf μ r ci p = some v := h
  unfold tm_gf at h
  split at h
  · rename_i hc
    obtain ⟨hs, rfl, hp⟩ := hc
    cases h
    obtain ⟨k, i⟩ := r
    obtain ⟨hk, hi⟩ := tm_lk hL (by rw [hs]; decide)
    refine ⟨tm_sv_lv hG hk hi hs hp, tk_of k i, (List.range (tk_f k)).map fun p => xm_e (tm_ad base b0) (tm_sv μ k i p), ?_, ?_⟩
    · rw [tm_at hk hi]
      unfold tm_E
      rw [if_pos hs]
    · rw [List.getElem?_map, List.getElem?_range hp]
      rfl
  · cases h
theorem tm_loc : xm_loc (tm_I L xs) (tm_ad base b0) (tm_wl base b0 tys) tm_Lv tm_Gd := by
  intro μ ci r hG hL h
  replace h : tm_oc μ ci r = true := h
  unfold tm_oc at h
  simp only [decide_eq_true_eq] at h
  obtain ⟨hs, rfl⟩ := h
  obtain ⟨k, i⟩ := r
  obtain ⟨hk, hi⟩ := tm_lk hL (by rw [hs]; decide)
  refine ⟨tk_of k i, (List.range (tk_f k)).map fun p => xm_e (tm_ad base b0) (tm_sv μ k i p), ?_⟩
  rw [tm_at hk hi]
  unfold tm_E
  rw [if_pos hs]
theorem tm_34 {n : Nat} (h : n < 34) : (Int32.ofNat n).toNatClampNeg = n := nI_clamp (by omega)
theorem tm_Gd_wr {μ : tm_M} (hG : tm_Gd μ) {k i p : Nat} {x : Int32} (h : ∀ q c, tk_sp k p = (3, q, c) → x.toNatClampNeg < 34) : tm_Gd (tm_wr μ k i p x) := by
  intro a b c q d hs
  unfold tm_wr
  split
  · rename_i hh
    obtain ⟨rfl, rfl, rfl⟩ := hh
    exact h q d hs
  · exact hG a b c q d hs
theorem tm_wr_s {μ : tm_M} {k i p : Nat} {x : Int32} : tm_wr μ k i p x k i p = x := by
  unfold tm_wr
  rw [if_pos ⟨rfl, rfl, rfl⟩]
theorem tm_wr_n {μ : tm_M} {k i p a b c : Nat} {x : Int32} (h : ¬ (a = k ∧ b = i ∧ c = p)) : tm_wr μ k i p x a b c = μ a b c := by
  unfold tm_wr
  rw [if_neg (fun q => h ⟨q.1, q.2.2, q.2.1⟩)]
theorem tm_gen2 {n p : Nat} {α : Type} {f g : Nat → α} {v : α} (hp : p < n) (hv : g p = v) (hg : ∀ j, ¬ p = j → g j = f j) : (List.range n).map g = ((List.range n).map f).set p v := by
  apply List.ext_getElem?
  intro j
  by_cases hj : p = j
  · subst hj
    rw [List.getElem?_set_self (by rw [List.length_map, List.length_range]; exact hp), List.getElem?_map, List.getElem?_range hp]
    exact congrArg some hv
  · rw [List.getElem?_set_ne hj, List.getElem?_map, List.getElem?_map]
    by_cases hjl : j < n
    · rw [List.getElem?_range hjl]
      exact congrArg some (hg j hj)
    · rw [List.getElem?_eq_none (by rw [List.length_range]; omega)]
      rfl
/-- a field's new world -/
theorem tm_wl_pf {μ : tm_M} {k i p : Nat} {x : Int32} {v : xm_V tm_R} (hk : k < tk_NK) (hi : i < tk_ct k) (hs : tk_so k = 0) (hp : p < tk_f k) (hv : tm_sv (tm_wr μ k i p x) k i p = v) : tm_wl base b0 tys (tm_wr μ k i p x) = (tm_wl base b0 tys μ).set (tk_of k i) (tm_ad base b0 (k, i), .inr (tk_a k, ((List.range (tk_f k)).map fun p => xm_e (tm_ad base b0) (tm_sv μ k i p)).set p (xm_e (tm_ad base b0) v))) := by
  have hE : tm_E base b0 tys (tm_wr μ k i p x) k i = .inr (tk_a k, ((List.range (tk_f k)).map fun p => xm_e (tm_ad base b0) (tm_sv μ k i p)).set p (xm_e (tm_ad base b0) v)) := by
    unfold tm_E
    rw [if_pos hs]
    refine congrArg (fun z => Sum.inr (tk_a k, z)) (tm_gen2 hp (by rw [hv]) (fun j hj => ?_))
    rw [(tm_sv_c (tm_wr_n (fun q => hj q.2.2.symm))).1]
  rw [tm_wl_up hk hi (μ' := tm_wr μ k i p x) (fun a b c h => tm_wr_n (fun q => h ⟨q.1, q.2.1⟩)), hE]
theorem tm_lpf : xm_lpf (tm_I L xs) (tm_ad base b0) (tm_wl base b0 tys) tm_Lv tm_Gd (fun _ => 0) := by
  intro μ r ci p v u hG hL hv h
  replace h : tm_pf μ r ci p v = some u := h
  unfold tm_pf at h
  split at h
  · rename_i hc
    obtain ⟨hs, rfl, hp⟩ := hc
    obtain ⟨k, i⟩ := r
    obtain ⟨hk, hi⟩ := tm_lk hL (by rw [hs]; decide)
    have hok := tk_oks k hk p hp
    unfold tk_ok at hok
    have hE : (tm_wl base b0 tys μ)[tk_of k i]? = some (tm_ad base b0 (k, i), .inr (tk_a k, (List.range (tk_f k)).map fun p => xm_e (tm_ad base b0) (tm_sv μ k i p))) := by
      rw [tm_at hk hi]
      unfold tm_E
      rw [if_pos hs]
    split at h
    · rename_i q c x hsp
      dsimp only at hsp
      rw [hsp] at hok
      simp only [decide_eq_true_eq] at hok
      split at h
      · cases h
      · rename_i hb
        cases h
        refine ⟨⟨tm_Gd_wr hG (fun q c h => by rw [hsp] at h; cases h), rfl, fun _ h => h⟩, ?_, tk_of k i, _, hE, by rw [List.length_map, List.length_range]; exact hp, tm_wl_pf hk hi hs hp ?_⟩
        · rcases hok hs with h1 | h1
          · show narrow (xt_ft (tk_a k) p) _ = _ ∧ fits (xt_ft (tk_a k) p) _ = _
            rw [h1]
            exact ⟨rfl, rfl⟩
          · have hx : x = 0 ∨ x = 1 := Classical.byContradiction fun h => hb ⟨h1, h⟩
            show narrow (xt_ft (tk_a k) p) _ = _ ∧ fits (xt_ft (tk_a k) p) _ = _
            rw [h1]
            rcases hx with rfl | rfl <;> exact ⟨rfl, rfl⟩
        · unfold tm_sv
          rw [hsp]
          show Sum.inl _ = _
          rw [tm_wr_s]
    · rename_i q c w hsp
      dsimp only at hsp
      rw [hsp] at hok
      simp only [Bool.and_eq_true, decide_eq_true_eq] at hok
      rw [if_pos hs] at hok
      split at h
      · rename_i hw
        cases h
        have hwl := hv w rfl
        obtain ⟨wk, wi⟩ := w
        obtain ⟨rfl, hob⟩ := hok
        have hw : wk = 4 := hw
        subst hw
        have hwi : wi < 34 := by
          rcases hwl with ⟨h1, -⟩ | ⟨-, h1⟩
          · cases h1
          · exact h1
        refine ⟨⟨tm_Gd_wr hG (fun q c h => by show (Int32.ofNat wi).toNatClampNeg < 34; rw [tm_34 hwi]; exact hwi), rfl, fun _ h => h⟩, ?_, tk_of k i, _, hE, by rw [List.length_map, List.length_range]; exact hp, tm_wl_pf hk hi hs hp ?_⟩
        · show narrow (xt_ft (tk_a k) p) (.ref _) = .ref _ ∧ fits (xt_ft (tk_a k) p) (.ref _) = _
          obtain ⟨C, hC⟩ := xt_isoq hob
          rw [hC]
          exact ⟨rfl, rfl⟩
        · unfold tm_sv
          rw [hsp]
          show Sum.inr (tm_rf _ _ _ _) = _
          unfold tm_rf
          rw [hsp]
          show Sum.inr (some (4, _)) = _
          rw [tm_wr_s, tm_34 hwi]
      · cases h
    · cases h
  · cases h
theorem tm_ixq {i : Int32} {n : Nat} (h : tm_ix i n = true) : vp_in i n := by
  unfold tm_ix at h
  simp only [decide_eq_true_eq] at h
  exact h
theorem tm_so1 {k : Nat} (hk : k < tk_NK) (hs : tk_so k = 1) : tk_a k < 2 := by
  have h := tk_okrs k hk
  unfold tk_okr at h
  rw [if_neg (by rw [hs]; decide), if_pos hs] at h
  simpa using h
theorem tm_so2 {k : Nat} (hk : k < tk_NK) (hs : tk_so k = 2) : 2 ≤ tk_a k ∧ tk_a k < 6 ∧ tk_f k = 1 := by
  have h := tk_okrs k hk
  unfold tk_okr at h
  rw [if_neg (by rw [hs]; decide), if_neg (by rw [hs]; decide)] at h
  simp only [decide_eq_true_eq] at h
  exact h.2
theorem tm_sp1 {k : Nat} (hk : k < tk_NK) (hs : tk_so k = 1) {p q c : Nat} : ¬ tk_sp k p = (3, q, c) := by
  have h : ∀ k, k < tk_NK → tk_so k = 1 → tk_sp k 0 = (0, 0, 0) := by decide +kernel
  have h0 := h k hk hs
  intro h2
  have : tk_sp k p = tk_sp k 0 := by
    unfold tk_sp
    rw [if_neg (by rw [hs]; decide), if_neg (by rw [hs]; decide)]
  rw [this, h0] at h2
  cases h2
theorem tm_E1 {μ : tm_M} {k i : Nat} {c : ClassId} {ty : FieldType} (hs : tk_so k = 1) (hc : tys[tk_a k]? = some (c, ty)) : tm_E base b0 tys μ k i = .inl (c, tk_n k, .inl (μ k i)) := by
  unfold tm_E
  rw [if_neg (by rw [hs]; decide), if_pos hs, List.getD_eq_getElem?_getD, hc]
  rfl
theorem tm_E2 {μ : tm_M} {k i : Nat} {c : ClassId} {ty : FieldType} (hs : tk_so k = 2) (hc : tys[tk_a k]? = some (c, ty)) : tm_E base b0 tys μ k i = .inl (c, tk_n k, .inr (.inr (.inr (.inr fun p => (tm_rf μ k i p).map (tm_ad base b0))))) := by
  unfold tm_E
  rw [if_neg (by rw [hs]; decide), if_neg (by rw [hs]; decide), List.getD_eq_getElem?_getD, hc]
  rfl
theorem tm_lal (ht : ml_ty tys) : xm_lal (tm_I L xs) (tm_ad base b0) (tm_wl base b0 tys) tm_Lv tm_Gd tys b0 L xs := by
  intro μ t r i x ht2 hG hL h
  replace h : tm_al L xs μ t r i = some x := h
  unfold tm_al at h
  split at h
  · rename_i h99
    split at h
    · rename_i hc
      cases h
      refine Or.inr ⟨hc.1, ?_, tm_ixq hc.2, rfl⟩
      unfold tm_ad
      rw [if_pos h99]
    · cases h
  · split at h
    · rename_i hc
      obtain ⟨hs, rfl, hin⟩ := hc
      cases h
      obtain ⟨k, i'⟩ := r
      obtain ⟨hk, hi⟩ := tm_lk hL (by rw [hs]; decide)
      obtain ⟨c, hc⟩ := ht.1 _ ht2
      exact Or.inl ⟨tk_of k i', c, tk_n k, μ k i', by rw [tm_at hk hi, tm_E1 hs hc], hc, tm_ixq hin, rfl⟩
    · cases h
theorem tm_las (ht : ml_ty tys) : xm_las (tm_I L xs) (tm_ad base b0) (tm_wl base b0 tys) tm_Lv tm_Gd (fun _ => 0) tys := by
  intro μ t r i x u ht2 hG hL h
  replace h : tm_as μ t r i x = some u := h
  unfold tm_as at h
  split at h
  · rename_i hc
    obtain ⟨hs, rfl, hin⟩ := hc
    cases h
    obtain ⟨k, i'⟩ := r
    obtain ⟨hk, hi⟩ := tm_lk hL (by rw [hs]; decide)
    obtain ⟨c, hc⟩ := ht.1 _ ht2
    refine ⟨⟨tm_Gd_wr hG (fun q c h => ?_), rfl, fun _ h => h⟩, tk_of k i', c, tk_n k, μ k i', by rw [tm_at hk hi, tm_E1 hs hc], hc, tm_ixq hin, ?_⟩
    · exact absurd h (tm_sp1 hk hs)
    · rw [tm_wl_up hk hi (μ' := tm_wr μ k i' i.toNatClampNeg _) (fun a b c h => tm_wr_n (fun q => h ⟨q.1, q.2.1⟩)), tm_E1 hs hc]
      refine congrArg (fun z => (tm_wl base b0 tys μ).set (tk_of k i') (tm_ad base b0 (k, i'), Sum.inl (c, tk_n k, Sum.inl z))) (funext fun p => ?_)
      show tm_wr μ k i' i.toNatClampNeg _ k i' p = upd (μ k i') i.toNatClampNeg _ p
      unfold tm_wr upd
      by_cases hp : p = i.toNatClampNeg
      · rw [if_pos ⟨rfl, hp, rfl⟩, if_pos hp]
      · rw [if_neg (fun q => hp q.2.1), if_neg hp]
  · cases h
theorem tm_lrl (ht : ml_ty tys) : xm_lrl (tm_I L xs) (tm_ad base b0) (tm_wl base b0 tys) tm_Lv tm_Gd tys := by
  intro μ r i v hG hL h
  replace h : tm_rl μ r i = some v := h
  unfold tm_rl at h
  split at h
  · rename_i hc
    obtain ⟨hs, hin⟩ := hc
    cases h
    obtain ⟨k, i'⟩ := r
    obtain ⟨hk, hi⟩ := tm_lk hL (by rw [hs]; decide)
    have h2 := tm_so2 hk hs
    obtain ⟨c, ty, hc, hrf⟩ := ml_tyr ht h2.1 h2.2.1
    have hin := tm_ixq hin
    refine ⟨fun q e => tm_rf_lv hG hk hi (Or.inr ⟨hs, Nat.not_le.mp fun q => hin (Or.inr q)⟩) (by injection e), tk_of k i', tk_a k, c, ty, tk_n k, _, by rw [tm_at hk hi, tm_E2 hs hc], hc, hrf, hin, ?_⟩
    show va_rf ((tm_rf μ k i' i.toNatClampNeg).map _) = xm_e _ (.inr (tm_rf μ k i' i.toNatClampNeg))
    cases tm_rf μ k i' i.toNatClampNeg <;> rfl
  · cases h
theorem tm_lrs (ht : ml_ty tys) : xm_lrs (tm_I L xs) (tm_ad base b0) (tm_wl base b0 tys) tm_Lv tm_Gd (fun _ => 0) tys := by
  intro μ r i w u hG hL hw h
  replace h : tm_rs μ r i w = some u := h
  unfold tm_rs at h
  split at h
  · rename_i hc
    obtain ⟨hs, hsp, hin⟩ := hc
    cases h
    obtain ⟨k, i'⟩ := r
    obtain ⟨wk, wi⟩ := w
    obtain ⟨hk, hi⟩ := tm_lk hL (by rw [hs]; decide)
    have h2 := tm_so2 hk hs
    have hin := tm_ixq hin
    have hok := tk_oks k hk 0 (by rw [h2.2.2]; decide)
    unfold tk_ok at hok
    rw [hsp] at hok
    simp only [Bool.and_eq_true, decide_eq_true_eq] at hok
    rw [if_neg (by rw [hs]; decide)] at hok
    simp only [decide_eq_true_eq] at hok
    obtain ⟨hw4, ha3⟩ := hok
    have hw4 : wk = 4 := hw4
    subst hw4
    have hwi : wi < 34 := by
      rcases hw with ⟨h1, -⟩ | ⟨-, h1⟩
      · cases h1
      · exact h1
    have hspp : ∀ p, tk_sp k p = (3, 4, 0) := by
      intro p
      rw [← hsp]
      unfold tk_sp
      rw [if_neg (by rw [hs]; decide), if_neg (by rw [hs]; decide)]
    obtain ⟨c, hc⟩ := ht.2.2 (tk_a k) (by rw [ha3]; decide) h2.2.1
    have h4k : (4 : Nat) < tk_NK := by decide
    have hv : (tm_wl base b0 tys μ)[tk_of 4 wi]? = some (tm_ad base b0 (4, wi), .inr (6, (List.range (tk_f 4)).map fun p => xm_e (tm_ad base b0) (tm_sv μ 4 wi p))) := by
      rw [tm_at h4k (show wi < tk_ct 4 from hwi)]
      rfl
    obtain ⟨row, hrow, hrn⟩ := xt_csq 6 (by decide)
    refine ⟨⟨tm_Gd_wr hG (fun q c h => by rw [tm_34 hwi]; exact hwi), rfl, fun _ h => h⟩, tk_of k i', tk_a k, tk_of 4 wi, 6, c, row, tk_n k, _, _, by rw [tm_at hk hi, tm_E2 hs hc], by rw [hc, ha3, hrn]; rfl, hv, hrow, hin, ?_⟩
    rw [tm_wl_up hk hi (μ' := tm_wr μ k i' i.toNatClampNeg _) (fun a b c h => tm_wr_n (fun q => h ⟨q.1, q.2.1⟩)), tm_E2 hs hc]
    refine congrArg (fun z => (tm_wl base b0 tys μ).set (tk_of k i') (tm_ad base b0 (k, i'), Sum.inl (c, tk_n k, Sum.inr (Sum.inr (Sum.inr (Sum.inr z)))))) (funext fun p => ?_)
    show (tm_rf (tm_wr μ k i' i.toNatClampNeg (Int32.ofNat wi)) k i' p).map _ = va_up (fun p => (tm_rf μ k i' p).map (tm_ad base b0)) i.toNatClampNeg (some (tm_ad base b0 (4, wi))) p
    unfold va_up
    by_cases hp : p = i.toNatClampNeg
    · rw [if_pos hp, hp]
      unfold tm_rf
      rw [hspp]
      show some (tm_ad base b0 (4, _)) = _
      rw [tm_wr_s, tm_34 hwi]
    · rw [if_neg hp, (tm_sv_c (tm_wr_n (fun q => hp q.2.2))).2]
  · cases h
theorem tm_lln (ht : ml_ty tys) : xm_lln (tm_I L xs) (tm_ad base b0) (tm_wl base b0 tys) tm_Lv tm_Gd tys b0 L := by
  intro μ r n hG hL h
  replace h : tm_ln L μ r = some n := h
  unfold tm_ln at h
  split at h
  · rename_i h99
    cases h
    refine Or.inr ⟨?_, rfl⟩
    unfold tm_ad
    rw [if_pos h99]
  · split at h
    · rename_i hc
      cases h
      obtain ⟨k, i⟩ := r
      rcases hc with hs | hs
      · obtain ⟨hk, hi⟩ := tm_lk hL (by rw [hs]; decide)
        obtain ⟨c, hc⟩ := ht.1 _ (tm_so1 hk hs)
        exact Or.inl ⟨tk_of k i, tk_a k, c, (tk_n k, .inl (μ k i)), _, by rw [tm_at hk hi, tm_E1 hs hc], hc, rfl⟩
      · obtain ⟨hk, hi⟩ := tm_lk hL (by rw [hs]; decide)
        have h2 := tm_so2 hk hs
        obtain ⟨c, ty, hc, -⟩ := ml_tyr ht h2.1 h2.2.1
        exact Or.inl ⟨tk_of k i, tk_a k, c, (tk_n k, _), ty, by rw [tm_at hk hi, tm_E2 hs hc], hc, rfl⟩
    · cases h
theorem tm_lcp (ht : ml_ty tys) : xm_lcp False (tm_I L xs) (tm_ad base b0) (tm_wl base b0 tys) tm_Lv tm_Gd (fun _ => 0) tys := by
  intro μ r sp d dp n u hG hL hd h
  replace h : tm_cp μ r sp d dp n = some u := h
  unfold tm_cp at h
  split at h
  · rename_i hc
    obtain ⟨hs, hs2, ha, ha2, c1, c2, c3, c4, c5⟩ := hc
    cases h
    obtain ⟨k, i⟩ := r
    obtain ⟨k2, i2⟩ := d
    obtain ⟨hk, hi⟩ := tm_lk hL (by rw [hs]; decide)
    obtain ⟨hk2, hi2⟩ := tm_lk hd (by rw [hs2]; decide)
    obtain ⟨c, hc⟩ := ht.1 0 (by decide)
    have hcA : tys[tk_a k]? = some (c, xt_tt 0) := by rw [show tk_a k = 0 from ha]; exact hc
    have hcB : tys[tk_a k2]? = some (c, xt_tt 0) := by rw [show tk_a k2 = 0 from ha2]; exact hc
    refine ⟨fun h => h, ⟨?_, rfl, fun _ h => h⟩, tk_of k i, tk_of k2 i2, c, tk_n k, tk_n k2, μ k i, μ k2 i2, by rw [tm_at hk hi, tm_E1 hs hcA], by rw [tm_at hk2 hi2, tm_E1 hs2 hcB], hc, c1, c2, c3, c4, c5, ?_⟩
    · intro a b p q e hsp
      show (tm_cb μ k i k2 i2 _ _ _ a b p).toNatClampNeg < 34
      unfold tm_cb
      split
      · rename_i hh
        obtain ⟨rfl, rfl⟩ := hh
        exact absurd hsp (tm_sp1 hk2 hs2)
      · exact hG a b p q e hsp
    · rw [tm_wl_up hk2 hi2 (μ' := tm_cb μ k i k2 i2 _ _ _) (fun a b c h => by unfold tm_cb; rw [if_neg h]), tm_E1 hs2 hcB]
      refine congrArg (fun z => (tm_wl base b0 tys μ).set (tk_of k2 i2) (tm_ad base b0 (k2, i2), Sum.inl (c, tk_n k2, Sum.inl z))) (funext fun p => ?_)
      show tm_cb μ k i k2 i2 _ _ _ k2 i2 p = _
      unfold tm_cb
      rw [if_pos ⟨rfl, rfl⟩]
  · cases h
theorem tm_Lw (base b0 L : Nat) (xs : Nat → Int32) (tys : List (ClassId × FieldType)) (ht : ml_ty tys) : xm_Lw False (tm_I L xs) (tm_ad base b0) (tm_wl base b0 tys) tm_Lv tm_Gd (fun _ => 0) tys base b0 L xs :=
  ⟨fun s _ => tm_D s, tm_lgf, tm_lpf, tm_lal ht, tm_las ht, tm_lrl ht, tm_lrs ht, tm_lln ht, tm_loc, fun _ _ _ _ _ h => (by cases h), fun _ _ _ _ _ _ _ h => (by cases h), fun _ _ _ _ _ _ h => (by cases h), fun _ _ _ _ _ _ h => (by cases h), tm_lcp ht⟩
end TML
