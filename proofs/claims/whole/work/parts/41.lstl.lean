/-! The laws of the list memory. -/
section MLL
theorem ml_wl_get {base b0 : Nat} {tys : List (ClassId × FieldType)} {h : List ml_C} (j : Nat) : (ml_wl base b0 tys h)[j]? = (h[j]?).map (fun q => (base + j, ml_E base b0 tys q)) := by
  unfold ml_wl
  rw [List.getElem?_mapIdx]
theorem ml_wl_at {base b0 : Nat} {tys : List (ClassId × FieldType)} {h : List ml_C} {j : Nat} {q : ml_C} (hj : h[j]? = some q) : (ml_wl base b0 tys h)[j]? = some (base + j, ml_E base b0 tys q) := by
  rw [ml_wl_get, hj]; rfl
theorem ml_ad_l {base b0 : Nat} {h : List ml_C} (hG : ml_Gd h) {r : Nat} (hr : r < h.length) : ml_ad base b0 r = base + r := by
  have := hG.1
  unfold ml_ad
  rw [if_neg (by omega)]
theorem ml_wl_ad {base b0 : Nat} {tys : List (ClassId × FieldType)} {h : List ml_C} (hG : ml_Gd h) {j : Nat} {q : ml_C} (hj : h[j]? = some q) : (ml_wl base b0 tys h)[j]? = some (ml_ad base b0 j, ml_E base b0 tys q) := by
  rw [ml_ad_l hG (List.getElem?_eq_some_iff.mp hj).1, ml_wl_at hj]
theorem ml_wl_set {base b0 : Nat} {tys : List (ClassId × FieldType)} {h : List ml_C} {r : Nat} {q : ml_C} (hr : r < h.length) : ml_wl base b0 tys (h.set r q) = (ml_wl base b0 tys h).set r (base + r, ml_E base b0 tys q) := by
  have hl : (ml_wl base b0 tys h).length = h.length := by unfold ml_wl; rw [List.length_mapIdx]
  apply List.ext_getElem?
  intro j
  rw [ml_wl_get]
  by_cases hj : r = j
  · subst hj
    rw [List.getElem?_set_self hr, List.getElem?_set_self (by rw [hl]; exact hr)]
    rfl
  · rw [List.getElem?_set_ne hj, List.getElem?_set_ne hj, ml_wl_get]
theorem ml_wl_app {base b0 : Nat} {tys : List (ClassId × FieldType)} {h : List ml_C} {q : ml_C} : ml_wl base b0 tys (h ++ [q]) = ml_wl base b0 tys h ++ [(base + h.length, ml_E base b0 tys q)] := by
  unfold ml_wl
  rw [List.mapIdx_append]
  simp
theorem ml_D {base b0 : Nat} {tys : List (ClassId × FieldType)} (h : List ml_C) : va_D (fun q => base ≤ q) (ml_wl base b0 tys h) := by
  have key : ∀ (k : Nat) (q : Nat × va_E), (ml_wl base b0 tys h)[k]? = some q → q.1 = base + k := by
    intro k q hk
    rw [ml_wl_get] at hk
    cases hh : h[k]? with
    | none => rw [hh] at hk; cases hk
    | some c => rw [hh] at hk; cases hk; rfl
  refine ⟨fun i j p q hp hq e => ?_, fun k q hk => by rw [key k q hk]; exact Nat.le_add_right _ _⟩
  have h1 := key i p hp
  have h2 := key j q hq
  omega
theorem ml_in_mono {n m : Nat} (hnm : n ≤ m) {q : ml_C} (h : ml_in n q) : ml_in m q := by
  rcases q with _ | ⟨t, k, f⟩ | ⟨c, fs⟩
  · trivial
  · exact fun j r hj hr => Nat.lt_of_lt_of_le (h j r hj hr) hnm
  · exact fun r hr => Nat.lt_of_lt_of_le (h r hr) hnm
theorem ml_Gd_set {h : List ml_C} {r : Nat} {q : ml_C} (hG : ml_Gd h) (hq : ml_in h.length q) : ml_Gd (h.set r q) := by
  refine ⟨by rw [List.length_set]; exact hG.1, fun c hc => ?_⟩
  rw [List.length_set]
  rcases List.mem_or_eq_of_mem_set hc with h1 | h1
  · exact hG.2 c h1
  · rw [h1]; exact hq
theorem ml_Gd_app {h : List ml_C} {q : ml_C} (hG : ml_Gd h) (hl : h.length < 1000) (hq : ml_in (h.length + 1) q) : ml_Gd (h ++ [q]) := by
  refine ⟨by rw [List.length_append]; exact hl, fun c hc => ?_⟩
  rw [List.length_append]
  rcases List.mem_append.mp hc with h1 | h1
  · exact ml_in_mono (Nat.le_add_right _ _) (hG.2 c h1)
  · rw [List.mem_singleton.mp h1]; exact hq
theorem ml_kp_set {h : List ml_C} {r : Nat} {q : ml_C} (hG : ml_Gd h) (hq : ml_in h.length q) : xm_kp ml_Lv ml_Gd List.length h (h.set r q) 0 := ⟨ml_Gd_set hG hq, List.length_set, fun q hq => by unfold ml_Lv at *; rw [List.length_set]; exact hq⟩
theorem ml_kp_app {h : List ml_C} {q : ml_C} (hG : ml_Gd h) (hl : h.length < 1000) (hq : ml_in (h.length + 1) q) : xm_kp ml_Lv ml_Gd List.length h (h ++ [q]) 1 ∧ ml_Lv (h ++ [q]) h.length := by
  refine ⟨⟨ml_Gd_app hG hl hq, by rw [List.length_append]; rfl, fun q hq => ?_⟩, Or.inl (by rw [List.length_append]; exact Nat.lt_succ_self _)⟩
  rcases hq with h1 | h1
  · exact Or.inl (by rw [List.length_append]; omega)
  · exact Or.inr h1
theorem ml_adr {base b0 : Nat} {h : List ml_C} (hl : h.length < 1000) : ml_ad base b0 h.length = base + h.length := by
  unfold ml_ad
  rw [if_neg (by omega)]
section
variable (base b0 L0 : Nat) (xs0 : Nat → Int32) (tys : List (ClassId × FieldType))
theorem ml_lgf : xm_lgf (ml_I L0 xs0) (ml_ad base b0) (ml_wl base b0 tys) ml_Lv ml_Gd := by
  intro s r ci k v hG hL h
  replace h : ml_gf s r ci k = some v := h
  unfold ml_gf at h
  split at h
  · rename_i c fs hr
    split at h
    · rename_i hc
      subst hc
      refine ⟨fun q e => ?_, r, fs.map (xm_e (ml_ad base b0)), ml_wl_ad hG hr, by rw [List.getElem?_map, h]; rfl⟩
      subst e
      exact Or.inl (hG.2 _ (List.mem_of_getElem? hr) q (List.mem_of_getElem? h))
    · cases h
  · cases h
theorem ml_fit {ty : FieldType} {v : xm_V Nat} (h : ml_ok ty v = true) : narrow ty (xm_e (ml_ad base b0) v) = xm_e (ml_ad base b0) v ∧ fits ty (xm_e (ml_ad base b0) v) = true := by
  unfold ml_ok at h
  split at h
  · exact ⟨rfl, rfl⟩
  · simp only [decide_eq_true_eq] at h
    rcases h with rfl | rfl <;> exact ⟨rfl, rfl⟩
  · rename_i v
    cases v <;> exact ⟨rfl, rfl⟩
  · rename_i v
    cases v <;> exact ⟨rfl, rfl⟩
  · cases h
theorem ml_lpf : xm_lpf (ml_I L0 xs0) (ml_ad base b0) (ml_wl base b0 tys) ml_Lv ml_Gd List.length := by
  intro s r ci k v t hG hL hv h
  replace h : ml_pf s r ci k v = some t := h
  unfold ml_pf at h
  split at h
  · rename_i c fs hr
    split at h
    · rename_i hc
      obtain ⟨rfl, hk, hok, hvk⟩ := hc
      cases h
      have hrl := (List.getElem?_eq_some_iff.mp hr).1
      have hv : ∀ q, v = .inr (some q) → q < s.length := fun q e => by
        subst e
        simpa [ml_vk] using hvk
      refine ⟨ml_kp_set hG ?_, ml_fit base b0 hok, r, fs.map (xm_e (ml_ad base b0)), ml_wl_ad hG hr, by rw [List.length_map]; exact hk, ?_⟩
      · intro q hq
        rcases List.mem_or_eq_of_mem_set hq with h1 | h1
        · exact hG.2 _ (List.mem_of_getElem? hr) q h1
        · exact hv q h1.symm
      · rw [ml_wl_set hrl, ml_ad_l hG hrl]
        show List.set _ r (base + r, Sum.inr (c, (fs.set k v).map _)) = _
        rw [List.map_set]
    · cases h
  · cases h
theorem ml_E0 {t n : Nat} {f : Nat → Int32} {c : ClassId} {ty : FieldType} (hc : tys[t]? = some (c, ty)) : ml_E base b0 tys (.inl (t, n, f)) = .inl (c, n, .inl f) := by
  show Sum.inl ((tys.getD t (0, .int)).1, n, _) = _
  rw [List.getD_eq_getElem?_getD, hc]
  rfl
theorem ml_Eq {t n : Nat} {f : Nat → Option Nat} {c : ClassId} {ty : FieldType} (hc : tys[t]? = some (c, ty)) : ml_E base b0 tys (.inr (.inl (t, n, f))) = .inl (c, n, .inr (.inr (.inr (.inr (fun j => (f j).map (ml_ad base b0)))))) := by
  show Sum.inl ((tys.getD t (0, .int)).1, n, _) = _
  rw [List.getD_eq_getElem?_getD, hc]
  rfl
/-- the types of the arrays -/
def ml_ty (tys : List (ClassId × FieldType)) : Prop := (∀ t, t < 2 → ∃ c, tys[t]? = some (c, xt_tt t)) ∧ (∃ c, tys[2]? = some (c, .array .int)) ∧ ∀ t, 3 ≤ t → t < 6 → ∃ c, tys[t]? = some (c, .object (xt_an t))
variable {tys}
theorem ml_tyr (ht : ml_ty tys) {t : Nat} (h2 : 2 ≤ t) (h6 : t < 6) : ∃ c ty, tys[t]? = some (c, ty) ∧ ty.isReference = true := by
  by_cases h : t = 2
  · subst h
    obtain ⟨c, hc⟩ := ht.2.1
    exact ⟨c, _, hc, rfl⟩
  · obtain ⟨c, hc⟩ := ht.2.2 t (by omega) h6
    exact ⟨c, _, hc, rfl⟩
theorem ml_lal (ht : ml_ty tys) : xm_lal (ml_I L0 xs0) (ml_ad base b0) (ml_wl base b0 tys) ml_Lv ml_Gd tys b0 L0 xs0 := by
  intro s t r i x ht2 hG hL h
  replace h : ml_al L0 xs0 s t r i = some x := h
  unfold ml_al at h
  split at h
  · rename_i h9
    split at h
    · rename_i hc
      cases h
      exact Or.inr ⟨hc.1, by unfold ml_ad; rw [if_pos h9], hc.2, rfl⟩
    · cases h
  · split at h
    · rename_i u n f hr
      split at h
      · rename_i hc
        obtain ⟨rfl, hin⟩ := hc
        cases h
        obtain ⟨c, hc⟩ := ht.1 u ht2
        exact Or.inl ⟨r, c, n, f, by rw [ml_wl_ad hG hr, ml_E0 base b0 tys hc], hc, hin, rfl⟩
      · cases h
    · cases h
theorem ml_las (ht : ml_ty tys) : xm_las (ml_I L0 xs0) (ml_ad base b0) (ml_wl base b0 tys) ml_Lv ml_Gd List.length tys := by
  intro s t r i x u ht2 hG hL h
  replace h : ml_as s t r i x = some u := h
  unfold ml_as at h
  split at h
  · rename_i w n f hr
    split at h
    · rename_i hc
      obtain ⟨rfl, hin⟩ := hc
      cases h
      obtain ⟨c, hc⟩ := ht.1 w ht2
      have hrl := (List.getElem?_eq_some_iff.mp hr).1
      exact ⟨ml_kp_set hG trivial, r, c, n, f, by rw [ml_wl_ad hG hr, ml_E0 base b0 tys hc], hc, hin, by rw [ml_wl_set hrl, ml_ad_l hG hrl, ml_E0 base b0 tys hc]⟩
    · cases h
  · cases h
theorem ml_lrl (ht : ml_ty tys) : xm_lrl (ml_I L0 xs0) (ml_ad base b0) (ml_wl base b0 tys) ml_Lv ml_Gd tys := by
  intro s r i v hG hL h
  replace h : ml_rl s r i = some v := h
  unfold ml_rl at h
  split at h
  · rename_i t n f hr
    split at h
    · rename_i hc
      obtain ⟨h2, h6, hin⟩ := hc
      cases h
      obtain ⟨c, ty, hc, hrf⟩ := ml_tyr ht h2 h6
      refine ⟨fun q e => ?_, r, t, c, ty, n, _, by rw [ml_wl_ad hG hr, ml_Eq base b0 tys hc], hc, hrf, hin, ?_⟩
      · have e : f i.toNatClampNeg = some q := by injection e
        exact Or.inl (hG.2 _ (List.mem_of_getElem? hr) _ q (Nat.not_le.mp fun q => hin (Or.inr q)) e)
      · show va_rf ((f i.toNatClampNeg).map (ml_ad base b0)) = _
        cases f i.toNatClampNeg <;> rfl
    · cases h
  · cases h
theorem ml_lrs (ht : ml_ty tys) : xm_lrs (ml_I L0 xs0) (ml_ad base b0) (ml_wl base b0 tys) ml_Lv ml_Gd List.length tys := by
  intro s r i w u hG hL hw h
  replace h : ml_rs s r i w = some u := h
  unfold ml_rs at h
  split at h
  · rename_i t n f c fs hr hww
    split at h
    · rename_i hc
      obtain ⟨h3, h6, h13, han, hin⟩ := hc
      cases h
      obtain ⟨cA, hcA⟩ := ht.2.2 t h3 h6
      obtain ⟨row, hrow, hrn⟩ := xt_csq c h13
      have hrl := (List.getElem?_eq_some_iff.mp hr).1
      refine ⟨ml_kp_set hG ?_, r, t, w, c, cA, row, n, fs.map (xm_e (ml_ad base b0)), _, by rw [ml_wl_ad hG hr, ml_Eq base b0 tys hcA], by rw [hrn, ← han]; exact hcA, ml_wl_ad hG hww, hrow, hin, ?_⟩
      · intro j q hj hq
        unfold va_up at hq
        split at hq
        · cases hq
          exact (List.getElem?_eq_some_iff.mp hww).1
        · exact hG.2 _ (List.mem_of_getElem? hr) j q hj hq
      · rw [ml_wl_set hrl, ml_ad_l hG hrl, ml_Eq base b0 tys hcA]
        congr 9
        funext j
        unfold va_up
        split <;> rfl
    · cases h
  · cases h
theorem ml_lln (ht : ml_ty tys) : xm_lln (ml_I L0 xs0) (ml_ad base b0) (ml_wl base b0 tys) ml_Lv ml_Gd tys b0 L0 := by
  intro s r n hG hL h
  replace h : ml_ln L0 s r = some n := h
  unfold ml_ln at h
  split at h
  · rename_i h9
    cases h
    exact Or.inr ⟨by unfold ml_ad; rw [if_pos h9], rfl⟩
  · split at h
    · rename_i t k f hr
      split at h
      · rename_i h2
        cases h
        obtain ⟨c, hc⟩ := ht.1 t h2
        exact Or.inl ⟨r, t, c, (n, .inl f), _, by rw [ml_wl_ad hG hr, ml_E0 base b0 tys hc], hc, rfl⟩
      · cases h
    · rename_i t k f hr
      split at h
      · rename_i h2
        cases h
        obtain ⟨c, ty, hc, -⟩ := ml_tyr ht h2.1 h2.2
        exact Or.inl ⟨r, t, c, (n, _), ty, by rw [ml_wl_ad hG hr, ml_Eq base b0 tys hc], hc, rfl⟩
      · cases h
    · cases h
theorem ml_loc : xm_loc (ml_I L0 xs0) (ml_ad base b0) (ml_wl base b0 tys) ml_Lv ml_Gd := by
  intro s ci r hG hL h
  replace h : ml_oc s ci r = true := h
  unfold ml_oc at h
  split at h
  · rename_i c fs hr
    simp only [decide_eq_true_eq] at h
    subst h
    exact ⟨r, _, ml_wl_ad hG hr⟩
  · cases h
theorem ml_dfv (ty : FieldType) (h : ty = .int ∨ ty = .boolean ∨ (∃ C, ty = .object C) ∨ ∃ t, ty = .array t) : defaultValue ty = xm_e (ml_ad base b0) (ml_df ty) := by
  rcases h with rfl | rfl | ⟨C, rfl⟩ | ⟨t, rfl⟩ <;> rfl
theorem ml_lnw : xm_lnw True (ml_I L0 xs0) (ml_ad base b0) (ml_wl base b0 tys) ml_Lv ml_Gd List.length base := by
  intro s ci r u hG h
  replace h : ml_nw s ci = some (r, u) := h
  unfold ml_nw at h
  split at h
  · rename_i q hq
    split at h
    · cases h
    · rename_i hl
      cases h
      have hl : s.length < 1000 := by omega
      obtain ⟨k1, k2⟩ := ml_kp_app (q := .inr (.inr (ci, (List.range q.2.2).map fun k => ml_df (xt_ft ci k)))) hG hl (fun r hr => by
        obtain ⟨k, -, hk⟩ := List.mem_map.mp hr
        unfold ml_df at hk
        split at hk <;> cases hk)
      refine ⟨trivial, k1, k2, ml_adr hl, _, by rw [ml_adr hl]; exact ml_wl_app, fun row hrow j hj => ?_⟩
      cases hq.symm.trans hrow
      show _ = vp_V (List.map _ (List.map _ _)) j
      unfold vp_V
      rw [List.getD_eq_getElem?_getD, List.getElem?_map, List.getElem?_map, List.getElem?_range hj]
      exact ml_dfv base b0 _ (xt_ftq hrow hj)
  · cases h
theorem ml_lna (ht : ml_ty tys) : xm_lna True (ml_I L0 xs0) (ml_ad base b0) (ml_wl base b0 tys) ml_Lv ml_Gd List.length tys base := by
  intro s t n r u ht2 hG h
  replace h : ml_na s t n = some (r, u) := h
  unfold ml_na at h
  split at h
  · rename_i hc
    cases h
    obtain ⟨c, hc'⟩ := ht.1 t ht2
    obtain ⟨k1, k2⟩ := ml_kp_app (q := .inl (t, n, fun _ => 0)) hG hc.2.2 trivial
    exact ⟨trivial, k1, k2, ml_adr hc.2.2, hc.2.1, c, hc', by rw [ml_adr hc.2.2, ml_wl_app, ml_E0 base b0 tys hc']⟩
  · cases h
theorem ml_lnr (ht : ml_ty tys) : xm_lnr True (ml_I L0 xs0) (ml_ad base b0) (ml_wl base b0 tys) ml_Lv ml_Gd List.length tys base := by
  intro s t n r u hG h
  replace h : ml_nr s t n = some (r, u) := h
  unfold ml_nr at h
  split at h
  · rename_i hc
    cases h
    obtain ⟨c, hc'⟩ := ht.2.2 t hc.1 hc.2.1
    obtain ⟨k1, k2⟩ := ml_kp_app (q := .inr (.inl (t, n, fun _ => none))) hG hc.2.2.2 (fun _ _ _ h => by cases h)
    exact ⟨trivial, k1, k2, ml_adr hc.2.2.2, hc.2.2.1, c, hc', by rw [ml_adr hc.2.2.2, ml_wl_app, ml_Eq base b0 tys hc']; rfl⟩
  · cases h
theorem ml_lnm (ht : ml_ty tys) : xm_lnm True (ml_I L0 xs0) (ml_ad base b0) (ml_wl base b0 tys) ml_Lv ml_Gd List.length tys base := by
  intro s n k r u hG h
  replace h : ml_nm s n k = some (r, u) := h
  unfold ml_nm at h
  split at h
  · rename_i hc
    obtain ⟨rfl, rfl, hl⟩ := hc
    cases h
    obtain ⟨cI, hI⟩ := ht.1 0 (by decide)
    obtain ⟨cA, hA⟩ := ht.2.1
    have hin : ∀ q ∈ ([.inr (.inl (2, 4, fun j => if j < 4 then some (s.length + 1 + j) else none)), .inl (0, 40, fun _ => 0), .inl (0, 40, fun _ => 0), .inl (0, 40, fun _ => 0), .inl (0, 40, fun _ => 0)] : List ml_C), ml_in (s.length + 5) q := by
      intro q hq
      simp only [List.mem_cons, List.not_mem_nil, or_false] at hq
      rcases hq with rfl | rfl | rfl | rfl | rfl
      · intro j r hj hr
        have hr : (if j < 4 then some (s.length + 1 + j) else none) = some r := hr
        rw [if_pos hj] at hr
        cases hr
        omega
      · trivial
      · trivial
      · trivial
      · trivial
    refine ⟨trivial, rfl, rfl, ⟨⟨by rw [List.length_append]; show s.length + 5 ≤ 1000; omega, fun q hq => ?_⟩, by rw [List.length_append]; rfl, fun q hq => ?_⟩, Or.inl (by rw [List.length_append]; show s.length < s.length + 5; omega), ml_adr (by omega), cI, cA, fun j => (if j < 4 then some (s.length + 1 + j) else none).map (ml_ad base b0), hI, hA, fun j hj => ?_, ?_⟩
    · rw [List.length_append]
      rcases List.mem_append.mp hq with h1 | h1
      · exact ml_in_mono (Nat.le_add_right _ _) (hG.2 q h1)
      · exact hin q h1
    · rcases hq with h1 | h1
      · exact Or.inl (by rw [List.length_append]; omega)
      · exact Or.inr h1
    · show (if j < 4 then some (s.length + 1 + j) else none).map (ml_ad base b0) = _
      rw [if_pos hj]
      show some (ml_ad base b0 (s.length + 1 + j)) = _
      unfold ml_ad
      rw [if_neg (by omega)]
      congr 1
      omega
    · unfold ml_wl
      rw [List.mapIdx_append]
      congr 1
      have e0 := ml_E0 base b0 tys (n := 40) (f := fun _ => 0) hI
      have e2 := ml_Eq base b0 tys (n := 4) (f := fun j => if j < 4 then some (s.length + 1 + j) else none) hA
      simp only [List.mapIdx_cons, List.mapIdx_nil, e0, e2, List.range_succ, List.range_zero, List.map_append, List.map_cons, List.map_nil, List.nil_append, List.cons_append, List.append_nil]
      simp [Nat.add_comm, Nat.add_left_comm, Nat.add_assoc]
      omega
  · cases h
theorem ml_Lw (ht : ml_ty tys) : xm_Lw True (ml_I L0 xs0) (ml_ad base b0) (ml_wl base b0 tys) ml_Lv ml_Gd List.length tys base b0 L0 xs0 :=
  ⟨fun s _ => ml_D s, ml_lgf base b0 L0 xs0 tys, ml_lpf base b0 L0 xs0 tys, ml_lal base b0 L0 xs0 ht, ml_las base b0 L0 xs0 ht, ml_lrl base b0 L0 xs0 ht, ml_lrs base b0 L0 xs0 ht, ml_lln base b0 L0 xs0 ht, ml_loc base b0 L0 xs0, ml_lnw base b0 L0 xs0, ml_lna base b0 L0 xs0 ht, ml_lnr base b0 L0 xs0 ht, ml_lnm base b0 L0 xs0 ht, fun _ _ _ _ _ _ _ _ _ _ h => by cases h⟩
end
end MLL
