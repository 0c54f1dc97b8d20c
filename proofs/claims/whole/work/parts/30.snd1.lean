/-! Soundness of the X machine over the kit's rows. Ghosts: adr (a reference's address), wl (a memory's world), Lv (live references), Gd (good memories), cz (how many cells). -/
section XE
variable {σ R : Type}
/-- what a value is in the machine -/
def xm_e (adr : R → Nat) (v : xm_V R) : Value := match v with
  | .inl x => .int x
  | .inr none => .null
  | .inr (some r) => .ref (adr r)
theorem xm_e_cat (adr : R → Nat) (v : xm_V R) : (xm_e adr v).category = 1 := by
  rcases v with x | _ | r <;> rfl
theorem xm_e_sum (adr : R → Nat) (st : xm_S R) : ((st.map (xm_e adr)).map fun v => v.category).sum = st.length := by
  induction st with
  | nil => rfl
  | cons v st ih => simp only [List.map_cons, List.sum_cons, xm_e_cat, ih, List.length_cons]; omega
def xm_lo (adr : R → Nat) (ls : xm_L R) : List (Nat × Value) := (List.range ls.length).filterMap (fun i => match ls[i]? with
  | some (some v) => some (i, xm_e adr v)
  | _ => none)
theorem xm_lo_mem {adr : R → Nat} {ls : xm_L R} {i : Nat} {w : Value} : (i, w) ∈ xm_lo adr ls ↔ ∃ v, ls[i]? = some (some v) ∧ w = xm_e adr v := by
  unfold xm_lo
  rw [List.mem_filterMap]
  constructor
  · rintro ⟨j, -, h⟩
    split at h
    · rename_i v hv
      simp only [Option.some.injEq, Prod.mk.injEq] at h
      obtain ⟨rfl, rfl⟩ := h
      exact ⟨v, hv, rfl⟩
    · cases h
  · rintro ⟨v, hv, rfl⟩
    exact ⟨i, List.mem_range.mpr (List.getElem?_eq_some_iff.mp hv).1, by rw [hv]⟩
/-- the locals in the machine hold what the list says -/
def xm_lh (adr : R → Nat) (n : Nat) (arr : Array Slot) (ls : xm_L R) : Prop := lv_has arr n (xm_lo adr ls) ∧ ls.length = n
theorem xm_lh_at {adr : R → Nat} {n : Nat} {arr : Array Slot} {ls : xm_L R} (h : xm_lh adr n arr ls) {i : Nat} {v : xm_V R} (hi : ls[i]? = some (some v)) : arr[i]? = some (.val (xm_e adr v)) :=
  h.1.2.2 (i, xm_e adr v) (xm_lo_mem.mpr ⟨v, hi, rfl⟩)
theorem xm_lh_set {adr : R → Nat} {n : Nat} {arr arr' : Array Slot} {ls : xm_L R} (h : xm_lh adr n arr ls) {i : Nat} (hi : i < n) {v : xm_V R} (h' : lv_has arr' n ((i, xm_e adr v) :: (xm_lo adr ls).filter (fun q => !(q.1 == i) && !(q.1 + 1 == i && q.2.category == 2)))) : xm_lh adr n arr' (ls.set i (some v)) := by
  refine ⟨⟨h'.1, h'.2.1, fun q hq => ?_⟩, by rw [List.length_set]; exact h.2⟩
  obtain ⟨j, w⟩ := q
  obtain ⟨u, hu, rfl⟩ := xm_lo_mem.mp hq
  by_cases hj : j = i
  · subst hj
    rw [List.getElem?_set_self (by rw [h.2]; exact hi)] at hu
    cases hu
    exact h'.2.2 _ List.mem_cons_self
  · rw [List.getElem?_set_ne (Ne.symm hj)] at hu
    refine h'.2.2 (j, xm_e adr u) (List.mem_cons_of_mem _ (List.mem_filter.mpr ⟨xm_lo_mem.mpr ⟨u, hu, rfl⟩, ?_⟩))
    simp [hj, xm_e_cat]
/-- live values, stacks, locals -/
def xm_vv (Lv : σ → R → Prop) (s : σ) (v : xm_V R) : Prop := ∀ r, v = .inr (some r) → Lv s r
def xm_vs (Lv : σ → R → Prop) (s : σ) (st : xm_S R) : Prop := ∀ v ∈ st, xm_vv Lv s v
def xm_vl (Lv : σ → R → Prop) (s : σ) (ls : xm_L R) : Prop := ∀ (i : Nat) (v : xm_V R), ls[i]? = some (some v) → xm_vv Lv s v
theorem xm_vv_i {Lv : σ → R → Prop} {s : σ} (x : Int32) : xm_vv Lv s (.inl x) := fun _ h => by cases h
theorem xm_vv_r {Lv : σ → R → Prop} {s : σ} {r : R} (h : Lv s r) : xm_vv Lv s (.inr (some r)) := fun q e => by cases e; exact h
theorem xm_vv_u {Lv : σ → R → Prop} {s : σ} {r : R} (h : xm_vv Lv s (.inr (some r))) : Lv s r := h r rfl
theorem xm_vs_c {Lv : σ → R → Prop} {s : σ} {v : xm_V R} {st : xm_S R} (h : xm_vv Lv s v) (hs : xm_vs Lv s st) : xm_vs Lv s (v :: st) := List.forall_mem_cons.mpr ⟨h, hs⟩
theorem xm_vs_h {Lv : σ → R → Prop} {s : σ} {v : xm_V R} {st : xm_S R} (h : xm_vs Lv s (v :: st)) : xm_vv Lv s v := h v List.mem_cons_self
theorem xm_vs_t {Lv : σ → R → Prop} {s : σ} {v : xm_V R} {st : xm_S R} (h : xm_vs Lv s (v :: st)) : xm_vs Lv s st := fun w hw => h w (List.mem_cons_of_mem _ hw)
theorem xm_vs_m {Lv : σ → R → Prop} {s t : σ} (hm : ∀ q, Lv s q → Lv t q) {st : xm_S R} (h : xm_vs Lv s st) : xm_vs Lv t st := fun v hv r e => hm r (h v hv r e)
theorem xm_vl_m {Lv : σ → R → Prop} {s t : σ} (hm : ∀ q, Lv s q → Lv t q) {ls : xm_L R} (h : xm_vl Lv s ls) : xm_vl Lv t ls := fun i v hv r e => hm r (h i v hv r e)
theorem xm_vl_s {Lv : σ → R → Prop} {s : σ} {ls : xm_L R} (h : xm_vl Lv s ls) {v : xm_V R} (hv : xm_vv Lv s v) (i : Nat) : xm_vl Lv s (ls.set i (some v)) := by
  intro j w hw
  by_cases hj : i = j
  · subst hj
    have hl : i < ls.length := by
      have := (List.getElem?_eq_some_iff.mp hw).1
      rwa [List.length_set] at this
    rw [List.getElem?_set_self hl] at hw
    cases hw
    exact hv
  · rw [List.getElem?_set_ne hj] at hw
    exact h j w hw
/-- the helpers, read backwards -/
theorem xm_i1_i {st : xm_S R} {f : Int32 → xm_S R → xm_R σ R} {z : xm_R σ R} (h : xm_i1 st f = z) (hz : z ≠ xm_no) : ∃ x r, st = .inl x :: r ∧ f x r = z := by
  unfold xm_i1 at h
  split at h
  · exact ⟨_, _, rfl, h⟩
  · exact absurd h.symm hz
theorem xm_i2_i {st : xm_S R} {f : Int32 → Int32 → xm_S R → xm_R σ R} {z : xm_R σ R} (h : xm_i2 st f = z) (hz : z ≠ xm_no) : ∃ x y r, st = .inl y :: .inl x :: r ∧ f x y r = z := by
  unfold xm_i2 at h
  split at h
  · exact ⟨_, _, _, rfl, h⟩
  · exact absurd h.symm hz
theorem xm_v1_i {st : xm_S R} {f : xm_V R → xm_S R → xm_R σ R} {z : xm_R σ R} (h : xm_v1 st f = z) (hz : z ≠ xm_no) : ∃ v r, st = v :: r ∧ f v r = z := by
  unfold xm_v1 at h
  split at h
  · exact ⟨_, _, rfl, h⟩
  · exact absurd h.symm hz
theorem xm_v2_i {st : xm_S R} {f : xm_V R → xm_V R → xm_S R → xm_R σ R} {z : xm_R σ R} (h : xm_v2 st f = z) (hz : z ≠ xm_no) : ∃ v w r, st = v :: w :: r ∧ f v w r = z := by
  unfold xm_v2 at h
  split at h
  · exact ⟨_, _, _, rfl, h⟩
  · exact absurd h.symm hz
theorem xm_r1_i {st : xm_S R} {f : R → xm_S R → xm_R σ R} {z : xm_R σ R} (h : xm_r1 st f = z) (hz : z ≠ xm_no) : ∃ q r, st = .inr (some q) :: r ∧ f q r = z := by
  unfold xm_r1 at h
  split at h
  · exact ⟨_, _, rfl, h⟩
  · exact absurd h.symm hz
theorem xm_ri_i {st : xm_S R} {f : R → Int32 → xm_S R → xm_R σ R} {z : xm_R σ R} (h : xm_ri st f = z) (hz : z ≠ xm_no) : ∃ q i r, st = .inl i :: .inr (some q) :: r ∧ f q i r = z := by
  unfold xm_ri at h
  split at h
  · exact ⟨_, _, _, rfl, h⟩
  · exact absurd h.symm hz
theorem xm_rii_i {st : xm_S R} {f : R → Int32 → Int32 → xm_S R → xm_R σ R} {z : xm_R σ R} (h : xm_rii st f = z) (hz : z ≠ xm_no) : ∃ q i x r, st = .inl x :: .inl i :: .inr (some q) :: r ∧ f q i x r = z := by
  unfold xm_rii at h
  split at h
  · exact ⟨_, _, _, _, rfl, h⟩
  · exact absurd h.symm hz
theorem xm_rir_i {st : xm_S R} {f : R → Int32 → R → xm_S R → xm_R σ R} {z : xm_R σ R} (h : xm_rir st f = z) (hz : z ≠ xm_no) : ∃ q i w r, st = .inr (some w) :: .inl i :: .inr (some q) :: r ∧ f q i w r = z := by
  unfold xm_rir at h
  split at h
  · exact ⟨_, _, _, _, rfl, h⟩
  · exact absurd h.symm hz
theorem xm_rv_i {st : xm_S R} {f : R → xm_V R → xm_S R → xm_R σ R} {z : xm_R σ R} (h : xm_rv st f = z) (hz : z ≠ xm_no) : ∃ q v r, st = v :: .inr (some q) :: r ∧ f q v r = z := by
  unfold xm_rv at h
  split at h
  · exact ⟨_, _, _, rfl, h⟩
  · exact absurd h.symm hz
theorem xm_c5_i {st : xm_S R} {f : R → Int32 → R → Int32 → Int32 → xm_S R → xm_R σ R} {z : xm_R σ R} (h : xm_c5 st f = z) (hz : z ≠ xm_no) : ∃ q sp d dp n r, st = .inl n :: .inl dp :: .inr (some d) :: .inl sp :: .inr (some q) :: r ∧ f q sp d dp n r = z := by
  unfold xm_c5 at h
  split at h
  · exact ⟨_, _, _, _, _, _, rfl, h⟩
  · exact absurd h.symm hz
theorem xm_o_i {α : Type} {o : Option α} {f : α → xm_R σ R} {z : xm_R σ R} (h : xm_o o f = z) (hz : z ≠ xm_no) : ∃ x, o = some x ∧ f x = z := by
  unfold xm_o at h
  split at h
  · exact ⟨_, rfl, h⟩
  · exact absurd h.symm hz
theorem xm_li_i {ls : xm_L R} {i : Nat} {f : Int32 → xm_R σ R} {z : xm_R σ R} (h : xm_li ls i f = z) (hz : z ≠ xm_no) : ∃ x, ls[i]? = some (some (.inl x)) ∧ f x = z := by
  unfold xm_li at h
  split at h
  · exact ⟨_, by assumption, h⟩
  · exact absurd h.symm hz
theorem xm_lr_i {ls : xm_L R} {i : Nat} {f : R → xm_R σ R} {z : xm_R σ R} (h : xm_lr ls i f = z) (hz : z ≠ xm_no) : ∃ q, ls[i]? = some (some (.inr (some q))) ∧ f q = z := by
  unfold xm_lr at h
  split at h
  · exact ⟨_, by assumption, h⟩
  · exact absurd h.symm hz
theorem xm_lz (q : Nat × xm_L R × xm_S R × σ × Nat × Nat) : (Sum.inl q : xm_R σ R) ≠ xm_no := fun h => by cases h
theorem xm_in_at {y : Nat} {as : xm_S R} {i : Nat} {v : xm_V R} (h : (xm_in y as)[i]? = some (some v)) : ∃ w, w ∈ as ∧ w = v := by
  unfold xm_in at h
  by_cases hi : i < as.length
  · rw [List.getElem?_append_left (by rw [List.length_map]; exact hi), List.getElem?_map] at h
    cases ha : as[i]? with
    | none => rw [ha] at h; cases h
    | some w =>
      rw [ha] at h
      obtain rfl : w = v := by simpa using h
      exact ⟨w, List.mem_of_getElem? ha, rfl⟩
  · rw [List.getElem?_append_right (by rw [List.length_map]; omega)] at h
    have := List.mem_of_getElem? h
    rw [List.mem_replicate] at this
    cases this.2
theorem xm_in_args (adr : R → Nat) : ∀ (as : xm_S R) (k i : Nat) (v : xm_V R), as[i]? = some v → (k + i, xm_e adr v) ∈ lv_args k (as.map (xm_e adr))
  | [], _, _, _, h => by cases h
  | a :: as, k, 0, v, h => by
    cases h
    exact List.mem_cons_self
  | a :: as, k, i + 1, v, h => by
    have := xm_in_args adr as (k + 1) i v h
    show _ ∈ (k, xm_e adr a) :: lv_args (if (xm_e adr a).category = 2 then k + 2 else k + 1) (as.map (xm_e adr))
    rw [if_neg (by rw [xm_e_cat]; decide)]
    rw [show k + (i + 1) = k + 1 + i by omega]
    exact List.mem_cons_of_mem _ this
theorem xm_in_mem {adr : R → Nat} {y : Nat} {as : xm_S R} {i : Nat} {v : xm_V R} (h : (xm_in y as)[i]? = some (some v)) : (i, xm_e adr v) ∈ lv_args 0 (as.map (xm_e adr)) := by
  unfold xm_in at h
  by_cases hi : i < as.length
  · rw [List.getElem?_append_left (by rw [List.length_map]; exact hi), List.getElem?_map] at h
    cases ha : as[i]? with
    | none => rw [ha] at h; cases h
    | some w =>
      rw [ha] at h
      cases h
      have := xm_in_args adr as 0 i v ha
      rwa [Nat.zero_add] at this
  · rw [List.getElem?_append_right (by rw [List.length_map]; omega)] at h
    have := List.mem_of_getElem? h
    rw [List.mem_replicate] at this
    cases this.2
end XE
