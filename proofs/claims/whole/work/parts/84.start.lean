/-! What holds at the law's entry. -/
section XB
variable {s : State} {args : Array Value}
theorem xs_arr {t : FieldType} (h : (Cond.arrayClass t).before args s = true) : ∃ c, ArrOfT s c t ∧ s.vm.findClass ("[" ++ t.toString) = some c := by
  obtain ⟨c, k, comp, h1, h2, h3⟩ := Cond.arrayClass_spec h
  exact ⟨c, fun n z => ⟨fun k h => (by cases h), k, h2, comp, h3⟩, h1⟩
theorem xs_arrO {n : String} (h : va_Nw (Cond.arrayOver (.object n)) s) : ∃ c, ArrOfT s c (.object n) ∧ va_RA s c (.object n) := by
  obtain ⟨comp, c, k, h1, -, h3, h4, h5⟩ := Cond.arrayOver_spec h
  exact ⟨c, fun n z => ⟨fun k h => (by cases h), k, h3, comp, h4⟩, k, comp, h3, h4, h1, h5⟩
theorem xs_arrA {t : FieldType} (h : va_Nw (Cond.arrayOver (.array t)) s) : ∃ c, ArrOfT s c (.array t) ∧ va_RA s c (.array t) := by
  obtain ⟨comp, c, k, h1, h2, h3, h4, h5⟩ := arrayOverA_spec h
  exact ⟨c, fun n z => ⟨fun k h => (by cases h), k, h3, comp, h4⟩, h5⟩
theorem xs_nws (hts : ∀ w ∈ lw_tbl, w.before args s = true) : ∀ w ∈ xt_nw, va_Nw w s := by
  intro w hw
  have h := hts w (xs_nin w hw)
  simp only [xt_nw, List.mem_cons, List.not_mem_nil, or_false] at hw
  rcases hw with rfl | rfl | rfl | rfl | rfl | rfl | rfl | rfl <;> first | exact va_Nw.of rfl h | exact h
theorem xs_tys (hts : ∀ w ∈ lw_tbl, w.before args s = true) : ∃ tys : List (ClassId × FieldType), ml_ty tys ∧ ∀ (k : Nat) (q : ClassId × FieldType), tys[k]? = some q → ArrOfT s q.1 q.2 ∧ va_RA s q.1 q.2 := by
  have hn := xs_nws hts
  have hG : ∀ w ∈ xt_G, w.before args s = true := fun w hw => hts w (xs_in w hw)
  obtain ⟨c0, h0, k0⟩ := xs_arr (t := .int) (hG _ (xt_ar_ok (t := 0) (n := .int) (by decide) rfl))
  obtain ⟨c1, h1, k1⟩ := xs_arr (t := .boolean) (hG _ (xt_ar_ok (t := 1) (n := .boolean) (by decide) rfl))
  obtain ⟨c2, h2⟩ := xs_arrA (t := .int) (hn _ (by decide +kernel))
  obtain ⟨c3, h3⟩ := xs_arrO (n := "BootNet$Message") (hn _ (by decide +kernel))
  obtain ⟨c4, h4⟩ := xs_arrO (n := "BootNet$Station") (hn _ (by decide +kernel))
  obtain ⟨c5, h5⟩ := xs_arrO (n := "BootNet$Transfer") (hn _ (by decide +kernel))
  refine ⟨[(c0, .int), (c1, .boolean), (c2, .array .int), (c3, .object "BootNet$Message"), (c4, .object "BootNet$Station"), (c5, .object "BootNet$Transfer")], ⟨?_, ⟨c2, rfl⟩, ?_⟩, ?_⟩
  · intro t ht
    rcases (by omega : t = 0 ∨ t = 1) with rfl | rfl
    · exact ⟨c0, rfl⟩
    · exact ⟨c1, rfl⟩
  · intro t h1 h2
    rcases (by omega : t = 3 ∨ t = 4 ∨ t = 5) with rfl | rfl | rfl
    · exact ⟨c3, rfl⟩
    · exact ⟨c4, rfl⟩
    · exact ⟨c5, rfl⟩
  · intro k q hq
    have hk : k < 6 := (List.getElem?_eq_some_iff.mp hq).1
    rcases (by omega : k = 0 ∨ k = 1 ∨ k = 2 ∨ k = 3 ∨ k = 4 ∨ k = 5) with rfl | rfl | rfl | rfl | rfl | rfl <;> cases hq
    · exact ⟨h0, k0⟩
    · exact ⟨h1, k1⟩
    · exact h2
    · exact h3
    · exact h4
    · exact h5
theorem xs_D (hts : ∀ w ∈ lw_tbl, w.before args s = true) : ∃ D : va_G, ∀ (c : Nat) (q : vw_C), xt_cs[c]? = some q → u_Kn s q.1 q.2.1 q.2.2 (D.1 c) (D.2 c) := by
  have hG : ∀ w ∈ xt_G, w.before args s = true := fun w hw => hts w (xs_in w hw)
  have h : ∀ c : Nat, ∃ z : ClassId × (Nat → Nat), ∀ q : vw_C, xt_cs[c]? = some q → u_Kn s q.1 q.2.1 q.2.2 z.1 z.2 := by
    intro c
    cases hc : xt_cs[c]? with
    | none => exact ⟨(0, fun _ => 0), fun q h => by cases h⟩
    | some r =>
      obtain ⟨C, T, N⟩ := r
      obtain ⟨cC, iS, hK⟩ := u_known (ws := xt_G) hG (xt_cf hc).1 (hG _ (xs_inst _ (List.mem_of_getElem? hc)))
      exact ⟨(cC, iS), fun q h => by cases h; exact hK⟩
  exact ⟨(fun c => (Classical.choose (h c)).1, fun c => (Classical.choose (h c)).2), fun c q hq => Classical.choose_spec (h c) q hq⟩
theorem xs_Wo {b L : Nat} {xs : Nat → Int32} (hts : ∀ w ∈ lw_tbl, w.before args s = true) (hX : va_X b L xs s s.heap) (hb : b < s.heap.size) : ∃ (D : va_G) (tys : List (ClassId × FieldType)), ml_ty tys ∧ xm_Wo D tys s.heap.size b L xs s := by
  obtain ⟨tys, h1, h2⟩ := xs_tys hts
  obtain ⟨D, h3⟩ := xs_D hts
  exact ⟨D, tys, h1, ⟨h3, h2⟩, hX, hb, Nat.le_refl _, xs_nws hts⟩
end XB
