/-! A switch from 1 on. -/
section XTS
variable {L : Nat} {xs : Nat → Int32} {d y pc : Nat} {ls : xm_L tm_R} {r : xm_S tm_R} {μ : tm_M} {Q : Option (xm_V tm_R) → tm_M → Prop}
theorem xr_ts1 {x : Int32} {df hi : Int} {offs : Array Int} {ln a b : Nat} {v : Int32} (hat : xt_at y pc = some (.tableswitch df 1 hi offs, ln, a, b, v)) (hd : x.toInt < 1 ∨ hi < x.toInt → xr_t (tm_I L xs) d y a ls r μ Q) (hc : ∀ j : Nat, (j : Int) + 1 ≤ hi → x = Int32.ofNat (j + 1) → xr_t (tm_I L xs) d y ((pc : Int) + (offs.toList[j]?).getD 0).toNat ls r μ Q) : xr_t (tm_I L xs) d y pc ls (.inl x :: r) μ Q := by
  refine xr_nx (pc' := if x.toInt < 1 ∨ hi < x.toInt then a else ((pc : Int) + (offs.toList[(x.toInt - 1).toNat]?).getD 0).toNat) (ls' := ls) (st' := r) (s' := μ) ?_ ?_
  · unfold xm_st
    rw [hat]
    rfl
  · by_cases h : x.toInt < 1 ∨ hi < x.toInt
    · rw [if_pos h]
      exact hd h
    · rw [if_neg h]
      refine hc (x.toInt - 1).toNat (by omega) ?_
      have h2 : (x.toInt - 1).toNat + 1 = x.toNatClampNeg := by
        show _ = x.toInt.toNat
        omega
      rw [h2]
      apply Int32.toInt_inj.mp
      rw [nI_toInt' x (by omega)]
end XTS
