/-! The typed memory: kind, number, place to an int; references are (kind, number). -/
section TM
abbrev tm_M : Type := Nat → Nat → Nat → Int32
abbrev tm_R : Type := Nat × Nat
def tk_r (k : Nat) : Nat × Nat × Nat × Nat × Nat × Nat × List (Nat × Nat × Nat) := tk_T.getD k (0, 0, 0, 9, 0, 0, [])
def tk_ct (k : Nat) : Nat := (tk_r k).2.2.1
def tk_so (k : Nat) : Nat := (tk_r k).2.2.2.1
def tk_a (k : Nat) : Nat := (tk_r k).2.2.2.2.1
def tk_n (k : Nat) : Nat := (tk_r k).2.2.2.2.2.1
def tk_f (k : Nat) : Nat := (tk_r k).2.2.2.2.2.2.length
def tk_sp (k p : Nat) : Nat × Nat × Nat := if tk_so k = 0 then (tk_r k).2.2.2.2.2.2.getD p (9, 0, 0) else (tk_r k).2.2.2.2.2.2.getD 0 (9, 0, 0)
def tk_of (k i : Nat) : Nat := (tk_r k).1 + (tk_r k).2.1 * i
def tm_wr (μ : tm_M) (k i p : Nat) (x : Int32) : tm_M := fun a b c => if a = k ∧ c = p ∧ b = i then x else μ a b c
def tm_rf (μ : tm_M) (k i p : Nat) : Option tm_R := match tk_sp k p with
  | (1, q, c) => some (q, c)
  | (2, q, _) => some (q, i)
  | (3, q, _) => some (q, (μ k i p).toNatClampNeg)
  | (4, q, _) => some (q, p)
  | _ => none
def tm_sv (μ : tm_M) (k i p : Nat) : xm_V tm_R := match tk_sp k p with
  | (0, _, _) => .inl (μ k i p)
  | _ => .inr (tm_rf μ k i p)
def tm_gf (μ : tm_M) (r : tm_R) (ci p : Nat) : Option (xm_V tm_R) := if tk_so r.1 = 0 ∧ tk_a r.1 = ci ∧ p < tk_f r.1 then some (tm_sv μ r.1 r.2 p) else none
def tm_pf (μ : tm_M) (r : tm_R) (ci p : Nat) (v : xm_V tm_R) : Option tm_M := if tk_so r.1 = 0 ∧ tk_a r.1 = ci ∧ p < tk_f r.1 then
    match tk_sp r.1 p, v with
    | (0, _, _), .inl x => if xt_ft ci p = .boolean ∧ ¬ (x = 0 ∨ x = 1) then none else some (tm_wr μ r.1 r.2 p x)
    | (3, q, _), .inr (some w) => if w.1 = q then some (tm_wr μ r.1 r.2 p (Int32.ofNat w.2)) else none
    | _, _ => none
  else none
/-- an index within -/
def tm_ix (i : Int32) (n : Nat) : Bool := decide (¬ (i < 0 ∨ n ≤ i.toNatClampNeg))
def tm_al (L : Nat) (xs : Nat → Int32) (μ : tm_M) (t : Nat) (r : tm_R) (i : Int32) : Option Int32 :=
  if r.1 = 99 then (if t = 0 ∧ tm_ix i L = true then some (xs i.toNatClampNeg) else none)
  else if tk_so r.1 = 1 ∧ tk_a r.1 = t ∧ tm_ix i (tk_n r.1) = true then some (μ r.1 r.2 i.toNatClampNeg) else none
def tm_as (μ : tm_M) (t : Nat) (r : tm_R) (i x : Int32) : Option tm_M :=
  if tk_so r.1 = 1 ∧ tk_a r.1 = t ∧ tm_ix i (tk_n r.1) = true then some (tm_wr μ r.1 r.2 i.toNatClampNeg (xm_nr2 t x)) else none
def tm_rl (μ : tm_M) (r : tm_R) (i : Int32) : Option (xm_V tm_R) :=
  if tk_so r.1 = 2 ∧ tm_ix i (tk_n r.1) = true then some (.inr (tm_rf μ r.1 r.2 i.toNatClampNeg)) else none
def tm_rs (μ : tm_M) (r : tm_R) (i : Int32) (w : tm_R) : Option tm_M :=
  if tk_so r.1 = 2 ∧ tk_sp r.1 0 = (3, w.1, 0) ∧ tm_ix i (tk_n r.1) = true then some (tm_wr μ r.1 r.2 i.toNatClampNeg (Int32.ofNat w.2)) else none
def tm_ln (L : Nat) (_ : tm_M) (r : tm_R) : Option Nat := if r.1 = 99 then some L else if tk_so r.1 = 1 ∨ tk_so r.1 = 2 then some (tk_n r.1) else none
def tm_oc (_ : tm_M) (ci : Nat) (r : tm_R) : Bool := decide (tk_so r.1 = 0 ∧ tk_a r.1 = ci)
def tm_cb (μ : tm_M) (k i k2 i2 sp dp n : Nat) : tm_M := fun a b c => if a = k2 ∧ b = i2 then va_cpy (μ k i) (μ k2 i2) sp dp n c else μ a b c
def tm_cp (μ : tm_M) (r : tm_R) (sp : Int32) (d : tm_R) (dp n : Int32) : Option tm_M :=
  if tk_so r.1 = 1 ∧ tk_so d.1 = 1 ∧ tk_a r.1 = 0 ∧ tk_a d.1 = 0 ∧ ¬ sp < 0 ∧ ¬ dp < 0 ∧ ¬ n < 0 ∧ sp.toNatClampNeg + n.toNatClampNeg ≤ tk_n r.1 ∧ dp.toNatClampNeg + n.toNatClampNeg ≤ tk_n d.1 then some (tm_cb μ r.1 r.2 d.1 d.2 sp.toNatClampNeg dp.toNatClampNeg n.toNatClampNeg) else none
def tm_I (L : Nat) (xs : Nat → Int32) : xm_I tm_M tm_R := (tm_gf, tm_pf, tm_al L xs, tm_as, tm_rl, tm_rs, tm_ln L, tm_oc, fun _ _ => none, fun _ _ _ => none, fun _ _ _ => none, fun _ _ _ => none, tm_cp)
def tm_ad (base b0 : Nat) (r : tm_R) : Nat := if r.1 = 99 then b0 else base + tk_of r.1 r.2
def tm_E (base b0 : Nat) (tys : List (ClassId × FieldType)) (μ : tm_M) (k i : Nat) : va_E :=
  if tk_so k = 0 then .inr (tk_a k, (List.range (tk_f k)).map fun p => xm_e (tm_ad base b0) (tm_sv μ k i p))
  else if tk_so k = 1 then .inl ((tys.getD (tk_a k) (0, .int)).1, tk_n k, .inl (μ k i))
  else .inl ((tys.getD (tk_a k) (0, .int)).1, tk_n k, .inr (.inr (.inr (.inr fun p => (tm_rf μ k i p).map (tm_ad base b0)))))
def tm_wl (base b0 : Nat) (tys : List (ClassId × FieldType)) (μ : tm_M) : va_W := tk_pl.mapIdx fun j q => (base + j, tm_E base b0 tys μ q.1 q.2)
def tm_Lv (_ : tm_M) (r : tm_R) : Prop := (r.1 = 99 ∧ r.2 = 0) ∨ (r.1 < tk_NK ∧ r.2 < tk_ct r.1)
/-- the numbers that are kept are of messages -/
def tm_Gd (μ : tm_M) : Prop := ∀ k i p q c, tk_sp k p = (3, q, c) → (μ k i p).toNatClampNeg < 34
theorem tk_ofs : ∀ k, k < tk_NK → ∀ i, i < tk_ct k → tk_pl[tk_of k i]? = some (k, i) := by decide +kernel
theorem tk_pls : ∀ j, j < tk_NC → ∀ q, tk_pl[j]? = some q → q.1 < tk_NK ∧ tk_of q.1 q.2 = j := by
  intro j hj q hq
  have h : ∀ j, j < tk_NC → (match tk_pl[j]? with | some q => decide (q.1 < tk_NK ∧ tk_of q.1 q.2 = j) | none => true) = true := by decide +kernel
  have := h j hj
  rw [hq] at this
  simpa using this
theorem tk_pln : tk_pl.length = tk_NC := by decide +kernel
/-- what the kinds' table keeps to -/
def tk_ok (k p : Nat) : Bool := match tk_sp k p with
  | (0, _, _) => decide (tk_so k = 0 → (xt_ft (tk_a k) p = .int ∨ xt_ft (tk_a k) p = .boolean))
  | (1, q, c) => decide (q < tk_NK ∧ c < tk_ct q ∧ tk_so k = 0)
  | (2, q, _) => decide (q < tk_NK ∧ tk_ct k = tk_ct q ∧ tk_so k = 0)
  | (3, q, _) => decide (q = 4) && (if tk_so k = 0 then xt_iso (xt_ft (tk_a k) p) else decide (tk_a k = 3))
  | (4, q, _) => decide (q < tk_NK ∧ tk_n k ≤ tk_ct q ∧ tk_so k = 2)
  | _ => false
def tk_okr (k : Nat) : Bool := if tk_so k = 0 then decide (tk_a k < 13) && decide ((xt_cs[tk_a k]?).map (fun q => q.2.2) = some (tk_f k)) else if tk_so k = 1 then decide (tk_a k < 2) else decide (tk_so k = 2 ∧ 2 ≤ tk_a k ∧ tk_a k < 6 ∧ tk_f k = 1)
theorem tk_okrs : ∀ k, k < tk_NK → tk_okr k = true := by decide +kernel
theorem tk_oks : ∀ k, k < tk_NK → ∀ p, p < tk_f k → tk_ok k p = true := by decide +kernel
end TM
