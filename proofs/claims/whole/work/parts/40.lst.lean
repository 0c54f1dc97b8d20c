/-! The memory of the constructors: a list of cells in the order of their making. -/
section ML
/-- a cell: ints (type, length, contents), references (type, length, contents), or an object (class, fields) -/
abbrev ml_C : Type := (Nat × Nat × (Nat → Int32)) ⊕ (Nat × Nat × (Nat → Option Nat)) ⊕ (Nat × List (xm_V Nat))
def ml_ok (ty : FieldType) (v : xm_V Nat) : Bool := match ty, v with
  | .int, .inl _ => true
  | .boolean, .inl x => decide (x = 0 ∨ x = 1)
  | .object _, .inr _ => true
  | .array _, .inr _ => true
  | _, _ => false
def ml_df (ty : FieldType) : xm_V Nat := match ty with
  | .object _ => .inr none
  | .array _ => .inr none
  | _ => .inl 0
def ml_vk (n : Nat) (v : xm_V Nat) : Bool := match v with
  | .inr (some q) => decide (q < n)
  | _ => true
def ml_gf (h : List ml_C) (r ci k : Nat) : Option (xm_V Nat) := match h[r]? with
  | some (.inr (.inr (c, fs))) => if c = ci then fs[k]? else none
  | _ => none
def ml_pf (h : List ml_C) (r ci k : Nat) (v : xm_V Nat) : Option (List ml_C) := match h[r]? with
  | some (.inr (.inr (c, fs))) => if c = ci ∧ k < fs.length ∧ ml_ok (xt_ft ci k) v = true ∧ ml_vk h.length v = true then some (h.set r (.inr (.inr (c, fs.set k v)))) else none
  | _ => none
def ml_al (L : Nat) (xs : Nat → Int32) (h : List ml_C) (t r : Nat) (i : Int32) : Option Int32 := if r = 999999 then (if t = 0 ∧ ¬ (i < 0 ∨ L ≤ i.toNatClampNeg) then some (xs i.toNatClampNeg) else none) else match h[r]? with
  | some (.inl (u, n, f)) => if u = t ∧ ¬ (i < 0 ∨ n ≤ i.toNatClampNeg) then some (f i.toNatClampNeg) else none
  | _ => none
def ml_as (h : List ml_C) (t r : Nat) (i x : Int32) : Option (List ml_C) := match h[r]? with
  | some (.inl (u, n, f)) => if u = t ∧ ¬ (i < 0 ∨ n ≤ i.toNatClampNeg) then some (h.set r (.inl (u, n, upd f i.toNatClampNeg (xm_nr2 t x)))) else none
  | _ => none
def ml_rl (h : List ml_C) (r : Nat) (i : Int32) : Option (xm_V Nat) := match h[r]? with
  | some (.inr (.inl (t, n, f))) => if 2 ≤ t ∧ t < 6 ∧ ¬ (i < 0 ∨ n ≤ i.toNatClampNeg) then some (.inr (f i.toNatClampNeg)) else none
  | _ => none
def ml_rs (h : List ml_C) (r : Nat) (i : Int32) (w : Nat) : Option (List ml_C) := match h[r]?, h[w]? with
  | some (.inr (.inl (t, n, f))), some (.inr (.inr (c, _))) => if 3 ≤ t ∧ t < 6 ∧ c < 13 ∧ xt_an t = xt_cn c ∧ ¬ (i < 0 ∨ n ≤ i.toNatClampNeg) then some (h.set r (.inr (.inl (t, n, va_up f i.toNatClampNeg (some w))))) else none
  | _, _ => none
def ml_ln (L : Nat) (h : List ml_C) (r : Nat) : Option Nat := if r = 999999 then some L else match h[r]? with
  | some (.inl (t, n, _)) => if t < 2 then some n else none
  | some (.inr (.inl (t, n, _))) => if 2 ≤ t ∧ t < 6 then some n else none
  | _ => none
def ml_oc (h : List ml_C) (ci r : Nat) : Bool := match h[r]? with
  | some (.inr (.inr (c, _))) => decide (c = ci)
  | _ => false
def ml_nw (h : List ml_C) (ci : Nat) : Option (Nat × List ml_C) := match xt_cs[ci]? with
  | some q => if 1000 ≤ h.length then none else some (h.length, h ++ [.inr (.inr (ci, (List.range q.2.2).map fun k => ml_df (xt_ft ci k)))])
  | none => none
def ml_na (h : List ml_C) (t n : Nat) : Option (Nat × List ml_C) := if t < 2 ∧ n ≤ 10000 ∧ h.length < 1000 then some (h.length, h ++ [.inl (t, n, fun _ => 0)]) else none
def ml_nr (h : List ml_C) (t n : Nat) : Option (Nat × List ml_C) := if 3 ≤ t ∧ t < 6 ∧ n ≤ 10000 ∧ h.length < 1000 then some (h.length, h ++ [.inr (.inl (t, n, fun _ => none))]) else none
def ml_nm (h : List ml_C) (n k : Nat) : Option (Nat × List ml_C) := if n = 4 ∧ k = 40 ∧ h.length < 900 then some (h.length, h ++ [.inr (.inl (2, 4, fun j => if j < 4 then some (h.length + 1 + j) else none)), .inl (0, 40, fun _ => 0), .inl (0, 40, fun _ => 0), .inl (0, 40, fun _ => 0), .inl (0, 40, fun _ => 0)]) else none
def ml_I (L : Nat) (xs : Nat → Int32) : xm_I (List ml_C) Nat := (ml_gf, ml_pf, ml_al L xs, ml_as, ml_rl, ml_rs, ml_ln L, ml_oc, ml_nw, ml_na, ml_nr, ml_nm, fun _ _ _ _ _ _ => none)
def ml_ad (base b0 r : Nat) : Nat := if r = 999999 then b0 else base + r
/-- a cell of the list in the world -/
def ml_E (base b0 : Nat) (tys : List (ClassId × FieldType)) (q : ml_C) : va_E := match q with
  | .inl (t, n, f) => .inl ((tys.getD t (0, .int)).1, n, .inl f)
  | .inr (.inl (t, n, f)) => .inl ((tys.getD t (0, .int)).1, n, .inr (.inr (.inr (.inr (fun j => (f j).map (ml_ad base b0))))))
  | .inr (.inr (c, fs)) => .inr (c, fs.map (xm_e (ml_ad base b0)))
def ml_wl (base b0 : Nat) (tys : List (ClassId × FieldType)) (h : List ml_C) : va_W := h.mapIdx (fun j q => (base + j, ml_E base b0 tys q))
def ml_Lv (h : List ml_C) (r : Nat) : Prop := r < h.length ∨ r = 999999
/-- all references in the list are within -/
def ml_in (n : Nat) (q : ml_C) : Prop := match q with
  | .inl _ => True
  | .inr (.inl (_, m, f)) => ∀ j r, j < m → f j = some r → r < n
  | .inr (.inr (_, fs)) => ∀ r, Sum.inr (some r) ∈ fs → r < n
def ml_Gd (h : List ml_C) : Prop := h.length ≤ 1000 ∧ ∀ q ∈ h, ml_in h.length q
end ML
