/-! The laws of an interface, and the soundness of a step. -/
section XW
variable {σ R : Type}
def xm_nr2 (t : Nat) (x : Int32) : Int32 := if t = 0 then x else vp_nar .boolean x
/-- what stays behind a write: the memory is good, no cell came or went, what was live is live -/
def xm_kp (Lv : σ → R → Prop) (Gd : σ → Prop) (cz : σ → Nat) (s t : σ) (n : Nat) : Prop := Gd t ∧ cz t = cz s + n ∧ ∀ q, Lv s q → Lv t q
def xm_lgf (I : xm_I σ R) (adr : R → Nat) (wl : σ → va_W) (Lv : σ → R → Prop) (Gd : σ → Prop) : Prop := ∀ s r ci k v, Gd s → Lv s r → xm_gf I s r ci k = some v → xm_vv Lv s v ∧ ∃ (q0 : Nat) (fs : List Value), (wl s)[q0]? = some (adr r, .inr (ci, fs)) ∧ fs[k]? = some (xm_e adr v)
def xm_lpf (I : xm_I σ R) (adr : R → Nat) (wl : σ → va_W) (Lv : σ → R → Prop) (Gd : σ → Prop) (cz : σ → Nat) : Prop := ∀ s r ci k v t, Gd s → Lv s r → xm_vv Lv s v → xm_pf I s r ci k v = some t → xm_kp Lv Gd cz s t 0 ∧ (narrow (xt_ft ci k) (xm_e adr v) = xm_e adr v ∧ fits (xt_ft ci k) (xm_e adr v) = true) ∧ ∃ (q0 : Nat) (fs : List Value), (wl s)[q0]? = some (adr r, .inr (ci, fs)) ∧ k < fs.length ∧ wl t = (wl s).set q0 (adr r, .inr (ci, fs.set k (xm_e adr v)))
def xm_lal (I : xm_I σ R) (adr : R → Nat) (wl : σ → va_W) (Lv : σ → R → Prop) (Gd : σ → Prop) (tys : List (ClassId × FieldType)) (b0 L0 : Nat) (xs0 : Nat → Int32) : Prop := ∀ s t r i x, t < 2 → Gd s → Lv s r → xm_al I s t r i = some x → (∃ (q0 : Nat) (cA : ClassId) (n : Nat) (f : Nat → Int32), (wl s)[q0]? = some (adr r, .inl (cA, n, .inl f)) ∧ tys[t]? = some (cA, xt_tt t) ∧ vp_in i n ∧ x = f i.toNatClampNeg) ∨ (t = 0 ∧ adr r = b0 ∧ vp_in i L0 ∧ x = xs0 i.toNatClampNeg)
def xm_las (I : xm_I σ R) (adr : R → Nat) (wl : σ → va_W) (Lv : σ → R → Prop) (Gd : σ → Prop) (cz : σ → Nat) (tys : List (ClassId × FieldType)) : Prop := ∀ s t r i x u, t < 2 → Gd s → Lv s r → xm_as I s t r i x = some u → xm_kp Lv Gd cz s u 0 ∧ ∃ (q0 : Nat) (cA : ClassId) (n : Nat) (f : Nat → Int32), (wl s)[q0]? = some (adr r, .inl (cA, n, .inl f)) ∧ tys[t]? = some (cA, xt_tt t) ∧ vp_in i n ∧ wl u = (wl s).set q0 (adr r, .inl (cA, n, .inl (upd f i.toNatClampNeg (xm_nr2 t x))))
def xm_lrl (I : xm_I σ R) (adr : R → Nat) (wl : σ → va_W) (Lv : σ → R → Prop) (Gd : σ → Prop) (tys : List (ClassId × FieldType)) : Prop := ∀ s r i v, Gd s → Lv s r → xm_rl I s r i = some v → xm_vv Lv s v ∧ ∃ (q0 t0 : Nat) (cA : ClassId) (ty : FieldType) (n : Nat) (f : Nat → Option Nat), (wl s)[q0]? = some (adr r, .inl (cA, n, .inr (.inr (.inr (.inr f))))) ∧ tys[t0]? = some (cA, ty) ∧ ty.isReference = true ∧ vp_in i n ∧ va_rf (f i.toNatClampNeg) = xm_e adr v
def xm_lrs (I : xm_I σ R) (adr : R → Nat) (wl : σ → va_W) (Lv : σ → R → Prop) (Gd : σ → Prop) (cz : σ → Nat) (tys : List (ClassId × FieldType)) : Prop := ∀ s r i w u, Gd s → Lv s r → Lv s w → xm_rs I s r i w = some u → xm_kp Lv Gd cz s u 0 ∧ ∃ (q0 t0 qk ci : Nat) (cA : ClassId) (rw : vw_C) (n : Nat) (vs : List Value) (f : Nat → Option Nat), (wl s)[q0]? = some (adr r, .inl (cA, n, .inr (.inr (.inr (.inr f))))) ∧ tys[t0]? = some (cA, .object rw.1) ∧ (wl s)[qk]? = some (adr w, .inr (ci, vs)) ∧ xt_cs[ci]? = some rw ∧ vp_in i n ∧ wl u = (wl s).set q0 (adr r, .inl (cA, n, .inr (.inr (.inr (.inr (va_up f i.toNatClampNeg (some (adr w))))))))
def xm_lln (I : xm_I σ R) (adr : R → Nat) (wl : σ → va_W) (Lv : σ → R → Prop) (Gd : σ → Prop) (tys : List (ClassId × FieldType)) (b0 L0 : Nat) : Prop := ∀ s r n, Gd s → Lv s r → xm_ln I s r = some n → (∃ (q0 t0 : Nat) (cA : ClassId) (x : vp_A) (ty : FieldType), (wl s)[q0]? = some (adr r, .inl (cA, x)) ∧ tys[t0]? = some (cA, ty) ∧ x.1 = n) ∨ (adr r = b0 ∧ n = L0)
def xm_loc (I : xm_I σ R) (adr : R → Nat) (wl : σ → va_W) (Lv : σ → R → Prop) (Gd : σ → Prop) : Prop := ∀ s ci r, Gd s → Lv s r → xm_oc I s ci r = true → ∃ (q0 : Nat) (fs : List Value), (wl s)[q0]? = some (adr r, .inr (ci, fs))
def xm_lnw (Zk : Prop) (I : xm_I σ R) (adr : R → Nat) (wl : σ → va_W) (Lv : σ → R → Prop) (Gd : σ → Prop) (cz : σ → Nat) (base : Nat) : Prop := ∀ s ci r u, Gd s → xm_nw I s ci = some (r, u) → Zk ∧ xm_kp Lv Gd cz s u 1 ∧ Lv u r ∧ adr r = base + cz s ∧ ∃ fs : List Value, wl u = wl s ++ [(adr r, .inr (ci, fs))] ∧ ∀ rw : vw_C, xt_cs[ci]? = some rw → ∀ j, j < rw.2.2 → defaultValue (xt_ft ci j) = vp_V fs j
def xm_lna (Zk : Prop) (I : xm_I σ R) (adr : R → Nat) (wl : σ → va_W) (Lv : σ → R → Prop) (Gd : σ → Prop) (cz : σ → Nat) (tys : List (ClassId × FieldType)) (base : Nat) : Prop := ∀ s t n r u, t < 2 → Gd s → xm_na I s t n = some (r, u) → Zk ∧ xm_kp Lv Gd cz s u 1 ∧ Lv u r ∧ adr r = base + cz s ∧ n ≤ 10000 ∧ ∃ cA : ClassId, tys[t]? = some (cA, xt_tt t) ∧ wl u = wl s ++ [(adr r, .inl (cA, n, .inl (fun _ => 0)))]
def xm_lnr (Zk : Prop) (I : xm_I σ R) (adr : R → Nat) (wl : σ → va_W) (Lv : σ → R → Prop) (Gd : σ → Prop) (cz : σ → Nat) (tys : List (ClassId × FieldType)) (base : Nat) : Prop := ∀ s t n r u, Gd s → xm_nr I s t n = some (r, u) → Zk ∧ xm_kp Lv Gd cz s u 1 ∧ Lv u r ∧ adr r = base + cz s ∧ n ≤ 10000 ∧ ∃ cA : ClassId, tys[t]? = some (cA, .object (xt_an t)) ∧ wl u = wl s ++ [(adr r, .inl (cA, n, .inr (.inr (.inr (.inr (fun _ => none))))))]
def xm_lcp (Zk : Prop) (I : xm_I σ R) (adr : R → Nat) (wl : σ → va_W) (Lv : σ → R → Prop) (Gd : σ → Prop) (cz : σ → Nat) (tys : List (ClassId × FieldType)) : Prop := ∀ s r sp d dp n u, Gd s → Lv s r → Lv s d → xm_cp I s r sp d dp n = some u → ¬ Zk ∧ xm_kp Lv Gd cz s u 0 ∧ ∃ (q0 q1 : Nat) (cA : ClassId) (n0 n1 : Nat) (f g : Nat → Int32), (wl s)[q0]? = some (adr r, .inl (cA, n0, .inl f)) ∧ (wl s)[q1]? = some (adr d, .inl (cA, n1, .inl g)) ∧ tys[0]? = some (cA, .int) ∧ ¬ sp < 0 ∧ ¬ dp < 0 ∧ ¬ n < 0 ∧ sp.toNatClampNeg + n.toNatClampNeg ≤ n0 ∧ dp.toNatClampNeg + n.toNatClampNeg ≤ n1 ∧ wl u = (wl s).set q1 (adr d, .inl (cA, n1, .inl (va_cpy f g sp.toNatClampNeg dp.toNatClampNeg n.toNatClampNeg)))
def xm_lnm (Zk : Prop) (I : xm_I σ R) (adr : R → Nat) (wl : σ → va_W) (Lv : σ → R → Prop) (Gd : σ → Prop) (cz : σ → Nat) (tys : List (ClassId × FieldType)) (base : Nat) : Prop := ∀ s n k r u, Gd s → xm_nm I s n k = some (r, u) → Zk ∧ n = 4 ∧ k = 40 ∧ xm_kp Lv Gd cz s u 5 ∧ Lv u r ∧ adr r = base + cz s ∧ ∃ (cI cA : ClassId) (G : Nat → Option Nat), tys[0]? = some (cI, .int) ∧ tys[2]? = some (cA, .array .int) ∧ (∀ j, j < 4 → G j = some (base + cz s + 1 + j)) ∧ wl u = wl s ++ ([(base + cz s, .inl (cA, 4, .inr (.inr (.inr (.inr G)))))] ++ (List.range 4).map (fun j => ((base + cz s + 1 + j, .inl (cI, 40, .inl (fun _ => 0))) : Nat × va_E)))
def xm_Lw (Zk : Prop) (I : xm_I σ R) (adr : R → Nat) (wl : σ → va_W) (Lv : σ → R → Prop) (Gd : σ → Prop) (cz : σ → Nat) (tys : List (ClassId × FieldType)) (base b0 L0 : Nat) (xs0 : Nat → Int32) : Prop :=
  (∀ s, Gd s → va_D (fun q => base ≤ q) (wl s)) ∧ xm_lgf I adr wl Lv Gd ∧ xm_lpf I adr wl Lv Gd cz ∧ xm_lal I adr wl Lv Gd tys b0 L0 xs0 ∧ xm_las I adr wl Lv Gd cz tys ∧ xm_lrl I adr wl Lv Gd tys ∧ xm_lrs I adr wl Lv Gd cz tys ∧ xm_lln I adr wl Lv Gd tys b0 L0 ∧ xm_loc I adr wl Lv Gd ∧ xm_lnw Zk I adr wl Lv Gd cz base ∧ xm_lna Zk I adr wl Lv Gd cz tys base ∧ xm_lnr Zk I adr wl Lv Gd cz tys base ∧ xm_lnm Zk I adr wl Lv Gd cz tys base ∧ xm_lcp Zk I adr wl Lv Gd cz tys
/-- the tables and the script, as a method finds them -/
def xm_Wo (D : va_G) (tys : List (ClassId × FieldType)) (base b0 L0 : Nat) (xs0 : Nat → Int32) (U : State) : Prop := va_K D xt_cs tys U ∧ va_X b0 L0 xs0 U U.heap ∧ b0 < base ∧ base ≤ U.heap.size ∧ ∀ w ∈ xt_nw, va_Nw w U
/-- the heap holds the memory -/
def xm_Rp (Zk : Prop) (wl : σ → va_W) (Gd : σ → Prop) (cz : σ → Nat) (D : va_G) (base : Nat) (s : σ) (H : Heap) : Prop := Gd s ∧ (Zk → H.size = base + cz s) ∧ va_P D xt_cs (wl s) H
/-- the frame of method y -/
def xm_Fx (y : Nat) (p : Program) (s : State) (m : MethodId) (args : Array Value) (meth : Method) (c : Code) : Prop := p.tables.exec = Jvm.exec ∧ c.code = xt_bc y ∧ c.maxLocals = xt_ml y ∧ s.vm.findClass (xt_ow y) = some m.cls ∧ (∀ w ∈ xt_G, w.before args s = true) ∧ (xt_ini y = true → meth.name = "<init>")
end XW
section XS
variable {σ R : Type} {Zk : Prop} {I : xm_I σ R} {adr : R → Nat} {wl : σ → va_W} {Lv : σ → R → Prop} {Gd : σ → Prop} {cz : σ → Nat} {D : va_G} {tys : List (ClassId × FieldType)} {base b0 L0 : Nat} {xs0 : Nat → Int32}
variable {p : Program} {l : Launch} {e : Env} {Rm : Room} {s0 : State} {m : MethodId} {args : Array Value} {below : List Frame} {meth : Method} {c : Code} {H : Heap} {locs : List Loc} {cells slots : Nat} {Q : State → Prop}
variable {y pc : Nat} {ls : xm_L R} {st : xm_S R} {s : σ} {arr : Array Slot}
set_option maxHeartbeats 4000000 in
set_option maxRecDepth 100000 in
/-- a step that goes on -/
theorem xm_s1 (Lw : xm_Lw Zk I adr wl Lv Gd cz tys base b0 L0 xs0) (hF : xm_Fx y p s0 m args meth c) (hW : xm_Wo D tys base b0 L0 xs0 s0) (hRp : xm_Rp Zk wl Gd cz D base s H) (hS : va_S (fun q => base ≤ q) s0.heap H locs) (hl : xm_lh adr (xt_ml y) arr ls) (hvl : xm_vl Lv s ls) (hvs : xm_vs Lv s st)
    (hfr : 1 ≤ Rm.frames) (hlo : 40 ≤ Rm.locals)
    {q : Nat × xm_L R × xm_S R × σ × Nat × Nat} (hst : xm_st I y pc ls st s = .inl q) (hc : cells + q.2.2.2.2.1 ≤ Rm.cells) (hs : slots + q.2.2.2.2.2 ≤ Rm.slots)
    (kk : (∀ r, Lv s r → Lv q.2.2.2.1 r) → ∀ (H' : Heap) (locs' : List Loc) (arr' : Array Slot), xm_Rp Zk wl Gd cz D base q.2.2.2.1 H' → va_S (fun q => base ≤ q) s0.heap H' locs' → xm_lh adr (xt_ml y) arr' q.2.1 → xm_vl Lv q.2.2.2.1 q.2.1 → xm_vs Lv q.2.2.2.1 q.2.2.1 → W p l e Rm s0 m args below meth c H' locs' (cells + q.2.2.2.2.1) (slots + q.2.2.2.2.2) Q (F0 m q.1 arr' (q.2.2.1.map (xm_e adr)))) :
    W p l e Rm s0 m args below meth c H locs cells slots Q (F0 m pc arr (st.map (xm_e adr))) := by
  obtain ⟨hx, hb, hml, hown, hts, hini⟩ := hF
  obtain ⟨hK, hX, hbb, hbs, hN⟩ := hW
  obtain ⟨hG, hz, hP⟩ := hRp
  obtain ⟨lD, lgf, lpf, lal, las, lrl, lrs, lln, loc, lnw, lna, lnr, lnm, lcp⟩ := Lw
  have hD := lD s hG
  have hA : ∀ q, s0.heap.size ≤ q → base ≤ q := fun q h => Nat.le_trans hbs h
  have hz0 := xm_lz q
  unfold xm_st at hst
  cases hat : xt_at y pc with
  | none => rw [hat] at hst; exact absurd hst.symm hz0
  | some w =>
    obtain ⟨i, ln, ra, rb, rv⟩ := w
    have hck := xt_ok hat
    rw [hat] at hst
    dsimp only at hst
    cases i
    all_goals try dsimp only at hst
    case iconst n =>
      simp only [xt_ck, Bool.and_eq_true, decide_eq_true_eq] at hck
      obtain ⟨hd, rfl, hv⟩ := hck
      cases hst
      exact lv_iconst hx hb hd hv (kk (fun _ h => h) H locs arr ⟨hG, hz, hP⟩ hS hl hvl (xm_vs_c (xm_vv_i _) hvs))
    case bipush n =>
      simp only [xt_ck, Bool.and_eq_true, decide_eq_true_eq] at hck
      obtain ⟨hd, rfl, hv⟩ := hck
      cases hst
      exact lv_bipush hx hb hd hv (kk (fun _ h => h) H locs arr ⟨hG, hz, hP⟩ hS hl hvl (xm_vs_c (xm_vv_i _) hvs))
    case sipush n =>
      simp only [xt_ck, Bool.and_eq_true, decide_eq_true_eq] at hck
      obtain ⟨hd, rfl, hv⟩ := hck
      cases hst
      exact lv_sipush hx hb hd hv (kk (fun _ h => h) H locs arr ⟨hG, hz, hP⟩ hS hl hvl (xm_vs_c (xm_vv_i _) hvs))
    case ldc n =>
      simp only [xt_ck, Bool.and_eq_true, decide_eq_true_eq] at hck
      obtain ⟨hd, rfl, hv⟩ := hck
      cases hst
      exact lv_ldc hx hb hown (hts _ (xt_kt_ok hv)) hd (kk (fun _ h => h) H locs arr ⟨hG, hz, hP⟩ hS hl hvl (xm_vs_c (xm_vv_i _) hvs))
    case iload_n n =>
      simp only [xt_ck, Bool.and_eq_true, decide_eq_true_eq] at hck
      obtain ⟨hd, rfl, hv, hv2⟩ := hck
      obtain ⟨x, hi, hst⟩ := xm_li_i hst hz0
      cases hst
      exact lv_iload_n hx hb hd hv (xm_lh_at hl hi) (kk (fun _ h => h) H locs arr ⟨hG, hz, hP⟩ hS hl hvl (xm_vs_c (xm_vv_i _) hvs))
    case iload n =>
      simp only [xt_ck, Bool.and_eq_true, decide_eq_true_eq] at hck
      obtain ⟨hd, rfl, rfl, hv2⟩ := hck
      obtain ⟨x, hi, hst⟩ := xm_li_i hst hz0
      cases hst
      exact lv_iload hx hb hd (xm_lh_at hl hi) (kk (fun _ h => h) H locs arr ⟨hG, hz, hP⟩ hS hl hvl (xm_vs_c (xm_vv_i _) hvs))
    case aload_n n =>
      simp only [xt_ck, Bool.and_eq_true, decide_eq_true_eq] at hck
      obtain ⟨hd, rfl, hv, hv2⟩ := hck
      obtain ⟨x, hi, hst⟩ := xm_lr_i hst hz0
      cases hst
      exact lv_aload_n hx hb hd hv (xm_lh_at hl hi) (kk (fun _ h => h) H locs arr ⟨hG, hz, hP⟩ hS hl hvl (xm_vs_c (hvl _ _ hi) hvs))
    case aload n =>
      simp only [xt_ck, Bool.and_eq_true, decide_eq_true_eq] at hck
      obtain ⟨hd, rfl, rfl, hv2⟩ := hck
      obtain ⟨x, hi, hst⟩ := xm_lr_i hst hz0
      cases hst
      exact lv_aload hx hb hd (xm_lh_at hl hi) (kk (fun _ h => h) H locs arr ⟨hG, hz, hP⟩ hS hl hvl (xm_vs_c (hvl _ _ hi) hvs))
    case istore_n n =>
      simp only [xt_ck, Bool.and_eq_true, decide_eq_true_eq] at hck
      obtain ⟨hd, rfl, hv, hv2⟩ := hck
      obtain ⟨x, r, rfl, hst⟩ := xm_i1_i hst hz0
      cases hst
      exact lv_istore_n hx hb hd hv hl.1 hv2 rfl (fun arr' h' => kk (fun _ h => h) H locs arr' ⟨hG, hz, hP⟩ hS (xm_lh_set (v := .inl x) hl hv2 h') (xm_vl_s hvl (xm_vv_i _) _) (xm_vs_t hvs))
    case istore n =>
      simp only [xt_ck, Bool.and_eq_true, decide_eq_true_eq] at hck
      obtain ⟨hd, rfl, rfl, hv2⟩ := hck
      obtain ⟨x, r, rfl, hst⟩ := xm_i1_i hst hz0
      cases hst
      exact lv_istore hx hb hd hl.1 hv2 rfl (fun arr' h' => kk (fun _ h => h) H locs arr' ⟨hG, hz, hP⟩ hS (xm_lh_set (v := .inl x) hl hv2 h') (xm_vl_s hvl (xm_vv_i _) _) (xm_vs_t hvs))
    case astore_n n =>
      simp only [xt_ck, Bool.and_eq_true, decide_eq_true_eq] at hck
      obtain ⟨hd, rfl, hv, hv2⟩ := hck
      obtain ⟨x, r, rfl, hst⟩ := xm_r1_i hst hz0
      cases hst
      exact lv_astore_n hx hb hd hv hl.1 hv2 rfl (fun arr' h' => kk (fun _ h => h) H locs arr' ⟨hG, hz, hP⟩ hS (xm_lh_set (v := .inr (some x)) hl hv2 h') (xm_vl_s hvl (xm_vs_h hvs) _) (xm_vs_t hvs))
    case astore n =>
      simp only [xt_ck, Bool.and_eq_true, decide_eq_true_eq] at hck
      obtain ⟨hd, rfl, rfl, hv2⟩ := hck
      obtain ⟨x, r, rfl, hst⟩ := xm_r1_i hst hz0
      cases hst
      exact lv_astore hx hb hd hl.1 hv2 rfl (fun arr' h' => kk (fun _ h => h) H locs arr' ⟨hG, hz, hP⟩ hS (xm_lh_set (v := .inr (some x)) hl hv2 h') (xm_vl_s hvl (xm_vs_h hvs) _) (xm_vs_t hvs))
    case iinc n z =>
      simp only [xt_ck, Bool.and_eq_true, decide_eq_true_eq] at hck
      obtain ⟨hd, rfl, rfl, hv2, hv3⟩ := hck
      obtain ⟨x, hi, hst⟩ := xm_li_i hst hz0
      cases hst
      obtain ⟨k, hk⟩ := List.getElem?_of_mem (xm_lo_mem (adr := adr).mpr ⟨_, hi, rfl⟩)
      exact lv_iinc hx hb hd hl.1 hk (by rw [hv3]) hv2 rfl (fun arr' h' => kk (fun _ h => h) H locs arr' ⟨hG, hz, hP⟩ hS (xm_lh_set (v := .inl (x + rv)) hl hv2 h') (xm_vl_s hvl (xm_vv_i _) _) hvs)
    case iadd =>
      simp only [xt_ck, Bool.and_eq_true, decide_eq_true_eq] at hck
      obtain ⟨hd, rfl⟩ := hck
      obtain ⟨x, z, r, rfl, hst⟩ := xm_i2_i hst hz0
      cases hst
      exact lv_iadd hx hb hd (kk (fun _ h => h) H locs arr ⟨hG, hz, hP⟩ hS hl hvl (xm_vs_c (xm_vv_i _) (xm_vs_t (xm_vs_t hvs))))
    case isub =>
      simp only [xt_ck, Bool.and_eq_true, decide_eq_true_eq] at hck
      obtain ⟨hd, rfl⟩ := hck
      obtain ⟨x, z, r, rfl, hst⟩ := xm_i2_i hst hz0
      cases hst
      exact lv_isub hx hb hd (kk (fun _ h => h) H locs arr ⟨hG, hz, hP⟩ hS hl hvl (xm_vs_c (xm_vv_i _) (xm_vs_t (xm_vs_t hvs))))
    case imul =>
      simp only [xt_ck, Bool.and_eq_true, decide_eq_true_eq] at hck
      obtain ⟨hd, rfl⟩ := hck
      obtain ⟨x, z, r, rfl, hst⟩ := xm_i2_i hst hz0
      cases hst
      exact lv_imul hx hb hd (kk (fun _ h => h) H locs arr ⟨hG, hz, hP⟩ hS hl hvl (xm_vs_c (xm_vv_i _) (xm_vs_t (xm_vs_t hvs))))
    case iand =>
      simp only [xt_ck, Bool.and_eq_true, decide_eq_true_eq] at hck
      obtain ⟨hd, rfl⟩ := hck
      obtain ⟨x, z, r, rfl, hst⟩ := xm_i2_i hst hz0
      cases hst
      exact lv_iand hx hb hd (kk (fun _ h => h) H locs arr ⟨hG, hz, hP⟩ hS hl hvl (xm_vs_c (xm_vv_i _) (xm_vs_t (xm_vs_t hvs))))
    case ixor =>
      simp only [xt_ck, Bool.and_eq_true, decide_eq_true_eq] at hck
      obtain ⟨hd, rfl⟩ := hck
      obtain ⟨x, z, r, rfl, hst⟩ := xm_i2_i hst hz0
      cases hst
      exact lv_ixor hx hb hd (kk (fun _ h => h) H locs arr ⟨hG, hz, hP⟩ hS hl hvl (xm_vs_c (xm_vv_i _) (xm_vs_t (xm_vs_t hvs))))
    case iushr =>
      simp only [xt_ck, Bool.and_eq_true, decide_eq_true_eq] at hck
      obtain ⟨hd, rfl⟩ := hck
      obtain ⟨x, z, r, rfl, hst⟩ := xm_i2_i hst hz0
      cases hst
      exact lv_iushr hx hb hd rfl (kk (fun _ h => h) H locs arr ⟨hG, hz, hP⟩ hS hl hvl (xm_vs_c (xm_vv_i _) (xm_vs_t (xm_vs_t hvs))))
    case irem =>
      simp only [xt_ck, Bool.and_eq_true, decide_eq_true_eq] at hck
      obtain ⟨hd, rfl⟩ := hck
      obtain ⟨x, z, r, rfl, hs2⟩ := xm_i2_i hst hz0
      clear hst
      have hst := hs2
      clear hs2
      try dsimp only at hst
      split at hst
      · exact absurd hst.symm hz0
      · rename_i hne
        cases hst
        exact lv_irem hx hb hd hne (kk (fun _ h => h) H locs arr ⟨hG, hz, hP⟩ hS hl hvl (xm_vs_c (xm_vv_i _) (xm_vs_t (xm_vs_t hvs))))
    case dup =>
      simp only [xt_ck, Bool.and_eq_true, decide_eq_true_eq] at hck
      obtain ⟨hd, rfl⟩ := hck
      obtain ⟨v, r, rfl, hst⟩ := xm_v1_i hst hz0
      cases hst
      exact lv_dup hx hb hd (xm_e_cat _ _) (kk (fun _ h => h) H locs arr ⟨hG, hz, hP⟩ hS hl hvl (xm_vs_c (xm_vs_h hvs) hvs))
    case dup2 =>
      simp only [xt_ck, Bool.and_eq_true, decide_eq_true_eq] at hck
      obtain ⟨hd, rfl⟩ := hck
      obtain ⟨v, w, r, rfl, hst⟩ := xm_v2_i hst hz0
      cases hst
      exact lv_dup2_11 hx hb hd (xm_e_cat _ _) (xm_e_cat _ _) (kk (fun _ h => h) H locs arr ⟨hG, hz, hP⟩ hS hl hvl (xm_vs_c (xm_vs_h hvs) (xm_vs_c (xm_vs_h (xm_vs_t hvs)) hvs)))
    case pop =>
      simp only [xt_ck, Bool.and_eq_true, decide_eq_true_eq] at hck
      obtain ⟨hd, rfl⟩ := hck
      obtain ⟨v, r, rfl, hst⟩ := xm_v1_i hst hz0
      cases hst
      exact lv_pop hx hb hd (xm_e_cat _ _) (kk (fun _ h => h) H locs arr ⟨hG, hz, hP⟩ hS hl hvl (xm_vs_t hvs))
    case goto o =>
      simp only [xt_ck, Bool.and_eq_true, decide_eq_true_eq] at hck
      obtain ⟨hd, rfl, ht⟩ := hck
      cases hst
      exact lv_goto hx hb hd ht (kk (fun _ h => h) H locs arr ⟨hG, hz, hP⟩ hS hl hvl hvs)
    case ifCond k o =>
      simp only [xt_ck, Bool.and_eq_true, decide_eq_true_eq] at hck
      obtain ⟨hd, rfl, ht⟩ := hck
      obtain ⟨x, r, rfl, hst⟩ := xm_i1_i hst hz0
      cases hst
      have kk := kk (fun _ h => h) H locs arr ⟨hG, hz, hP⟩ hS hl hvl (xm_vs_t hvs)
      dsimp only at kk
      cases k
      · exact lv_if_eq hx hb hd ht (fun h => by rw [show xm_c0 .eq x ra (pc + 3) = ra from if_pos h] at kk; exact kk) (fun h => by rw [show xm_c0 .eq x ra (pc + 3) = pc + 3 from if_neg h] at kk; exact kk)
      · exact lv_if_ne hx hb hd ht (fun h => by rw [show xm_c0 .ne x ra (pc + 3) = ra from if_neg h] at kk; exact kk) (fun h => by rw [show xm_c0 .ne x ra (pc + 3) = pc + 3 from if_pos h] at kk; exact kk)
      · exact lv_if_lt hx hb hd ht (fun h => by rw [show xm_c0 .lt x ra (pc + 3) = ra from if_pos h] at kk; exact kk) (fun h => by rw [show xm_c0 .lt x ra (pc + 3) = pc + 3 from if_neg h] at kk; exact kk)
      · exact lv_if_ge hx hb hd ht (fun h => by rw [show xm_c0 .ge x ra (pc + 3) = ra from if_pos h] at kk; exact kk) (fun h => by rw [show xm_c0 .ge x ra (pc + 3) = pc + 3 from if_neg h] at kk; exact kk)
      · exact lv_if_gt hx hb hd ht (fun h => by rw [show xm_c0 .gt x ra (pc + 3) = ra from if_pos h] at kk; exact kk) (fun h => by rw [show xm_c0 .gt x ra (pc + 3) = pc + 3 from if_neg h] at kk; exact kk)
      · exact lv_if_le hx hb hd ht (fun h => by rw [show xm_c0 .le x ra (pc + 3) = ra from if_pos h] at kk; exact kk) (fun h => by rw [show xm_c0 .le x ra (pc + 3) = pc + 3 from if_neg h] at kk; exact kk)
    case if_icmp k o =>
      simp only [xt_ck, Bool.and_eq_true, decide_eq_true_eq] at hck
      obtain ⟨hd, rfl, ht⟩ := hck
      obtain ⟨x, z, r, rfl, hst⟩ := xm_i2_i hst hz0
      cases hst
      have kk := kk (fun _ h => h) H locs arr ⟨hG, hz, hP⟩ hS hl hvl (xm_vs_t (xm_vs_t hvs))
      dsimp only at kk
      cases k
      · exact lv_icmp_eq hx hb hd ht (fun h => by rw [show xm_c2 .eq x z ra (pc + 3) = ra from if_pos h] at kk; exact kk) (fun h => by rw [show xm_c2 .eq x z ra (pc + 3) = pc + 3 from if_neg h] at kk; exact kk)
      · exact lv_icmp_ne hx hb hd ht (fun h => by rw [show xm_c2 .ne x z ra (pc + 3) = ra from if_neg h] at kk; exact kk) (fun h => by rw [show xm_c2 .ne x z ra (pc + 3) = pc + 3 from if_pos h] at kk; exact kk)
      · exact lv_icmp_lt hx hb hd ht (fun h => by rw [show xm_c2 .lt x z ra (pc + 3) = ra from if_pos h] at kk; exact kk) (fun h => by rw [show xm_c2 .lt x z ra (pc + 3) = pc + 3 from if_neg h] at kk; exact kk)
      · exact lv_icmp_ge hx hb hd ht (fun h => by rw [show xm_c2 .ge x z ra (pc + 3) = ra from if_pos h] at kk; exact kk) (fun h => by rw [show xm_c2 .ge x z ra (pc + 3) = pc + 3 from if_neg h] at kk; exact kk)
      · exact lv_icmp_gt hx hb hd ht (fun h => by rw [show xm_c2 .gt x z ra (pc + 3) = ra from if_pos h] at kk; exact kk) (fun h => by rw [show xm_c2 .gt x z ra (pc + 3) = pc + 3 from if_neg h] at kk; exact kk)
      · exact lv_icmp_le hx hb hd ht (fun h => by rw [show xm_c2 .le x z ra (pc + 3) = ra from if_pos h] at kk; exact kk) (fun h => by rw [show xm_c2 .le x z ra (pc + 3) = pc + 3 from if_neg h] at kk; exact kk)
    case tableswitch df lo hi offs =>
      simp only [xt_ck, Bool.and_eq_true, decide_eq_true_eq] at hck
      obtain ⟨hd, hdf, hof, hsz⟩ := hck
      obtain ⟨x, r, rfl, hst⟩ := xm_i1_i hst hz0
      cases hst
      have kk := kk (fun _ h => h) H locs arr ⟨hG, hz, hP⟩ hS hl hvl (xm_vs_t hvs)
      by_cases hin : x.toInt < lo ∨ hi < x.toInt
      · simp only [if_pos hin] at kk
        exact lv_tableOut hx hb hd hin hdf kk
      · simp only [if_neg hin] at kk
        have h1 : ¬ x.toInt < lo := fun h => hin (Or.inl h)
        have h2 : ¬ hi < x.toInt := fun h => hin (Or.inr h)
        have hlt : (x.toInt - lo).toNat < offs.size := by omega
        have ho : offs[(x.toInt - lo).toNat]? = some offs[(x.toInt - lo).toNat] := Array.getElem?_eq_getElem hlt
        have ho2 : offs.toList[(x.toInt - lo).toNat]? = some offs[(x.toInt - lo).toNat] := by rw [Array.getElem?_toList]; exact ho
        rw [ho2, Option.getD_some] at kk
        have hp0 := List.all_eq_true.mp hof _ (List.mem_of_getElem? ho2)
        simp only [decide_eq_true_eq] at hp0
        exact lv_tableIn hx hb hd h1 h2 ho (Int.toNat_of_nonneg hp0).symm kk
    case getfield n =>
      simp only [xt_ck, Bool.and_eq_true, decide_eq_true_eq] at hck
      obtain ⟨hd, rfl, hfl⟩ := hck
      obtain ⟨o, r, rfl, hst⟩ := xm_r1_i hst hz0
      obtain ⟨v, hv, hst⟩ := xm_o_i hst hz0
      cases hst
      obtain ⟨C, T, N, hcs, hk, hdc, hlk, hfn⟩ := xt_fl_ok hfl
      obtain ⟨hlay, hty, hnm⟩ := xt_cf hcs
      obtain ⟨hvv, q0, fs, he, hfk⟩ := lgf s o ra rb v hG (xm_vv_u (xm_vs_h hvs)) hv
      exact va_get (ref := C) hx hb hts (fun w h => hlay w h) hown hK hP q0 he hcs rb hk (hts _ hlk) (fun x h => by rw [hdc] at h; exact h) hfk hd (kk (fun _ h => h) H locs arr ⟨hG, hz, hP⟩ hS hl hvl (xm_vs_c hvv (xm_vs_t hvs)))
    case putfield n =>
      simp only [xt_ck, Bool.and_eq_true, decide_eq_true_eq] at hck
      obtain ⟨hd, rfl, hfl, hfo⟩ := hck
      obtain ⟨o, v, r, rfl, hst⟩ := xm_rv_i hst hz0
      obtain ⟨u, hu, hst⟩ := xm_o_i hst hz0
      cases hst
      obtain ⟨C, T, N, hcs, hk, hdc, hlk, hfn⟩ := xt_fl_ok hfl
      obtain ⟨hlay, hty, hnm⟩ := xt_cf hcs
      obtain ⟨⟨hG', hz', hmo⟩, ⟨hna, hfi⟩, q0, fs, he, hlt, hwl⟩ := lpf s o ra rb v u hG (xm_vv_u (xm_vs_h (xm_vs_t hvs))) (xm_vs_h hvs) hu
      exact xm_put hx hb hts (fun w h => hlay w h) (xt_ft ra) hty hnm hown hK hP hD hS q0 he hcs rb hk (hts _ hlk) hdc (xt_fo hfo hini hcs) hna hfi hlt hd (fun H1 locs1 hP1 hS1 hsz => kk hmo H1 locs1 arr ⟨hG', fun hk => by rw [hsz, hz hk, hz']; rfl, by rw [hwl]; exact hP1⟩ hS1 hl (xm_vl_m hmo hvl) (xm_vs_m hmo (xm_vs_t (xm_vs_t hvs))))
    case iaload =>
      simp only [xt_ck, Bool.and_eq_true, decide_eq_true_eq] at hck
      obtain ⟨hd, rfl⟩ := hck
      obtain ⟨o, i, r, rfl, hst⟩ := xm_ri_i hst hz0
      obtain ⟨x, hx', hst⟩ := xm_o_i hst hz0
      cases hst
      have kk := kk (fun _ h => h) H locs arr ⟨hG, hz, hP⟩ hS hl hvl (xm_vs_c (xm_vv_i x) (xm_vs_t (xm_vs_t hvs)))
      rcases lal s 0 o i x (by decide) hG (xm_vv_u (xm_vs_h (xm_vs_t hvs))) hx' with ⟨q0, cA, n, f, ha, ht, hin, rfl⟩ | ⟨-, hb0, hin, rfl⟩
      · exact va_iald hx hb hK hP q0 0 ha ht hin hd kk
      · have hbl : b0 < s0.heap.size := Nat.lt_of_lt_of_le hbb hbs
        have g := va_sld (A := fun q => base ≤ q) (rest := r.map (xm_e adr)) (ls := arr) hx hb hX hbl (Nat.not_le.mpr hbb) hS hin hd kk
        rw [← hb0] at g
        exact g
    case baload =>
      simp only [xt_ck, Bool.and_eq_true, decide_eq_true_eq] at hck
      obtain ⟨hd, rfl⟩ := hck
      obtain ⟨o, i, r, rfl, hst⟩ := xm_ri_i hst hz0
      obtain ⟨x, hx', hst⟩ := xm_o_i hst hz0
      cases hst
      have kk := kk (fun _ h => h) H locs arr ⟨hG, hz, hP⟩ hS hl hvl (xm_vs_c (xm_vv_i x) (xm_vs_t (xm_vs_t hvs)))
      rcases lal s 1 o i x (by decide) hG (xm_vv_u (xm_vs_h (xm_vs_t hvs))) hx' with ⟨q0, cA, n, f, ha, ht, hin, rfl⟩ | ⟨h0, -⟩
      · exact va_zald hx hb hK hP q0 1 ha ht hin hd kk
      · cases h0
    case iastore =>
      simp only [xt_ck, Bool.and_eq_true, decide_eq_true_eq] at hck
      obtain ⟨hd, rfl⟩ := hck
      obtain ⟨o, i, x, r, rfl, hst⟩ := xm_rii_i hst hz0
      obtain ⟨u, hu, hst⟩ := xm_o_i hst hz0
      cases hst
      obtain ⟨⟨hG', hz', hmo⟩, q0, cA, n, f, ha, ht, hin, hwl⟩ := las s 0 o i x u (by decide) hG (xm_vv_u (xm_vs_h (xm_vs_t (xm_vs_t hvs)))) hu
      exact xm_iast hx hb hK hP hD hS q0 0 ha ht hin hd (fun H1 locs1 hP1 hS1 hsz => kk hmo H1 locs1 arr ⟨hG', fun hk => by rw [hsz, hz hk, hz']; rfl, by rw [hwl]; exact hP1⟩ hS1 hl (xm_vl_m hmo hvl) (xm_vs_m hmo (xm_vs_t (xm_vs_t (xm_vs_t hvs)))))
    case bastore =>
      simp only [xt_ck, Bool.and_eq_true, decide_eq_true_eq] at hck
      obtain ⟨hd, rfl⟩ := hck
      obtain ⟨o, i, x, r, rfl, hst⟩ := xm_rii_i hst hz0
      obtain ⟨u, hu, hst⟩ := xm_o_i hst hz0
      cases hst
      obtain ⟨⟨hG', hz', hmo⟩, q0, cA, n, f, ha, ht, hin, hwl⟩ := las s 1 o i x u (by decide) hG (xm_vv_u (xm_vs_h (xm_vs_t (xm_vs_t hvs)))) hu
      exact xm_zast hx hb hK hP hD hS q0 1 ha ht hin hd (fun H1 locs1 hP1 hS1 hsz => kk hmo H1 locs1 arr ⟨hG', fun hk => by rw [hsz, hz hk, hz']; rfl, by rw [hwl]; exact hP1⟩ hS1 hl (xm_vl_m hmo hvl) (xm_vs_m hmo (xm_vs_t (xm_vs_t (xm_vs_t hvs)))))
    case aaload =>
      simp only [xt_ck, Bool.and_eq_true, decide_eq_true_eq] at hck
      obtain ⟨hd, rfl⟩ := hck
      obtain ⟨o, i, r, rfl, hst⟩ := xm_ri_i hst hz0
      obtain ⟨v, hv, hst⟩ := xm_o_i hst hz0
      cases hst
      obtain ⟨hvv, q0, t0, cA, ty, n, f, ha, ht, hrf, hin, hfv⟩ := lrl s o i v hG (xm_vv_u (xm_vs_h (xm_vs_t hvs))) hv
      have hlt : i.toNatClampNeg < n := Nat.not_le.mp fun q => hin (Or.inr q)
      exact W.aald (v := xm_e adr v) (ty := ty) hx hb (hP q0 _ ha) ((hK.2 t0 _ ht).1 n (fun j => va_rf (f j))) hrf (fun q => by cases q) (by show ¬ (i < 0 ∨ (arrV _ _ _).slots.size ≤ _); rw [arrV_size]; exact hin) (by show (arrV _ _ _).slots[_]? = _; rw [arrV_read _ _ hlt, hfv]) rfl rfl hd (kk (fun _ h => h) H locs arr ⟨hG, hz, hP⟩ hS hl hvl (xm_vs_c hvv (xm_vs_t (xm_vs_t hvs))))
    case aastore =>
      simp only [xt_ck, Bool.and_eq_true, decide_eq_true_eq] at hck
      obtain ⟨hd, rfl⟩ := hck
      obtain ⟨o, i, w, r, rfl, hst⟩ := xm_rir_i hst hz0
      obtain ⟨u, hu, hst⟩ := xm_o_i hst hz0
      cases hst
      obtain ⟨⟨hG', hz', hmo⟩, q0, t0, qk, ci, cA, rw', n, vs, f, ha, ht, hv, hcs, hin, hwl⟩ := lrs s o i w u hG (xm_vv_u (xm_vs_h (xm_vs_t (xm_vs_t hvs)))) (xm_vv_u (xm_vs_h hvs)) hu
      exact xm_aast hx hb hK hP hD hS q0 t0 qk ci ha ht hv hcs hin hd (fun H1 locs1 hP1 hS1 hsz => kk hmo H1 locs1 arr ⟨hG', fun hk => by rw [hsz, hz hk, hz']; rfl, by rw [hwl]; exact hP1⟩ hS1 hl (xm_vl_m hmo hvl) (xm_vs_m hmo (xm_vs_t (xm_vs_t (xm_vs_t hvs)))))
    case arraylength =>
      simp only [xt_ck, Bool.and_eq_true, decide_eq_true_eq] at hck
      obtain ⟨hd, rfl⟩ := hck
      obtain ⟨o, r, rfl, hst⟩ := xm_r1_i hst hz0
      obtain ⟨n, hn, hst⟩ := xm_o_i hst hz0
      cases hst
      have kk := kk (fun _ h => h) H locs arr ⟨hG, hz, hP⟩ hS hl hvl (xm_vs_c (xm_vv_i (Int32.ofNat n)) (xm_vs_t hvs))
      rcases lln s o n hG (xm_vv_u (xm_vs_h hvs)) hn with ⟨q0, t0, cA, x, ty, ha, ht, rfl⟩ | ⟨hb0, rfl⟩
      · exact va_alen hx hb hK hP q0 t0 ha ht rfl hd kk
      · have hbl : b0 < s0.heap.size := Nat.lt_of_lt_of_le hbb hbs
        have g := va_slen (A := fun q => base ≤ q) (rest := r.map (xm_e adr)) (ls := arr) hx hb hX hbl (Nat.not_le.mpr hbb) hS hd kk
        rw [← hb0] at g
        exact g
    case new n =>
      simp only [xt_ck, Bool.and_eq_true, decide_eq_true_eq] at hck
      obtain ⟨hd, rfl, hcl⟩ := hck
      obtain ⟨⟨o, u⟩, hu, hst⟩ := xm_o_i hst hz0
      cases hst
      obtain ⟨hZ, ⟨hG', hz', hmo⟩, hlv, hadr, fs, hwl, hdf⟩ := lnw s ra o u hG hu
      obtain ⟨C, T, hcs, hlk, hin1, hin2⟩ := xt_cl_ok hcl
      obtain ⟨hlay, hty, hnm⟩ := xt_cf hcs
      have hKn := hK.1 ra _ hcs
      refine W.newcK hx hb hown (hts _ hlk) (hts _ hin1) (hts _ hin2) rfl hd hc hs hKn.2.1 (hz hZ) fun H1 kC hkC e1 z1 o1 => ?_
      obtain ⟨hP1, hS1⟩ := xm_push (en := .inr (ra, fs)) hP hS (hz hZ) z1 o1 ⟨_, hcs, (u_born (xt_ft ra) hts (fun w h => hlay w h) hKn hkC e1 hty).to (hdf _ hcs)⟩
      have g := kk hmo H1 locs arr ⟨hG', fun _ => by rw [z1, hz']; rfl, by rw [hwl, hadr]; exact hP1⟩ hS1 hl (xm_vl_m hmo hvl) (xm_vs_c (xm_vv_r hlv) (xm_vs_m hmo hvs))
      have hh : xm_e adr (.inr (some o)) = .ref (base + cz s) := by show Value.ref (adr o) = _; rw [hadr]
      rw [List.map_cons, hh] at g
      exact g
    case newarray n =>
      simp only [xt_ck, Bool.and_eq_true, decide_eq_true_eq] at hck
      obtain ⟨hd, rfl, hra, haty⟩ := hck
      obtain ⟨n', r, rfl, hs2⟩ := xm_i1_i hst hz0
      clear hst
      have hst := hs2
      clear hs2
      try dsimp only at hst
      split at hst
      · exact absurd hst.symm hz0
      · rename_i hneg
        obtain ⟨⟨o, u⟩, hu, hst⟩ := xm_o_i hst hz0
        cases hst
        obtain ⟨hZ, ⟨hG', hz', hmo⟩, hlv, hadr, hbig, cA, ht, hwl⟩ := lna s ra _ o u hra hG hu
        have hbytes : n'.toNatClampNeg * componentBytes (newarray.typeOf n) ≤ 536870912 := by
          rw [haty]
          unfold xt_tt
          split
          · show _ * 4 ≤ _; omega
          · show _ * 1 ≤ _; omega
        refine va_newaK hx hb (hts _ (xt_ar_ok hra haty)) rfl hd rfl hneg rfl hbytes hc hs (hz hZ) fun H1 cA' e1 z1 o1 hAr hNm => ?_
        have hcA : cA' = cA := by
          have h2 := (hK.2 ra _ ht).2
          rw [haty] at hNm
          have h3 : s0.vm.findClass ("[" ++ (xt_tt ra).toString) = some cA := by
            rcases (show ra = 0 ∨ ra = 1 by omega) with rfl | rfl
            · exact h2
            · exact h2
          exact Option.some.inj (hNm.symm.trans h3)
        subst hcA
        have hdv : (fun _ : Nat => defaultValue (newarray.typeOf n)) = (fun _ => Value.int 0) := by
          rw [haty]
          rcases (show ra = 0 ∨ ra = 1 by omega) with rfl | rfl <;> rfl
        rw [hdv] at e1
        obtain ⟨hP1, hS1⟩ := xm_push (en := .inl (cA', n'.toNatClampNeg, .inl (fun _ => 0))) hP hS (hz hZ) z1 o1 e1
        have g := kk hmo H1 locs arr ⟨hG', fun _ => by rw [z1, hz']; rfl, by rw [hwl, hadr]; exact hP1⟩ hS1 hl (xm_vl_m hmo hvl) (xm_vs_c (xm_vv_r hlv) (xm_vs_m hmo (xm_vs_t hvs)))
        have hh : xm_e adr (.inr (some o)) = .ref (base + cz s) := by show Value.ref (adr o) = _; rw [hadr]
        rw [List.map_cons, hh] at g
        exact g
    case anewarray n =>
      simp only [xt_ck, Bool.and_eq_true, decide_eq_true_eq] at hck
      obtain ⟨hd, rfl, hal⟩ := hck
      obtain ⟨n', r, rfl, hs2⟩ := xm_i1_i hst hz0
      clear hst
      have hst := hs2
      clear hs2
      try dsimp only at hst
      split at hst
      · exact absurd hst.symm hz0
      · rename_i hneg
        obtain ⟨⟨o, u⟩, hu, hst⟩ := xm_o_i hst hz0
        cases hst
        obtain ⟨hZ, ⟨hG', hz', hmo⟩, hlv, hadr, hbig, cA, ht, hwl⟩ := lnr s ra _ o u hG hu
        obtain ⟨hlk, hov⟩ := xt_al_ok hal
        refine W.anew hx hb hown (hts _ hlk) (va_AO.use (hN _ hov)) rfl hd rfl hneg (by omega) hc hs fun cA' kA comp f1 f2 f3 f4 => ?_
        have hcA : cA' = cA := by
          obtain ⟨kA2, comp2, g1, g2, g3, g4⟩ := (hK.2 ra _ ht).2
          exact Option.some.inj (f1.symm.trans g4)
        subst hcA
        generalize hH1 : H.push ({ cls := cA', slots := Array.replicate n'.toNatClampNeg .null, vm := .none } : Cell) = H1
        have z1 : H1.size = (base + cz s) + 1 := by rw [← hH1, Array.size_push, hz hZ]
        have e1 : H1[base + cz s]? = some (arrV cA' n'.toNatClampNeg (fun _ => .null)) := by rw [← hH1, ← hz hZ, Array.getElem?_push_size, ← arrV_new]
        have o1 : ∀ q : Nat, q < base + cz s → H1[q]? = H[q]? := fun q hq => by rw [← hH1, Array.getElem?_push, if_neg (Nat.ne_of_lt (by rw [hz hZ]; exact hq))]
        obtain ⟨hP1, hS1⟩ := xm_push (en := .inl (cA', n'.toNatClampNeg, .inr (.inr (.inr (.inr (fun _ => none)))))) hP hS (hz hZ) z1 o1 (by show H1[_]? = some (vp_cell _ _); rw [vp_cell_q]; exact e1)
        have g := kk hmo H1 locs arr ⟨hG', fun _ => by rw [z1, hz']; rfl, by rw [hwl, hadr]; exact hP1⟩ hS1 hl (xm_vl_m hmo hvl) (xm_vs_c (xm_vv_r hlv) (xm_vs_m hmo (xm_vs_t hvs)))
        have hh : xm_e adr (.inr (some o)) = .ref H.size := by show Value.ref (adr o) = _; rw [hadr, hz hZ]
        rw [List.map_cons, hh] at g
        exact g
    case invokespecial n =>
      simp only [xt_ck, Bool.and_eq_true, decide_eq_true_eq] at hck
      obtain ⟨hd, rfl, hkd, hmt⟩ := hck
      try dsimp only at hst
      split at hst
      · rename_i h1
        subst h1
        obtain ⟨o, r, rfl, hs2⟩ := xm_r1_i hst hz0
        clear hst
        have hst := hs2
        clear hs2
        try dsimp only at hst
        split at hst
        · rename_i h8
          cases hst
          obtain ⟨w1, w2, w3⟩ := (xt_mt_ok hmt).2.1 rfl
          refine W.objInit hx hb hown (hts _ w1) (hts _ w2) (hts _ w3) rfl (by rw [hml]; exact hl.1.1) rfl hd hfr ?_ (kk (fun _ h => h) H locs arr ⟨hG, hz, hP⟩ hS hl hvl (xm_vs_t hvs))
          show 2 * 0 + ((r.map (xm_e adr)).map fun v => v.category).sum + 12 ≤ _
          rw [xm_e_sum]; omega
        · exact absurd hst.symm hz0
      · try dsimp only at hst
        split at hst
        · cases hst
        · exact absurd hst.symm hz0
    case invokestatic n =>
      simp only [xt_ck, Bool.and_eq_true, decide_eq_true_eq] at hck
      obtain ⟨hd, rfl, hkd, hmt⟩ := hck
      try dsimp only at hst
      split at hst
      · rename_i h1
        subst h1
        obtain ⟨x, z, r, rfl, hs2⟩ := xm_i2_i hst hz0
        clear hst
        have hst := hs2
        clear hs2
        try dsimp only at hst
        split at hst
        · rename_i h8
          cases hst
          obtain ⟨w1, w2, w3, w4⟩ := (xt_mt_ok hmt).2.2.1 rfl
          exact va_mmax hx hb (by rw [hml, hl.1.1]) hown (hts _ w1) (hts _ w2) (hts _ w3) (hts _ w4) hfr (by rw [xm_e_sum]; omega) hc hs hd (kk (fun _ h => h) H locs arr ⟨hG, hz, hP⟩ hS hl hvl (xm_vs_c (xm_vv_i _) (xm_vs_t (xm_vs_t hvs))))
        · exact absurd hst.symm hz0
      · try dsimp only at hst
        split at hst
        · rename_i h0 h1
          subst h1
          obtain ⟨x, z, r, rfl, hs2⟩ := xm_i2_i hst hz0
          clear hst
          have hst := hs2
          clear hs2
          try dsimp only at hst
          split at hst
          · rename_i h8
            cases hst
            obtain ⟨w1, w2, w3, w4⟩ := (xt_mt_ok hmt).2.2.2.1 rfl
            exact va_mmin hx hb (by rw [hml, hl.1.1]) hown (hts _ w1) (hts _ w2) (hts _ w3) (hts _ w4) hfr (by rw [xm_e_sum]; omega) hc hs hd (kk (fun _ h => h) H locs arr ⟨hG, hz, hP⟩ hS hl hvl (xm_vs_c (xm_vv_i _) (xm_vs_t (xm_vs_t hvs))))
          · exact absurd hst.symm hz0
        · try dsimp only at hst
          split at hst
          · rename_i h0 h00 h1
            subst h1
            obtain ⟨o, sp, d, dp, k, r, rfl, hs2⟩ := xm_c5_i hst hz0
            clear hst
            have hst := hs2
            clear hs2
            try dsimp only at hst
            split at hst
            · rename_i h8
              obtain ⟨u, hu, hst⟩ := xm_o_i hst hz0
              cases hst
              obtain ⟨w1, w2, w3, w4⟩ := (xt_mt_ok hmt).2.2.2.2.1 rfl
              obtain ⟨hZ, ⟨hG', hz', hmo⟩, q0, q1, cA, n0, n1, f, g, ha0, ha1, ht, c1, c2, c3, c4, c5, hwl⟩ := lcp s o sp d dp k u hG (xm_vv_u (xm_vs_h (xm_vs_t (xm_vs_t (xm_vs_t (xm_vs_t hvs)))))) (xm_vv_u (xm_vs_h (xm_vs_t (xm_vs_t hvs)))) hu
              have hnf : nativeFrameWords "java/lang/System" "arraycopy" 5 ≤ 20 := by decide
              exact va_copyi hx hb (by rw [hml, hl.1.1]) hown (hts _ w1) (hts _ w2) (hts _ w3) (hts _ w4) hK hP hD hS q0 q1 0 0 ha0 ha1 ht ht rfl c1 c2 c3 c4 c5 (fun _ _ => rfl) hfr (by rw [xm_e_sum]; omega) hd (fun H1 locs1 hP1 _ hS1 => kk hmo H1 locs1 arr ⟨hG', fun hk => absurd hk hZ, by rw [hwl]; exact hP1⟩ hS1 hl (xm_vl_m hmo hvl) (xm_vs_m hmo (xm_vs_t (xm_vs_t (xm_vs_t (xm_vs_t (xm_vs_t hvs)))))))
            · exact absurd hst.symm hz0
          · try dsimp only at hst
            split at hst
            · cases hst
            · exact absurd hst.symm hz0
    case ireturn =>
      try dsimp only at hst
      split at hst
      · try dsimp only at hst
        split at hst
        · exact absurd hst.symm hz0
        · cases hst
      · exact absurd hst.symm hz0
    case areturn =>
      try dsimp only at hst
      split at hst
      · cases hst
      · exact absurd hst.symm hz0
    case return_ =>
      try dsimp only at hst
      split at hst
      · cases hst
      · exact absurd hst.symm hz0
    case invokevirtual n =>
      try dsimp only at hst
      split at hst
      · try dsimp only at hst
        split at hst
        · cases hst
        · exact absurd hst.symm hz0
      · exact absurd hst.symm hz0
    case multianewarray n d =>
      simp only [xt_ck, Bool.and_eq_true, decide_eq_true_eq] at hck
      obtain ⟨hd, rfl, hoc, rfl, rfl⟩ := hck
      obtain ⟨x, z, r, rfl, hs2⟩ := xm_i2_i hst hz0
      clear hst
      have hst := hs2
      clear hs2
      try dsimp only at hst
      split at hst
      · exact absurd hst.symm hz0
      · rename_i hneg
        obtain ⟨⟨o, u⟩, hu, hst⟩ := xm_o_i hst hz0
        cases hst
        obtain ⟨hZ, hn4, hk40, ⟨hG', hz', hmo⟩, hlv, hadr, cI, cA, G, ht0, ht2, hGj, hwl⟩ := lnm s _ _ o u hG hu
        have hx4 : x = 4 := by
          have h0 : ¬ x < 0 := fun h => hneg (Or.inl h)
          obtain ⟨j, hj, rfl⟩ := nI_of h0
          rw [nI_clamp hj] at hn4
          subst hn4
          rfl
        have hz40 : z = 40 := by
          have h0 : ¬ z < 0 := fun h => hneg (Or.inr h)
          obtain ⟨j, hj, rfl⟩ := nI_of h0
          rw [nI_clamp hj] at hk40
          subst hk40
          rfl
        have hc5 : cells + (1 + 4) ≤ Rm.cells := by
          have h := hc
          dsimp only at h
          rw [hn4] at h
          exact h
        have hs5 : slots + (4 + 4 * 40) ≤ Rm.slots := by
          have h := hs
          dsimp only at h
          rw [hn4, hk40] at h
          exact h
        have hlk : (Jvm.Cond.classLink (xt_ow y) 9 ("[" ++ (FieldType.array .int).toString)).before args s0 = true := by
          have hw : xt_ow y = "BootNet$Library" := by
            show xt_cn (xt_oc y) = _
            rw [hoc]
            rfl
          rw [hw]
          exact hts _ xt_mul
        refine xm_mna hx hb hown hlk (hN _ (List.mem_of_getElem? (i := 7) rfl)) (hts _ (xt_ar_ok (t := 0) (n := .int) (by decide) rfl)) hP hS (cI := cI) (cA := cA) (hK.2 0 _ ht0).2 (hK.2 2 _ ht2).2 (hz hZ) hGj hx4 hz40 hc5 hs5 hd (fun H1 hP1 hS1 hz1 => ?_)
        have g := kk hmo H1 locs arr ⟨hG', fun _ => by rw [hz1, hz']; omega, by rw [hwl]; exact hP1⟩ hS1 hl (xm_vl_m hmo hvl) (xm_vs_c (xm_vv_r hlv) (xm_vs_m hmo (xm_vs_t (xm_vs_t hvs))))
        have hh : xm_e adr (.inr (some o)) = .ref (base + cz s) := by show Value.ref (adr o) = _; rw [hadr]
        dsimp only at g
        rw [hn4, hk40, List.map_cons, hh] at g
        exact g
    all_goals exact absurd hst.symm hz0
end XS
