/-! The X machine: a small machine over an interface of memories; values are ints or references. -/
section XM
variable {σ R : Type}
/-- values: an int, or a reference (none: null); locals; operand stacks -/
abbrev xm_V (R : Type) : Type := Int32 ⊕ Option R
abbrev xm_L (R : Type) : Type := List (Option (Int32 ⊕ Option R))
abbrev xm_S (R : Type) : Type := List (Int32 ⊕ Option R)
/-- what a step comes to: the next state with the cells and slots made; an answer; a call (method, arguments, rest of the stack); nothing -/
abbrev xm_R (σ R : Type) : Type := (Nat × xm_L R × xm_S R × σ × Nat × Nat) ⊕ (Option (xm_V R)) ⊕ (Nat × xm_S R × xm_S R) ⊕ Unit
/-- an interface of a memory: fields, int arrays (by the number of the type), reference arrays, lengths, classes, making, copying -/
abbrev xm_I (σ R : Type) : Type :=
  (σ → R → Nat → Nat → Option (xm_V R)) × (σ → R → Nat → Nat → xm_V R → Option σ) ×
  (σ → Nat → R → Int32 → Option Int32) × (σ → Nat → R → Int32 → Int32 → Option σ) ×
  (σ → R → Int32 → Option (xm_V R)) × (σ → R → Int32 → R → Option σ) ×
  (σ → R → Option Nat) × (σ → Nat → R → Bool) ×
  (σ → Nat → Option (R × σ)) × (σ → Nat → Nat → Option (R × σ)) × (σ → Nat → Nat → Option (R × σ)) × (σ → Nat → Nat → Option (R × σ)) ×
  (σ → R → Int32 → R → Int32 → Int32 → Option σ)
def xm_gf (I : xm_I σ R) := I.1
def xm_pf (I : xm_I σ R) := I.2.1
def xm_al (I : xm_I σ R) := I.2.2.1
def xm_as (I : xm_I σ R) := I.2.2.2.1
def xm_rl (I : xm_I σ R) := I.2.2.2.2.1
def xm_rs (I : xm_I σ R) := I.2.2.2.2.2.1
def xm_ln (I : xm_I σ R) := I.2.2.2.2.2.2.1
def xm_oc (I : xm_I σ R) := I.2.2.2.2.2.2.2.1
def xm_nw (I : xm_I σ R) := I.2.2.2.2.2.2.2.2.1
def xm_na (I : xm_I σ R) := I.2.2.2.2.2.2.2.2.2.1
def xm_nr (I : xm_I σ R) := I.2.2.2.2.2.2.2.2.2.2.1
def xm_nm (I : xm_I σ R) := I.2.2.2.2.2.2.2.2.2.2.2.1
def xm_cp (I : xm_I σ R) := I.2.2.2.2.2.2.2.2.2.2.2.2
def xm_no : xm_R σ R := .inr (.inr (.inr ()))
def xm_nx (pc : Nat) (ls : xm_L R) (st : xm_S R) (s : σ) : xm_R σ R := .inl (pc, ls, st, s, 0, 0)
def xm_rt (v : Option (xm_V R)) : xm_R σ R := .inr (.inl v)
def xm_cl (y : Nat) (a r : xm_S R) : xm_R σ R := .inr (.inr (.inl (y, a, r)))
def xm_o {α : Type} (o : Option α) (f : α → xm_R σ R) : xm_R σ R := match o with
  | some x => f x
  | none => xm_no
def xm_v1 (st : xm_S R) (f : xm_V R → xm_S R → xm_R σ R) : xm_R σ R := match st with
  | v :: r => f v r
  | _ => xm_no
def xm_v2 (st : xm_S R) (f : xm_V R → xm_V R → xm_S R → xm_R σ R) : xm_R σ R := match st with
  | v :: w :: r => f v w r
  | _ => xm_no
def xm_i1 (st : xm_S R) (f : Int32 → xm_S R → xm_R σ R) : xm_R σ R := match st with
  | .inl x :: r => f x r
  | _ => xm_no
def xm_i2 (st : xm_S R) (f : Int32 → Int32 → xm_S R → xm_R σ R) : xm_R σ R := match st with
  | .inl y :: .inl x :: r => f x y r
  | _ => xm_no
def xm_r1 (st : xm_S R) (f : R → xm_S R → xm_R σ R) : xm_R σ R := match st with
  | .inr (some q) :: r => f q r
  | _ => xm_no
def xm_ri (st : xm_S R) (f : R → Int32 → xm_S R → xm_R σ R) : xm_R σ R := match st with
  | .inl i :: .inr (some q) :: r => f q i r
  | _ => xm_no
def xm_rii (st : xm_S R) (f : R → Int32 → Int32 → xm_S R → xm_R σ R) : xm_R σ R := match st with
  | .inl x :: .inl i :: .inr (some q) :: r => f q i x r
  | _ => xm_no
def xm_rir (st : xm_S R) (f : R → Int32 → R → xm_S R → xm_R σ R) : xm_R σ R := match st with
  | .inr (some w) :: .inl i :: .inr (some q) :: r => f q i w r
  | _ => xm_no
def xm_rv (st : xm_S R) (f : R → xm_V R → xm_S R → xm_R σ R) : xm_R σ R := match st with
  | v :: .inr (some q) :: r => f q v r
  | _ => xm_no
def xm_c5 (st : xm_S R) (f : R → Int32 → R → Int32 → Int32 → xm_S R → xm_R σ R) : xm_R σ R := match st with
  | .inl n :: .inl dp :: .inr (some d) :: .inl sp :: .inr (some q) :: r => f q sp d dp n r
  | _ => xm_no
def xm_li (ls : xm_L R) (i : Nat) (f : Int32 → xm_R σ R) : xm_R σ R := match ls[i]? with
  | some (some (.inl x)) => f x
  | _ => xm_no
def xm_lr (ls : xm_L R) (i : Nat) (f : R → xm_R σ R) : xm_R σ R := match ls[i]? with
  | some (some (.inr (some q))) => f q
  | _ => xm_no
def xm_c0 (c : Jvm.ClassFile.Cond) (x : Int32) (a b : Nat) : Nat := match c with
  | .eq => if x = 0 then a else b
  | .ne => if x = 0 then b else a
  | .lt => if x < 0 then a else b
  | .ge => if 0 ≤ x then a else b
  | .gt => if 0 < x then a else b
  | .le => if x ≤ 0 then a else b
def xm_c2 (c : Jvm.ClassFile.Cond) (x y : Int32) (a b : Nat) : Nat := match c with
  | .eq => if x = y then a else b
  | .ne => if x = y then b else a
  | .lt => if x < y then a else b
  | .ge => if y ≤ x then a else b
  | .gt => if y < x then a else b
  | .le => if x ≤ y then a else b
/-- one step of method y at pc; a row of the code table: instruction, its length, two numbers and an int that the tables resolved -/
def xm_st (I : xm_I σ R) (y pc : Nat) (ls : xm_L R) (st : xm_S R) (s : σ) : xm_R σ R :=
  match xt_at y pc with
  | none => xm_no
  | some (i, _, a, b, v) =>
    match i with
    | .iconst _ => xm_nx (pc + 1) ls (.inl v :: st) s
    | .bipush _ => xm_nx (pc + 2) ls (.inl v :: st) s
    | .sipush _ => xm_nx (pc + 3) ls (.inl v :: st) s
    | .ldc _ => xm_nx (pc + 2) ls (.inl v :: st) s
    | .iload_n _ => xm_li ls a fun x => xm_nx (pc + 1) ls (.inl x :: st) s
    | .iload _ => xm_li ls a fun x => xm_nx (pc + 2) ls (.inl x :: st) s
    | .aload_n _ => xm_lr ls a fun q => xm_nx (pc + 1) ls (.inr (some q) :: st) s
    | .aload _ => xm_lr ls a fun q => xm_nx (pc + 2) ls (.inr (some q) :: st) s
    | .istore_n _ => xm_i1 st fun x r => xm_nx (pc + 1) (ls.set a (some (.inl x))) r s
    | .istore _ => xm_i1 st fun x r => xm_nx (pc + 2) (ls.set a (some (.inl x))) r s
    | .astore_n _ => xm_r1 st fun q r => xm_nx (pc + 1) (ls.set a (some (.inr (some q)))) r s
    | .astore _ => xm_r1 st fun q r => xm_nx (pc + 2) (ls.set a (some (.inr (some q)))) r s
    | .iinc _ _ => xm_li ls a fun x => xm_nx (pc + 3) (ls.set a (some (.inl (x + v)))) st s
    | .iadd => xm_i2 st fun x y r => xm_nx (pc + 1) ls (.inl (x + y) :: r) s
    | .isub => xm_i2 st fun x y r => xm_nx (pc + 1) ls (.inl (x - y) :: r) s
    | .imul => xm_i2 st fun x y r => xm_nx (pc + 1) ls (.inl (x * y) :: r) s
    | .iand => xm_i2 st fun x y r => xm_nx (pc + 1) ls (.inl (x &&& y) :: r) s
    | .ixor => xm_i2 st fun x y r => xm_nx (pc + 1) ls (.inl (x ^^^ y) :: r) s
    | .irem => xm_i2 st fun x y r => if y = 0 then xm_no else xm_nx (pc + 1) ls (.inl (x - x / y * y) :: r) s
    | .iushr => xm_i2 st fun x y r => xm_nx (pc + 1) ls (.inl (x.toUInt32 >>> (y.toUInt32 &&& Int32.toUInt32 31)).toInt32 :: r) s
    | .dup => xm_v1 st fun w r => xm_nx (pc + 1) ls (w :: w :: r) s
    | .dup2 => xm_v2 st fun w z r => xm_nx (pc + 1) ls (w :: z :: w :: z :: r) s
    | .pop => xm_v1 st fun _ r => xm_nx (pc + 1) ls r s
    | .goto _ => xm_nx a ls st s
    | .ifCond c _ => xm_i1 st fun x r => xm_nx (xm_c0 c x a (pc + 3)) ls r s
    | .if_icmp c _ => xm_i2 st fun x y r => xm_nx (xm_c2 c x y a (pc + 3)) ls r s
    | .tableswitch _ lo hi offs => xm_i1 st fun x r => xm_nx (if x.toInt < lo ∨ hi < x.toInt then a else ((pc : Int) + (offs.toList[(x.toInt - lo).toNat]?).getD 0).toNat) ls r s
    | .getfield _ => xm_r1 st fun q r => xm_o (xm_gf I s q a b) fun w => xm_nx (pc + 3) ls (w :: r) s
    | .putfield _ => xm_rv st fun q w r => xm_o (xm_pf I s q a b w) fun t => xm_nx (pc + 3) ls r t
    | .iaload => xm_ri st fun q i r => xm_o (xm_al I s 0 q i) fun x => xm_nx (pc + 1) ls (.inl x :: r) s
    | .baload => xm_ri st fun q i r => xm_o (xm_al I s 1 q i) fun x => xm_nx (pc + 1) ls (.inl x :: r) s
    | .iastore => xm_rii st fun q i x r => xm_o (xm_as I s 0 q i x) fun t => xm_nx (pc + 1) ls r t
    | .bastore => xm_rii st fun q i x r => xm_o (xm_as I s 1 q i x) fun t => xm_nx (pc + 1) ls r t
    | .aaload => xm_ri st fun q i r => xm_o (xm_rl I s q i) fun w => xm_nx (pc + 1) ls (w :: r) s
    | .aastore => xm_rir st fun q i w r => xm_o (xm_rs I s q i w) fun t => xm_nx (pc + 1) ls r t
    | .arraylength => xm_r1 st fun q r => xm_o (xm_ln I s q) fun n => xm_nx (pc + 1) ls (.inl (Int32.ofNat n) :: r) s
    | .new _ => xm_o (xm_nw I s a) fun w => .inl (pc + 3, ls, .inr (some w.1) :: st, w.2, 1, b)
    | .newarray _ => xm_i1 st fun n r => if n < 0 then xm_no else xm_o (xm_na I s a n.toNatClampNeg) fun w => .inl (pc + 2, ls, .inr (some w.1) :: r, w.2, 1, n.toNatClampNeg)
    | .anewarray _ => xm_i1 st fun n r => if n < 0 then xm_no else xm_o (xm_nr I s a n.toNatClampNeg) fun w => .inl (pc + 3, ls, .inr (some w.1) :: r, w.2, 1, n.toNatClampNeg)
    | .multianewarray _ _ => xm_i2 st fun n k r => if n < 0 ∨ k < 0 then xm_no else xm_o (xm_nm I s n.toNatClampNeg k.toNatClampNeg) fun w => .inl (pc + 4, ls, .inr (some w.1) :: r, w.2, 1 + n.toNatClampNeg, n.toNatClampNeg + n.toNatClampNeg * k.toNatClampNeg)
    | .ireturn => match st with
      | [.inl x] => if b = 1 ∧ ¬ (x = 0 ∨ x = 1) then xm_no else xm_rt (some (.inl x))
      | _ => xm_no
    | .areturn => match st with
      | [.inr (some q)] => xm_rt (some (.inr (some q)))
      | _ => xm_no
    | .return_ => match st with
      | [] => xm_rt none
      | _ => xm_no
    | .invokevirtual _ => match st.drop (xt_na b) with
      | .inr (some q) :: r => if xm_oc I s (xt_oc b) q = true then xm_cl b (.inr (some q) :: (st.take (xt_na b)).reverse) r else xm_no
      | _ => xm_no
    | .invokespecial _ =>
      if a = 1 then xm_r1 st fun _ r => if r.length ≤ 8 then xm_nx (pc + 3) ls r s else xm_no
      else match st.drop (xt_na b) with
      | .inr (some q) :: r => xm_cl b (.inr (some q) :: (st.take (xt_na b)).reverse) r
      | _ => xm_no
    | .invokestatic _ =>
      if a = 2 then xm_i2 st fun x y r => if r.length ≤ 8 then xm_nx (pc + 3) ls (.inl (if x < y then y else x) :: r) s else xm_no
      else if a = 3 then xm_i2 st fun x y r => if r.length ≤ 8 then xm_nx (pc + 3) ls (.inl (if y < x then y else x) :: r) s else xm_no
      else if a = 4 then xm_c5 st fun q sp d dp n r => if r.length ≤ 8 then xm_o (xm_cp I s q sp d dp n) fun t => xm_nx (pc + 3) ls r t else xm_no
      else if xt_na b ≤ st.length then xm_cl b (st.take (xt_na b)).reverse (st.drop (xt_na b)) else xm_no
    | _ => xm_no
/-- from this state, with the calls as C has them, mc cells and ms slots left: it comes to its end with Q, or behind n steps to Z -/
def xm_lp (I : xm_I σ R) (C : Nat → xm_S R → σ → (Option (xm_V R) → σ → Prop) → Prop) (y : Nat) (Z : Nat → Nat → Nat → xm_L R → xm_S R → σ → Prop) : Nat → Nat → Nat → Nat → xm_L R → xm_S R → σ → (Option (xm_V R) → σ → Prop) → Prop
  | 0, mc, ms, pc, ls, st, s, _ => Z mc ms pc ls st s
  | n + 1, mc, ms, pc, ls, st, s, Q => match xm_st I y pc ls st s with
    | .inl q => q.2.2.2.2.1 ≤ mc ∧ q.2.2.2.2.2 ≤ ms ∧ xm_lp I C y Z n (mc - q.2.2.2.2.1) (ms - q.2.2.2.2.2) q.1 q.2.1 q.2.2.1 q.2.2.2.1 Q
    | .inr (.inl v) => Q v s
    | .inr (.inr (.inl q)) => q.1 < xt_N ∧ xt_gc q.1 ≤ mc ∧ xt_gs q.1 ≤ ms ∧ q.2.2.length ≤ 8 ∧ q.2.1.length ≤ xt_ml q.1 ∧ C q.1 q.2.1 s (fun v t => xm_lp I C y Z n (mc - xt_gc q.1) (ms - xt_gs q.1) (pc + 3) ls (v.toList ++ q.2.2) t Q)
    | .inr (.inr (.inr _)) => False
def xm_F : Nat → Nat → Nat → xm_L R → xm_S R → σ → Prop := fun _ _ _ _ _ _ => False
/-- the locals with which method y begins -/
def xm_in (y : Nat) (as : xm_S R) : xm_L R := as.map some ++ List.replicate (xt_ml y - as.length) none
/-- method y, at depth d, on these arguments and this memory, comes to its end with Q -/
def xm_MW (I : xm_I σ R) : Nat → Nat → xm_S R → σ → (Option (xm_V R) → σ → Prop) → Prop
  | 0, _, _, _, _ => False
  | d + 1, y, as, s, Q => ∃ n, xm_lp I (xm_MW I d) y xm_F n (xt_gc y) (xt_gs y) 0 (xm_in y as) [] s Q
end XM
