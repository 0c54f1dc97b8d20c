/-! The tables put together. Written by prog/gen_glue.py. -/
def xt_ka : Nat → List (List (Nat × Jvm.ClassFile.Instr × Nat × Nat × Nat × Int32)) → Prop
  | _, [] => True
  | i, c :: r => c.all (xt_ck i) = true ∧ xt_ka (i + 1) r
theorem xt_ka_at : ∀ (l : List (List (Nat × Jvm.ClassFile.Instr × Nat × Nat × Nat × Int32))) (i j : Nat) (c : List (Nat × Jvm.ClassFile.Instr × Nat × Nat × Nat × Int32)), xt_ka i l → l[j]? = some c → c.all (xt_ck (i + j)) = true
  | [], _, _, _, _, h => by cases h
  | a :: l, i, 0, c, hk, h => by
    cases h
    exact hk.1
  | a :: l, i, j + 1, c, hk, h => by
    have := xt_ka_at l (i + 1) j c hk.2 h
    rw [show i + (j + 1) = i + 1 + j by omega]
    exact this
set_option maxRecDepth 100000 in
theorem xt_kk : xt_ka 0 xt_C := ⟨xt_k0, xt_k1, xt_k2, xt_k3, xt_k4, xt_k5, xt_k6, xt_k7, xt_k8, xt_k9, xt_k10, xt_k11, xt_k12, xt_k13, xt_k14, xt_k15, xt_k16, xt_k17, xt_k18, xt_k19, xt_k20, xt_k21, xt_k22, xt_k23, xt_k24, xt_k25, xt_k26, xt_k27, xt_k28, xt_k29, xt_k30, xt_k31, xt_k32, xt_k33, xt_k34, xt_k35, xt_k36, xt_k37, xt_k38, xt_k39, xt_k40, xt_k41, xt_k42, xt_k43, xt_k44, xt_k45, xt_k46, xt_k47, xt_k48, xt_k49, xt_k50, xt_k51, xt_k52, xt_k53, xt_k54, xt_k55, xt_k56, xt_k57, xt_k58, xt_k59, xt_k60, xt_k61, xt_k62, xt_k63, xt_k64, xt_k65, xt_k66, xt_k67, xt_k68, xt_k69, xt_k70, xt_k71, xt_k72, xt_k73, xt_k74, xt_k75, xt_k76, xt_k77, xt_k78, xt_k79, xt_k80, xt_k81, xt_k82, xt_k83, xt_k84, xt_k85, xt_k86, xt_k87, xt_k88, xt_k89, xt_k90, xt_k91, xt_k92, xt_k93, xt_k94, xt_k95, xt_k96, xt_k97, xt_k98, xt_k99, xt_k100, xt_k101, xt_k102, xt_k103, xt_k104, xt_k105, xt_k106, xt_k107, xt_k108, xt_k109, xt_k110, xt_k111, xt_k112, xt_k113, xt_k114, xt_k115, xt_k116, xt_k117, xt_k118, xt_k119, xt_k120, xt_k121, xt_k122, xt_k123, xt_k124, xt_k125, xt_k126, xt_k127, xt_k128, xt_k129, xt_k130, xt_k131, xt_k132, xt_k133, xt_k134, xt_k135, xt_k136, xt_k137, xt_k138, xt_k139, xt_k140, xt_k141, xt_k142, xt_k143, xt_k144, xt_k145, xt_k146, xt_k147, xt_k148, xt_k149, xt_k150, xt_k151, xt_k152, xt_k153, xt_k154, xt_k155, xt_k156, xt_k157, xt_k158, xt_k159, xt_k160, xt_k161, xt_k162, xt_k163, xt_k164, xt_k165, xt_k166, xt_k167, xt_k168, xt_k169, xt_k170, xt_k171, xt_k172, xt_k173, xt_k174, xt_k175, xt_k176, trivial⟩
theorem xt_ok {y pc : Nat} {i : Jvm.ClassFile.Instr} {ln a b : Nat} {v : Int32} (h : xt_at y pc = some (i, ln, a, b, v)) : xt_ck y (pc, i, ln, a, b, v) = true := by
  unfold xt_at at h
  have hm := xt_lk h
  rw [List.getD_eq_getElem?_getD] at hm
  cases hc : xt_C[y]? with
  | none => rw [hc] at hm; cases hm
  | some c =>
    rw [hc] at hm
    have := xt_ka_at xt_C 0 y c xt_kk hc
    rw [Nat.zero_add] at this
    exact List.all_eq_true.mp this _ hm
theorem xt_nmq : ∀ y, y < xt_N → plainName (xt_nm y).cls = true ∧ (xt_nm y).cls ≠ "java/lang/invoke/MethodHandle" ∧ (xt_nm y).cls ≠ "java/lang/invoke/VarHandle" ∧ (parseMethodDescriptor (xt_nm y).desc).map (fun d => d.parameters.length) = some (xt_na y) ∧ xt_ml y ≤ 11 := by decide +kernel
theorem xt_owq : ∀ y, y < xt_N → xt_ow y = (xt_nm y).cls := by decide +kernel
theorem xt_inq (y : Nat) (h : xt_ini y = true) : (xt_nm y).name = "<init>" := by simpa [xt_ini] using h
theorem xt_csq (c : Nat) (h : c < 13) : ∃ row : vw_C, xt_cs[c]? = some row ∧ row.1 = xt_cn c := by
  have key : ∀ c, c < 13 → (xt_cs[c]?).map (fun r => r.1) = some (xt_cn c) := by decide +kernel
  have := key c h
  cases hr : xt_cs[c]? with
  | none => rw [hr] at this; cases this
  | some r => rw [hr] at this; exact ⟨r, rfl, Option.some.inj this⟩
theorem xt_csn {c : Nat} {r : vw_C} (h : xt_cs[c]? = some r) : r.1 = xt_cn c := by
  have hl : c < 13 := (List.getElem?_eq_some_iff.mp h).1
  obtain ⟨row, h1, h2⟩ := xt_csq c hl
  cases h1.symm.trans h
  exact h2
def xt_fk (t : FieldType) : Bool := match t with
  | .int => true
  | .boolean => true
  | .object _ => true
  | .array _ => true
  | _ => false
theorem xt_fkq {t : FieldType} (h : xt_fk t = true) : t = .int ∨ t = .boolean ∨ (∃ C, t = .object C) ∨ ∃ u, t = .array u := by
  cases t <;> simp [xt_fk] at h ⊢
theorem xt_ftq {ci j : Nat} {r : vw_C} (h : xt_cs[ci]? = some r) (hj : j < r.2.2) : xt_ft ci j = .int ∨ xt_ft ci j = .boolean ∨ (∃ C, xt_ft ci j = .object C) ∨ ∃ u, xt_ft ci j = .array u := by
  have key : ∀ ci, ci < 13 → ∀ j, j < ((xt_cs[ci]?).map (fun r => r.2.2)).getD 0 → xt_fk (xt_ft ci j) = true := by decide +kernel
  have hl : ci < 13 := (List.getElem?_eq_some_iff.mp h).1
  exact xt_fkq (key ci hl j (by rw [h]; exact hj))
theorem xt_isoq {t : FieldType} (h : xt_iso t = true) : ∃ C, t = .object C := by
  cases t <;> simp [xt_iso] at h ⊢
theorem xt_isob {y : Nat} (h : xt_io y = true) : ∃ nm, xt_rt y = some (.object nm) := by
  unfold xt_io at h
  split at h
  · rename_i nm hh
    exact ⟨nm, hh⟩
  · cases h
theorem xt_fo {y a b : Nat} {C : String} {T : u_T} {N : Nat} {meth : Method} (hfo : xt_fin a b = false ∨ (xt_ini y = true ∧ a = xt_oc y)) (hini : xt_ini y = true → meth.name = "<init>") (hcs : xt_cs[a]? = some (C, T, N)) : (T b).2.2.2 = false ∨ (meth.name = "<init>" ∧ C = xt_ow y) := by
  rcases hfo with h | ⟨h1, h2⟩
  · left
    unfold xt_fin at h
    rw [hcs] at h
    exact h
  · right
    subst h2
    exact ⟨hini h1, xt_csn hcs⟩
theorem xt_gwq : xt_Gw.all goodWord = true := by decide +kernel
theorem xt_good (y : Nat) (hy : y < xt_N) : GoodIn xt_G (xt_ws y) := by
  intro w hw
  rcases List.mem_cons.mp hw with h | h
  · rw [h]
    exact ⟨xt_gc' hy, Or.inl rfl⟩
  · refine ⟨h, ?_⟩
    rcases List.mem_append.mp h with h | h
    · exact good_of_word (List.all_eq_true.mp xt_gwq w h)
    · rcases List.mem_append.mp h with h | h
      · simp only [xt_Gx, List.mem_cons, List.not_mem_nil, or_false] at h
        rcases h with rfl | rfl | rfl <;> exact Or.inl rfl
      · obtain ⟨z, -, rfl⟩ := List.mem_map.mp h
        exact Or.inl rfl
theorem xm_ao_mv {t : FieldType} {u U : State} (hvm : u.vm.Alike U.vm) (h : va_Nw (.arrayOver (.array t)) u) : va_Nw (.arrayOver (.array t)) U := by
  obtain ⟨comp, c, k, h1, h2, h3, h4, h5⟩ := arrayOverA_spec h
  obtain ⟨k', hk', he⟩ := hvm.2.2 _ _ h3
  have hi : (U.vm.classes.findIdx? fun (x : Class) => match x.kind with | .array component _ => component == comp | _ => false) = some c := by
    rw [hvm.findIdx?_eq _ (fun _ => rfl)]
    exact h2
  have hkind : k'.kind = .array comp (.array t) := by rw [he]; exact h4
  have f1 : U.vm.findClass (FieldType.array t).toString = some comp := by rw [hvm.findClass]; exact h1
  have f2 : U.vm.findClass ("[" ++ (FieldType.array t).toString) = some c := by rw [hvm.findClass]; exact h5
  unfold va_Nw Cond.before Cond.holds
  simp only [Cond.value]
  rw [f1, Option.bind_some]
  refine (congrArg (fun o : Option Nat => (o.bind (fun c => (U.vm.classes[c]?).map fun (k : Class) => match k.kind with | .array _ ty => decide (ty = FieldType.array t) && decide (U.vm.findClass ("[" ++ (FieldType.array t).toString) = some c) | _ => false) == some true)) hi).trans ?_
  simp [hk', hkind, f2]
theorem xt_nw_sm (w : Jvm.Cond) (hw : w ∈ xt_nw) {u U : State} (h : u.vm = U.vm) (hz : va_Nw w u) : va_Nw w U := by
  have ha : u.vm.Alike U.vm := by rw [h]; exact Vm.Alike.refl _
  simp only [xt_nw, List.mem_cons, List.not_mem_nil, or_false] at hw
  rcases hw with rfl | rfl | rfl | rfl | rfl | rfl | rfl | rfl
  · exact va_Nw.same rfl h hz
  · exact va_Nw.same rfl h hz
  · exact va_Nw.same rfl h hz
  · exact va_Nw.same rfl h hz
  · exact va_AO.moved ha hz
  · exact va_AO.moved ha hz
  · exact va_AO.moved ha hz
  · exact xm_ao_mv ha hz
theorem xt_nw_mv (w : Jvm.Cond) (hw : w ∈ xt_nw) {u U : State} (h : u.WarmedH U.vm) (hz : va_Nw w u) : va_Nw w U := by
  simp only [xt_nw, List.mem_cons, List.not_mem_nil, or_false] at hw
  rcases hw with rfl | rfl | rfl | rfl | rfl | rfl | rfl | rfl
  · exact va_Nw.warmM h hz
  · exact va_Nw.warmM h hz
  · exact va_Nw.warmM h hz
  · exact va_Nw.warmM h hz
  · exact va_AO.moved h.alike hz
  · exact va_AO.moved h.alike hz
  · exact va_AO.moved h.alike hz
  · exact xm_ao_mv h.alike hz
