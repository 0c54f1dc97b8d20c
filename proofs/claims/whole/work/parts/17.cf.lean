/-! The rest of what the tables say. Written by prog/gen_tables.py. -/
def xt_clq (e : (Nat × Nat) × (Nat × Nat)) : Prop := ∃ (C : String) (T : u_T), xt_cs[e.2.1]? = some (C, T, e.2.2) ∧ Jvm.Cond.classLink (xt_cn e.1.1) e.1.2 C ∈ xt_G ∧ Jvm.Cond.instantiable C e.2.2 ∈ xt_G ∧ Jvm.Cond.initialized C ∈ xt_G
set_option maxRecDepth 100000 in
theorem xt_cl0 : xt_clq ((0, 7), (2, 5)) := ⟨_, _, rfl, xt_gm 895 (by rfl), xt_gm 896 (by rfl), xt_gm 340 (by rfl)⟩
set_option maxRecDepth 100000 in
theorem xt_cl1 : xt_clq ((0, 18), (11, 4)) := ⟨_, _, rfl, xt_gm 897 (by rfl), xt_gm 898 (by rfl), xt_gm 343 (by rfl)⟩
set_option maxRecDepth 100000 in
theorem xt_cl2 : xt_clq ((0, 25), (3, 6)) := ⟨_, _, rfl, xt_gm 899 (by rfl), xt_gm 900 (by rfl), xt_gm 346 (by rfl)⟩
set_option maxRecDepth 100000 in
theorem xt_cl3 : xt_clq ((0, 32), (4, 6)) := ⟨_, _, rfl, xt_gm 901 (by rfl), xt_gm 902 (by rfl), xt_gm 349 (by rfl)⟩
set_option maxRecDepth 100000 in
theorem xt_cl4 : xt_clq ((0, 39), (8, 7)) := ⟨_, _, rfl, xt_gm 903 (by rfl), xt_gm 904 (by rfl), xt_gm 351 (by rfl)⟩
set_option maxRecDepth 100000 in
theorem xt_cl5 : xt_clq ((0, 48), (9, 12)) := ⟨_, _, rfl, xt_gm 905 (by rfl), xt_gm 906 (by rfl), xt_gm 354 (by rfl)⟩
set_option maxRecDepth 100000 in
theorem xt_cl6 : xt_clq ((8, 11), (10, 6)) := ⟨_, _, rfl, xt_gm 907 (by rfl), xt_gm 908 (by rfl), xt_gm 537 (by rfl)⟩
set_option maxRecDepth 100000 in
theorem xt_cl7 : xt_clq ((8, 19), (7, 4)) := ⟨_, _, rfl, xt_gm 909 (by rfl), xt_gm 910 (by rfl), xt_gm 528 (by rfl)⟩
set_option maxRecDepth 100000 in
theorem xt_cl8 : xt_clq ((8, 42), (1, 7)) := ⟨_, _, rfl, xt_gm 911 (by rfl), xt_gm 912 (by rfl), xt_gm 421 (by rfl)⟩
set_option maxRecDepth 100000 in
theorem xt_cl9 : xt_clq ((9, 31), (5, 12)) := ⟨_, _, rfl, xt_gm 913 (by rfl), xt_gm 914 (by rfl), xt_gm 415 (by rfl)⟩
set_option maxRecDepth 100000 in
theorem xt_cl10 : xt_clq ((11, 9), (6, 8)) := ⟨_, _, rfl, xt_gm 915 (by rfl), xt_gm 916 (by rfl), xt_gm 408 (by rfl)⟩
set_option maxRecDepth 100000 in
theorem xt_cl11 : xt_clq ((14, 7), (0, 6)) := ⟨_, _, rfl, xt_gm 917 (by rfl), xt_gm 918 (by rfl), xt_gm 392 (by rfl)⟩
set_option maxRecDepth 100000 in
theorem xt_cl12 : xt_clq ((14, 18), (12, 58)) := ⟨_, _, rfl, xt_gm 919 (by rfl), xt_gm 920 (by rfl), xt_gm 688 (by rfl)⟩
theorem xt_cla : ∀ e ∈ xt_cl, xt_clq e := List.forall_mem_cons.mpr ⟨xt_cl0, List.forall_mem_cons.mpr ⟨xt_cl1, List.forall_mem_cons.mpr ⟨xt_cl2, List.forall_mem_cons.mpr ⟨xt_cl3, List.forall_mem_cons.mpr ⟨xt_cl4, List.forall_mem_cons.mpr ⟨xt_cl5, List.forall_mem_cons.mpr ⟨xt_cl6, List.forall_mem_cons.mpr ⟨xt_cl7, List.forall_mem_cons.mpr ⟨xt_cl8, List.forall_mem_cons.mpr ⟨xt_cl9, List.forall_mem_cons.mpr ⟨xt_cl10, List.forall_mem_cons.mpr ⟨xt_cl11, List.forall_mem_cons.mpr ⟨xt_cl12, fun _ h => absurd h List.not_mem_nil⟩⟩⟩⟩⟩⟩⟩⟩⟩⟩⟩⟩⟩
theorem xt_cl_ok {y n a b : Nat} (h : xt_cl.lookup (xt_oc y, n) = some (a, b)) : ∃ (C : String) (T : u_T), xt_cs[a]? = some (C, T, b) ∧ Jvm.Cond.classLink (xt_ow y) n C ∈ xt_G ∧ Jvm.Cond.instantiable C b ∈ xt_G ∧ Jvm.Cond.initialized C ∈ xt_G := xt_cla _ (xt_lk h)
def xt_alq (e : (Nat × Nat) × Nat) : Prop := Jvm.Cond.classLink (xt_cn e.1.1) e.1.2 (xt_an e.2) ∈ xt_G ∧ Jvm.Cond.arrayOver (.object (xt_an e.2)) ∈ xt_nw
set_option maxRecDepth 100000 in
theorem xt_al0 : xt_alq ((0, 48), 4) := ⟨xt_gm 905 (by rfl), List.mem_of_getElem? (i := 5) (by rfl)⟩
set_option maxRecDepth 100000 in
theorem xt_al1 : xt_alq ((8, 11), 5) := ⟨xt_gm 907 (by rfl), List.mem_of_getElem? (i := 6) (by rfl)⟩
set_option maxRecDepth 100000 in
theorem xt_al2 : xt_alq ((11, 9), 3) := ⟨xt_gm 915 (by rfl), List.mem_of_getElem? (i := 4) (by rfl)⟩
theorem xt_ala : ∀ e ∈ xt_al, xt_alq e := List.forall_mem_cons.mpr ⟨xt_al0, List.forall_mem_cons.mpr ⟨xt_al1, List.forall_mem_cons.mpr ⟨xt_al2, fun _ h => absurd h List.not_mem_nil⟩⟩⟩
theorem xt_al_ok {y n a : Nat} (h : xt_al.lookup (xt_oc y, n) = some a) : Jvm.Cond.classLink (xt_ow y) n (xt_an a) ∈ xt_G ∧ Jvm.Cond.arrayOver (.object (xt_an a)) ∈ xt_nw := xt_ala _ (xt_lk h)
def xt_ktq (e : (Nat × Nat) × Int32) : Prop := Jvm.Cond.constant (xt_cn e.1.1) e.1.2 e.2 ∈ xt_G
set_option maxRecDepth 100000 in
theorem xt_kt0 : xt_ktq ((4, 27), (-306674912)) := xt_gm 921 (by rfl)
set_option maxRecDepth 100000 in
theorem xt_kt1 : xt_ktq ((12, 184), (-306674912)) := xt_gm 922 (by rfl)
theorem xt_kta : ∀ e ∈ xt_kt, xt_ktq e := List.forall_mem_cons.mpr ⟨xt_kt0, List.forall_mem_cons.mpr ⟨xt_kt1, fun _ h => absurd h List.not_mem_nil⟩⟩
theorem xt_kt_ok {y n : Nat} {v : Int32} (h : xt_kt.lookup (xt_oc y, n) = some v) : Jvm.Cond.constant (xt_ow y) n v ∈ xt_G := xt_kta _ (xt_lk h)
set_option maxRecDepth 100000 in
theorem xt_ar_ok {t : Nat} {n : Jvm.ClassFile.ArrayType} (h : t < 2) (hn : newarray.typeOf n = xt_tt t) : Jvm.Cond.arrayClass (newarray.typeOf n) ∈ xt_G := by
  rw [hn]
  rcases (show t = 0 ∨ t = 1 by omega) with rfl | rfl
  · exact xt_gm 923 (by rfl)
  · exact xt_gm 924 (by rfl)
set_option maxRecDepth 100000 in
theorem xt_ly0 : (u_ws "BootNet" xt_F0 6).all (fun w => decide (w ∈ xt_Gw.take 141)) = true := by decide +kernel
set_option maxRecDepth 100000 in
theorem xt_tp0 : ∀ k, k < 6 → parseFieldDescriptor (xt_F0 k).2.2.1 = some (xt_ft 0 k) := by decide +kernel
set_option maxRecDepth 100000 in
theorem xt_nn0 : ∀ a, a < 6 → ∀ b, b < 6 → a ≠ b → (xt_F0 a).2.1 ≠ (xt_F0 b).2.1 := by decide +kernel
set_option maxRecDepth 100000 in
theorem xt_ly1 : (u_ws "BootNet$AddressBook" xt_F1 7).all (fun w => decide (w ∈ xt_Gw.take 141)) = true := by decide +kernel
set_option maxRecDepth 100000 in
theorem xt_tp1 : ∀ k, k < 7 → parseFieldDescriptor (xt_F1 k).2.2.1 = some (xt_ft 1 k) := by decide +kernel
set_option maxRecDepth 100000 in
theorem xt_nn1 : ∀ a, a < 7 → ∀ b, b < 7 → a ≠ b → (xt_F1 a).2.1 ≠ (xt_F1 b).2.1 := by decide +kernel
set_option maxRecDepth 100000 in
theorem xt_ly2 : (u_ws "BootNet$Ground" xt_F2 5).all (fun w => decide (w ∈ xt_Gw.take 141)) = true := by decide +kernel
set_option maxRecDepth 100000 in
theorem xt_tp2 : ∀ k, k < 5 → parseFieldDescriptor (xt_F2 k).2.2.1 = some (xt_ft 2 k) := by decide +kernel
set_option maxRecDepth 100000 in
theorem xt_nn2 : ∀ a, a < 5 → ∀ b, b < 5 → a ≠ b → (xt_F2 a).2.1 ≠ (xt_F2 b).2.1 := by decide +kernel
set_option maxRecDepth 100000 in
theorem xt_ly3 : (u_ws "BootNet$Layout" xt_F3 6).all (fun w => decide (w ∈ xt_Gw.take 141)) = true := by decide +kernel
set_option maxRecDepth 100000 in
theorem xt_tp3 : ∀ k, k < 6 → parseFieldDescriptor (xt_F3 k).2.2.1 = some (xt_ft 3 k) := by decide +kernel
set_option maxRecDepth 100000 in
theorem xt_nn3 : ∀ a, a < 6 → ∀ b, b < 6 → a ≠ b → (xt_F3 a).2.1 ≠ (xt_F3 b).2.1 := by decide +kernel
set_option maxRecDepth 100000 in
theorem xt_ly4 : (u_ws "BootNet$Library" xt_F4 6).all (fun w => decide (w ∈ xt_Gw.take 141)) = true := by decide +kernel
set_option maxRecDepth 100000 in
theorem xt_tp4 : ∀ k, k < 6 → parseFieldDescriptor (xt_F4 k).2.2.1 = some (xt_ft 4 k) := by decide +kernel
set_option maxRecDepth 100000 in
theorem xt_nn4 : ∀ a, a < 6 → ∀ b, b < 6 → a ≠ b → (xt_F4 a).2.1 ≠ (xt_F4 b).2.1 := by decide +kernel
set_option maxRecDepth 100000 in
theorem xt_ly5 : (u_ws "BootNet$Loading" xt_F5 12).all (fun w => decide (w ∈ xt_Gw.take 141)) = true := by decide +kernel
set_option maxRecDepth 100000 in
theorem xt_tp5 : ∀ k, k < 12 → parseFieldDescriptor (xt_F5 k).2.2.1 = some (xt_ft 5 k) := by decide +kernel
set_option maxRecDepth 100000 in
theorem xt_nn5 : ∀ a, a < 12 → ∀ b, b < 12 → a ≠ b → (xt_F5 a).2.1 ≠ (xt_F5 b).2.1 := by decide +kernel
set_option maxRecDepth 100000 in
theorem xt_ly6 : (u_ws "BootNet$Message" xt_F6 8).all (fun w => decide (w ∈ xt_Gw.take 141)) = true := by decide +kernel
set_option maxRecDepth 100000 in
theorem xt_tp6 : ∀ k, k < 8 → parseFieldDescriptor (xt_F6 k).2.2.1 = some (xt_ft 6 k) := by decide +kernel
set_option maxRecDepth 100000 in
theorem xt_nn6 : ∀ a, a < 8 → ∀ b, b < 8 → a ≠ b → (xt_F6 a).2.1 ≠ (xt_F6 b).2.1 := by decide +kernel
set_option maxRecDepth 100000 in
theorem xt_ly7 : (u_ws "BootNet$Records" xt_F7 4).all (fun w => decide (w ∈ xt_Gw.take 141)) = true := by decide +kernel
set_option maxRecDepth 100000 in
theorem xt_tp7 : ∀ k, k < 4 → parseFieldDescriptor (xt_F7 k).2.2.1 = some (xt_ft 7 k) := by decide +kernel
set_option maxRecDepth 100000 in
theorem xt_nn7 : ∀ a, a < 4 → ∀ b, b < 4 → a ≠ b → (xt_F7 a).2.1 ≠ (xt_F7 b).2.1 := by decide +kernel
set_option maxRecDepth 100000 in
theorem xt_ly8 : (u_ws "BootNet$Server" xt_F8 7).all (fun w => decide (w ∈ xt_Gw.take 141)) = true := by decide +kernel
set_option maxRecDepth 100000 in
theorem xt_tp8 : ∀ k, k < 7 → parseFieldDescriptor (xt_F8 k).2.2.1 = some (xt_ft 8 k) := by decide +kernel
set_option maxRecDepth 100000 in
theorem xt_nn8 : ∀ a, a < 7 → ∀ b, b < 7 → a ≠ b → (xt_F8 a).2.1 ≠ (xt_F8 b).2.1 := by decide +kernel
set_option maxRecDepth 100000 in
theorem xt_ly9 : (u_ws "BootNet$Station" xt_F9 12).all (fun w => decide (w ∈ xt_Gw.take 141)) = true := by decide +kernel
set_option maxRecDepth 100000 in
theorem xt_tp9 : ∀ k, k < 12 → parseFieldDescriptor (xt_F9 k).2.2.1 = some (xt_ft 9 k) := by decide +kernel
set_option maxRecDepth 100000 in
theorem xt_nn9 : ∀ a, a < 12 → ∀ b, b < 12 → a ≠ b → (xt_F9 a).2.1 ≠ (xt_F9 b).2.1 := by decide +kernel
set_option maxRecDepth 100000 in
theorem xt_ly10 : (u_ws "BootNet$Transfer" xt_F10 6).all (fun w => decide (w ∈ xt_Gw.take 141)) = true := by decide +kernel
set_option maxRecDepth 100000 in
theorem xt_tp10 : ∀ k, k < 6 → parseFieldDescriptor (xt_F10 k).2.2.1 = some (xt_ft 10 k) := by decide +kernel
set_option maxRecDepth 100000 in
theorem xt_nn10 : ∀ a, a < 6 → ∀ b, b < 6 → a ≠ b → (xt_F10 a).2.1 ≠ (xt_F10 b).2.1 := by decide +kernel
set_option maxRecDepth 100000 in
theorem xt_ly11 : (u_ws "BootNet$Wire" xt_F11 4).all (fun w => decide (w ∈ xt_Gw.take 141)) = true := by decide +kernel
set_option maxRecDepth 100000 in
theorem xt_tp11 : ∀ k, k < 4 → parseFieldDescriptor (xt_F11 k).2.2.1 = some (xt_ft 11 k) := by decide +kernel
set_option maxRecDepth 100000 in
theorem xt_nn11 : ∀ a, a < 4 → ∀ b, b < 4 → a ≠ b → (xt_F11 a).2.1 ≠ (xt_F11 b).2.1 := by decide +kernel
set_option maxRecDepth 100000 in
theorem xt_ly12 : (u_ws "BootNetModel" xt_F12 58).all (fun w => decide (w ∈ xt_Gw.take 141)) = true := by decide +kernel
set_option maxRecDepth 100000 in
theorem xt_tp12 : ∀ k, k < 58 → parseFieldDescriptor (xt_F12 k).2.2.1 = some (xt_ft 12 k) := by decide +kernel
set_option maxRecDepth 100000 in
theorem xt_nn12 : ∀ a, a < 58 → ∀ b, b < 58 → a ≠ b → (xt_F12 a).2.1 ≠ (xt_F12 b).2.1 := by decide +kernel
def xt_cfq (ci : Nat) (r : vw_C) : Prop := (∀ w ∈ u_ws r.1 r.2.1 r.2.2, w ∈ xt_G) ∧ (∀ k, k < r.2.2 → parseFieldDescriptor (r.2.1 k).2.2.1 = some (xt_ft ci k)) ∧ (∀ a, a < r.2.2 → ∀ b, b < r.2.2 → a ≠ b → (r.2.1 a).2.1 ≠ (r.2.1 b).2.1)
theorem xt_lyG {n : Nat} {l : List Jvm.Cond} (h : (l.all (fun w => decide (w ∈ xt_Gw.take n))) = true) : ∀ w ∈ l, w ∈ xt_G := fun w hw => by
  have := List.all_eq_true.mp h w hw
  simp only [decide_eq_true_eq] at this
  exact List.mem_append_left _ (List.mem_of_mem_take this)
theorem xt_cf {ci : Nat} {C : String} {T : u_T} {N : Nat} (h : xt_cs[ci]? = some (C, T, N)) : xt_cfq ci (C, T, N) := by
  match ci, h with
  | 0, h => cases h; exact ⟨xt_lyG xt_ly0, xt_tp0, xt_nn0⟩
  | 1, h => cases h; exact ⟨xt_lyG xt_ly1, xt_tp1, xt_nn1⟩
  | 2, h => cases h; exact ⟨xt_lyG xt_ly2, xt_tp2, xt_nn2⟩
  | 3, h => cases h; exact ⟨xt_lyG xt_ly3, xt_tp3, xt_nn3⟩
  | 4, h => cases h; exact ⟨xt_lyG xt_ly4, xt_tp4, xt_nn4⟩
  | 5, h => cases h; exact ⟨xt_lyG xt_ly5, xt_tp5, xt_nn5⟩
  | 6, h => cases h; exact ⟨xt_lyG xt_ly6, xt_tp6, xt_nn6⟩
  | 7, h => cases h; exact ⟨xt_lyG xt_ly7, xt_tp7, xt_nn7⟩
  | 8, h => cases h; exact ⟨xt_lyG xt_ly8, xt_tp8, xt_nn8⟩
  | 9, h => cases h; exact ⟨xt_lyG xt_ly9, xt_tp9, xt_nn9⟩
  | 10, h => cases h; exact ⟨xt_lyG xt_ly10, xt_tp10, xt_nn10⟩
  | 11, h => cases h; exact ⟨xt_lyG xt_ly11, xt_tp11, xt_nn11⟩
  | 12, h => cases h; exact ⟨xt_lyG xt_ly12, xt_tp12, xt_nn12⟩
  | n + 13, h => cases h
set_option maxRecDepth 100000 in
theorem xt_mul : Jvm.Cond.classLink "BootNet$Library" 9 "[[I" ∈ xt_G := xt_gm 925 (by rfl)
