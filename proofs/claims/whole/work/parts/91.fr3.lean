/-! Which kinds a function leaves. Written by prog/gen_fr.py. -/
theorem fr_139 (a1 : Int32) (μ : tm_M) (k : Nat) (h : k ∉ ([36, 41, 42, 43, 44, 45, 46, 47, 48, 54, 55, 56, 57, 58, 59, 60, 61, 62, 63, 64, 65, 66, 68, 69, 70, 71, 72, 73, 74, 75, 76, 77, 78, 79, 80, 81, 82, 83, 84, 85] : List Nat)) : cs_139 a1 μ k = μ k := by
  simp only [List.mem_cons, List.not_mem_nil, or_false, not_or] at h
  unfold cs_139
  repeat' split
  all_goals simp [tm_wr_ne, tm_cb_ne, h, fr_139_120]
theorem fr_153_58  (k : Nat) (h : k ∉ ([54, 55] : List Nat)) : ∀ (n : Nat) (v1 : Int32) (μ : tm_M), cs_153_58  n v1 μ k = μ k := by
  simp only [List.mem_cons, List.not_mem_nil, or_false, not_or] at h
  intro n
  induction n with
  | zero => intros; rfl
  | succ n ih =>
    intros
    unfold cs_153_58
    repeat' split
    all_goals simp [ih, tm_wr_ne, tm_cb_ne, h]
theorem fr_153_37  (k : Nat) (h : k ∉ ([54, 55, 62] : List Nat)) : ∀ (n : Nat) (v1 : Int32) (μ : tm_M), cs_153_37  n v1 μ k = μ k := by
  simp only [List.mem_cons, List.not_mem_nil, or_false, not_or] at h
  intro n
  induction n with
  | zero => intros; rfl
  | succ n ih =>
    intros
    unfold cs_153_37
    repeat' split
    all_goals simp [ih, tm_wr_ne, tm_cb_ne, h, fr_153_58]
theorem fr_153_2  (k : Nat) (h : k ∉ ([54, 55, 57, 58, 62] : List Nat)) : ∀ (n : Nat) (v1 : Int32) (μ : tm_M), cs_153_2  n v1 μ k = μ k := by
  simp only [List.mem_cons, List.not_mem_nil, or_false, not_or] at h
  intro n
  induction n with
  | zero => intros; rfl
  | succ n ih =>
    intros
    unfold cs_153_2
    repeat' split
    all_goals simp [ih, tm_wr_ne, tm_cb_ne, h, fr_153_37]
theorem fr_153 (μ : tm_M) (k : Nat) (h : k ∉ ([54, 55, 57, 58, 62] : List Nat)) : cs_153 μ k = μ k := by
  simp only [List.mem_cons, List.not_mem_nil, or_false, not_or] at h
  unfold cs_153
  repeat' split
  all_goals simp [tm_wr_ne, tm_cb_ne, h, fr_153_2]
theorem fr_162 (a1 : Int32) (μ : tm_M) (k : Nat) (h : k ∉ ([36, 41, 42, 43, 44, 45, 46, 47, 68, 69, 70, 71, 72, 73, 74, 75, 76, 77, 81, 82] : List Nat)) : cs_162 a1 μ k = μ k := by
  simp only [List.mem_cons, List.not_mem_nil, or_false, not_or] at h
  unfold cs_162
  repeat' split
  all_goals simp [tm_wr_ne, tm_cb_ne, h, fr_158]
theorem fr_167 (a1 : Int32) (μ : tm_M) (k : Nat) (h : k ∉ ([36, 41, 42, 43, 44, 45, 46, 47, 68, 69, 70, 71, 73, 74, 76] : List Nat)) : cs_167 a1 μ k = μ k := by
  simp only [List.mem_cons, List.not_mem_nil, or_false, not_or] at h
  unfold cs_167
  repeat' split
  all_goals simp [tm_wr_ne, tm_cb_ne, h, fr_135, fr_159, fr_160]
theorem fr_168 (a1 : Int32) (μ : tm_M) (k : Nat) (h : k ∉ ([36, 41, 42, 43, 44, 45, 46, 47, 68, 69, 70, 73, 74, 76, 77, 78, 79, 80, 81, 82] : List Nat)) : cs_168 a1 μ k = μ k := by
  simp only [List.mem_cons, List.not_mem_nil, or_false, not_or] at h
  unfold cs_168
  repeat' split
  all_goals simp [tm_wr_ne, tm_cb_ne, h, fr_158, fr_161]
theorem fr_169 (a1 : Int32) (μ : tm_M) (k : Nat) (h : k ∉ ([36, 41, 42, 43, 44, 45, 46, 47, 76, 79, 80] : List Nat)) : cs_169 a1 μ k = μ k := by
  simp only [List.mem_cons, List.not_mem_nil, or_false, not_or] at h
  unfold cs_169
  repeat' split
  all_goals simp [tm_wr_ne, tm_cb_ne, h, fr_135]
theorem fr_170 (a1 : Int32) (μ : tm_M) (k : Nat) (h : k ∉ ([36, 41, 42, 43, 44, 45, 46, 47, 68, 69, 70, 71, 73, 74, 76, 77, 78, 79, 80, 81, 82] : List Nat)) : cs_170 a1 μ k = μ k := by
  simp only [List.mem_cons, List.not_mem_nil, or_false, not_or] at h
  unfold cs_170
  repeat' split
  all_goals simp [tm_wr_ne, tm_cb_ne, h, fr_158, fr_159, fr_167, fr_168, fr_169]
theorem fr_171_33  (k : Nat) (h : k ∉ ([36, 41, 42, 43, 44, 45, 46, 47, 48, 62, 64, 65, 66] : List Nat)) : ∀ (n : Nat) (v1 : Int32) (μ : tm_M), cs_171_33  n v1 μ k = μ k := by
  simp only [List.mem_cons, List.not_mem_nil, or_false, not_or] at h
  intro n
  induction n with
  | zero => intros; rfl
  | succ n ih =>
    intros
    unfold cs_171_33
    repeat' split
    all_goals simp [ih, tm_wr_ne, tm_cb_ne, h, fr_152]
theorem fr_171_12  (k : Nat) (h : k ∉ ([36, 41, 42, 43, 44, 45, 46, 47, 48, 62, 64, 65, 66, 68, 69, 70, 71, 73, 74, 76, 77, 78, 79, 80, 81, 82] : List Nat)) : ∀ (n : Nat) (v1 : Int32) (μ : tm_M), cs_171_12  n v1 μ k = μ k := by
  simp only [List.mem_cons, List.not_mem_nil, or_false, not_or] at h
  intro n
  induction n with
  | zero => intros; rfl
  | succ n ih =>
    intros
    unfold cs_171_12
    repeat' split
    all_goals simp [ih, tm_wr_ne, tm_cb_ne, h, fr_170, fr_171_33]
theorem fr_171 (μ : tm_M) (k : Nat) (h : k ∉ ([36, 41, 42, 43, 44, 45, 46, 47, 48, 62, 64, 65, 66, 68, 69, 70, 71, 73, 74, 76, 77, 78, 79, 80, 81, 82] : List Nat)) : cs_171 μ k = μ k := by
  simp only [List.mem_cons, List.not_mem_nil, or_false, not_or] at h
  unfold cs_171
  repeat' split
  all_goals simp [tm_wr_ne, tm_cb_ne, h, fr_171_12]
