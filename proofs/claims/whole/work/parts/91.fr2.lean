/-! Which kinds a function leaves. Written by prog/gen_fr.py. -/
theorem fr_100 (i : Nat) (m1 : Nat) (μ : tm_M) (k : Nat) (h : k ∉ ([1, 2, 4, 33, 34, 35] : List Nat)) : cs_100 i m1 μ k = μ k := by
  simp only [List.mem_cons, List.not_mem_nil, or_false, not_or] at h
  unfold cs_100
  repeat' split
  all_goals simp [tm_wr_ne, tm_cb_ne, h, fr_110, fr_111, fr_112, fr_113, fr_63, fr_64]
theorem fr_119 (m1 : Nat) (a2 : Int32) (μ : tm_M) (k : Nat) (h : k ∉ ([2, 4, 5] : List Nat)) : cs_119 m1 a2 μ k = μ k := by
  simp only [List.mem_cons, List.not_mem_nil, or_false, not_or] at h
  unfold cs_119
  repeat' split
  all_goals simp [tm_wr_ne, tm_cb_ne, h, fr_117, fr_74k5]
theorem fr_18 (m1 : Nat) (μ : tm_M) (k : Nat) (h : k ∉ ([1, 2, 4, 5, 21, 23, 24, 25, 26, 27, 28, 29, 30, 31, 33, 34, 35] : List Nat)) : cs_18 m1 μ k = μ k := by
  simp only [List.mem_cons, List.not_mem_nil, or_false, not_or] at h
  unfold cs_18
  repeat' split
  all_goals simp [tm_wr_ne, tm_cb_ne, h, fr_100, fr_119, fr_19, fr_82]
theorem fr_118_11 (a1 : Int32) (k : Nat) (h : k ∉ ([2, 3] : List Nat)) : ∀ (n : Nat) (v1 : Nat) (v2 : Int32) (μ : tm_M), cs_118_11 a1 n v1 v2 μ k = μ k := by
  simp only [List.mem_cons, List.not_mem_nil, or_false, not_or] at h
  intro n
  induction n with
  | zero => intros; rfl
  | succ n ih =>
    intros
    unfold cs_118_11
    repeat' split
    all_goals simp [ih, tm_wr_ne, tm_cb_ne, h]
theorem fr_118 (a1 : Int32) (μ : tm_M) (k : Nat) (h : k ∉ ([2, 3] : List Nat)) : cs_118 a1 μ k = μ k := by
  simp only [List.mem_cons, List.not_mem_nil, or_false, not_or] at h
  unfold cs_118
  repeat' split
  all_goals simp [tm_wr_ne, tm_cb_ne, h, fr_118_11]
theorem fr_9 (a1 : Int32) (μ : tm_M) (k : Nat) (h : k ∉ ([1, 2, 3, 4, 5, 21, 23, 24, 25, 26, 27, 28, 29, 30, 31, 33, 34, 35] : List Nat)) : cs_9 a1 μ k = μ k := by
  simp only [List.mem_cons, List.not_mem_nil, or_false, not_or] at h
  unfold cs_9
  repeat' split
  all_goals simp [tm_wr_ne, tm_cb_ne, h, fr_118, fr_18]
theorem fr_120 (a1 : Int32) (μ : tm_M) (k : Nat) (h : k ∉ ([2, 4, 5] : List Nat)) : cs_120 a1 μ k = μ k := by
  simp only [List.mem_cons, List.not_mem_nil, or_false, not_or] at h
  unfold cs_120
  repeat' split
  all_goals simp [tm_wr_ne, tm_cb_ne, h, fr_119]
theorem fr_10 (a1 : Int32) (a2 : Int32) (μ : tm_M) (k : Nat) (h : k ∉ ([2, 3, 4, 5] : List Nat)) : cs_10 a1 a2 μ k = μ k := by
  simp only [List.mem_cons, List.not_mem_nil, or_false, not_or] at h
  unfold cs_10
  repeat' split
  all_goals simp [tm_wr_ne, tm_cb_ne, h, fr_118, fr_120]
theorem fr_84_2  (k : Nat) (h : k ∉ ([2, 4, 5, 21] : List Nat)) : ∀ (n : Nat) (v1 : Int32) (μ : tm_M), cs_84_2  n v1 μ k = μ k := by
  simp only [List.mem_cons, List.not_mem_nil, or_false, not_or] at h
  intro n
  induction n with
  | zero => intros; rfl
  | succ n ih =>
    intros
    unfold cs_84_2
    repeat' split
    all_goals simp [ih, tm_wr_ne, tm_cb_ne, h, fr_95]
theorem fr_84 (μ : tm_M) (k : Nat) (h : k ∉ ([2, 4, 5, 21] : List Nat)) : cs_84 μ k = μ k := by
  simp only [List.mem_cons, List.not_mem_nil, or_false, not_or] at h
  unfold cs_84
  repeat' split
  all_goals simp [tm_wr_ne, tm_cb_ne, h, fr_84_2]
theorem fr_66 (i : Nat) (μ : tm_M) (k : Nat) (h : k ∉ ([2, 4, 34] : List Nat)) : cs_66 i μ k = μ k := by
  simp only [List.mem_cons, List.not_mem_nil, or_false, not_or] at h
  unfold cs_66
  repeat' split
  all_goals simp [tm_wr_ne, tm_cb_ne, h, fr_71]
theorem fr_107 (i : Nat) (μ : tm_M) (k : Nat) (h : k ∉ ([1, 2, 4, 33, 34] : List Nat)) : cs_107 i μ k = μ k := by
  simp only [List.mem_cons, List.not_mem_nil, or_false, not_or] at h
  unfold cs_107
  repeat' split
  all_goals simp [tm_wr_ne, tm_cb_ne, h, fr_104, fr_105, fr_106]
theorem fr_108 (i : Nat) (μ : tm_M) (k : Nat) (h : k ∉ ([1, 2, 4, 33, 34] : List Nat)) : cs_108 i μ k = μ k := by
  simp only [List.mem_cons, List.not_mem_nil, or_false, not_or] at h
  unfold cs_108
  repeat' split
  all_goals simp [tm_wr_ne, tm_cb_ne, h, fr_103, fr_61]
theorem fr_101 (i : Nat) (μ : tm_M) (k : Nat) (h : k ∉ ([1, 2, 4, 33, 34] : List Nat)) : cs_101 i μ k = μ k := by
  simp only [List.mem_cons, List.not_mem_nil, or_false, not_or] at h
  unfold cs_101
  repeat' split
  all_goals simp [tm_wr_ne, tm_cb_ne, h, fr_103, fr_105, fr_107, fr_108, fr_66]
theorem fr_11_15  (k : Nat) (h : k ∉ ([1, 2, 4, 5, 21, 33, 34] : List Nat)) : ∀ (n : Nat) (v1 : Int32) (μ : tm_M), cs_11_15  n v1 μ k = μ k := by
  simp only [List.mem_cons, List.not_mem_nil, or_false, not_or] at h
  intro n
  induction n with
  | zero => intros; rfl
  | succ n ih =>
    intros
    unfold cs_11_15
    repeat' split
    all_goals simp [ih, tm_wr_ne, tm_cb_ne, h, fr_101, fr_84]
theorem fr_11 (μ : tm_M) (k : Nat) (h : k ∉ ([1, 2, 4, 5, 21, 33, 34] : List Nat)) : cs_11 μ k = μ k := by
  simp only [List.mem_cons, List.not_mem_nil, or_false, not_or] at h
  unfold cs_11
  repeat' split
  all_goals simp [tm_wr_ne, tm_cb_ne, h, fr_11_15]
theorem fr_22 (μ : tm_M) (k : Nat) (h : k ∉ ([24, 26, 27] : List Nat)) : cs_22 μ k = μ k := by
  simp only [List.mem_cons, List.not_mem_nil, or_false, not_or] at h
  unfold cs_22
  repeat' split
  all_goals simp [tm_wr_ne, tm_cb_ne, h, fr_174k24, fr_174k26, fr_174k27]
theorem fr_83_36  (k : Nat) (h : k ∉ ([23, 24] : List Nat)) : ∀ (n : Nat) (v1 : Int32) (μ : tm_M), cs_83_36  n v1 μ k = μ k := by
  simp only [List.mem_cons, List.not_mem_nil, or_false, not_or] at h
  intro n
  induction n with
  | zero => intros; rfl
  | succ n ih =>
    intros
    unfold cs_83_36
    repeat' split
    all_goals simp [ih, tm_wr_ne, tm_cb_ne, h, fr_27]
theorem fr_83_9  (k : Nat) (h : k ∉ ([21, 23, 24] : List Nat)) : ∀ (n : Nat) (v1 : Int32) (μ : tm_M), cs_83_9  n v1 μ k = μ k := by
  simp only [List.mem_cons, List.not_mem_nil, or_false, not_or] at h
  intro n
  induction n with
  | zero => intros; rfl
  | succ n ih =>
    intros
    unfold cs_83_9
    repeat' split
    all_goals simp [ih, tm_wr_ne, tm_cb_ne, h, fr_83_36]
theorem fr_83 (μ : tm_M) (k : Nat) (h : k ∉ ([21, 23, 24, 26, 27] : List Nat)) : cs_83 μ k = μ k := by
  simp only [List.mem_cons, List.not_mem_nil, or_false, not_or] at h
  unfold cs_83
  repeat' split
  all_goals simp [tm_wr_ne, tm_cb_ne, h, fr_22, fr_83_9]
theorem fr_12 (μ : tm_M) (k : Nat) (h : k ∉ ([21, 23, 24, 26, 27] : List Nat)) : cs_12 μ k = μ k := by
  simp only [List.mem_cons, List.not_mem_nil, or_false, not_or] at h
  unfold cs_12
  repeat' split
  all_goals simp [tm_wr_ne, tm_cb_ne, h, fr_83]
theorem fr_125 (a1 : Int32) (a2 : Int32) (a3 : Int32) (μ : tm_M) (k : Nat) (h : k ∉ ([37, 38] : List Nat)) : cs_125 a1 a2 a3 μ k = μ k := by
  simp only [List.mem_cons, List.not_mem_nil, or_false, not_or] at h
  unfold cs_125
  repeat' split
  all_goals simp [tm_wr_ne, tm_cb_ne, h]
theorem fr_126 (a1 : Int32) (μ : tm_M) (k : Nat) (h : k ∉ ([36, 67] : List Nat)) : cs_126 a1 μ k = μ k := by
  simp only [List.mem_cons, List.not_mem_nil, or_false, not_or] at h
  unfold cs_126
  repeat' split
  all_goals simp [tm_wr_ne, tm_cb_ne, h]
theorem fr_127_59 (a1 : Int32) (a2 : Int32) (k : Nat) (h : k ∉ ([39] : List Nat)) : ∀ (n : Nat) (v1 : Int32) (v2 : Int32) (μ : tm_M), cs_127_59 a1 a2 n v1 v2 μ k = μ k := by
  simp only [List.mem_cons, List.not_mem_nil, or_false, not_or] at h
  intro n
  induction n with
  | zero => intros; rfl
  | succ n ih =>
    intros
    unfold cs_127_59
    repeat' split
    all_goals simp [ih, tm_wr_ne, tm_cb_ne, h]
theorem fr_127 (a1 : Int32) (a2 : Int32) (μ : tm_M) (k : Nat) (h : k ∉ ([39] : List Nat)) : cs_127 a1 a2 μ k = μ k := by
  simp only [List.mem_cons, List.not_mem_nil, or_false, not_or] at h
  unfold cs_127
  repeat' split
  all_goals simp [tm_wr_ne, tm_cb_ne, h, fr_127_59]
theorem fr_128 (a1 : Int32) (a2 : Int32) (μ : tm_M) (k : Nat) (h : k ∉ ([40] : List Nat)) : cs_128 a1 a2 μ k = μ k := by
  simp only [List.mem_cons, List.not_mem_nil, or_false, not_or] at h
  unfold cs_128
  repeat' split
  all_goals simp [tm_wr_ne, tm_cb_ne, h]
theorem fr_129 (a1 : Int32) (a2 : Int32) (μ : tm_M) (k : Nat) (h : k ∉ ([49, 50] : List Nat)) : cs_129 a1 a2 μ k = μ k := by
  simp only [List.mem_cons, List.not_mem_nil, or_false, not_or] at h
  unfold cs_129
  repeat' split
  all_goals simp [tm_wr_ne, tm_cb_ne, h]
theorem fr_130 (a1 : Int32) (a2 : Int32) (a3 : Int32) (μ : tm_M) (k : Nat) (h : k ∉ ([36, 51, 52, 53] : List Nat)) : cs_130 a1 a2 a3 μ k = μ k := by
  simp only [List.mem_cons, List.not_mem_nil, or_false, not_or] at h
  unfold cs_130
  repeat' split
  all_goals simp [tm_wr_ne, tm_cb_ne, h]
theorem fr_135 (a1 : Int32) (a2 : Int32) (a3 : Int32) (a4 : Int32) (a5 : Int32) (μ : tm_M) (k : Nat) (h : k ∉ ([36, 41, 42, 43, 44, 45, 46, 47] : List Nat)) : cs_135 a1 a2 a3 a4 a5 μ k = μ k := by
  simp only [List.mem_cons, List.not_mem_nil, or_false, not_or] at h
  unfold cs_135
  repeat' split
  all_goals simp [tm_wr_ne, tm_cb_ne, h]
theorem fr_136_86 (a1 : Int32) (a2 : Int32) (k : Nat) (h : k ∉ ([48] : List Nat)) : ∀ (n : Nat) (v1 : Int32) (μ : tm_M), cs_136_86 a1 a2 n v1 μ k = μ k := by
  simp only [List.mem_cons, List.not_mem_nil, or_false, not_or] at h
  intro n
  induction n with
  | zero => intros; rfl
  | succ n ih =>
    intros
    unfold cs_136_86
    repeat' split
    all_goals simp [ih, tm_wr_ne, tm_cb_ne, h]
theorem fr_136 (a1 : Int32) (a2 : Int32) (μ : tm_M) (k : Nat) (h : k ∉ ([41, 42, 43, 44, 45, 46, 47, 48] : List Nat)) : cs_136 a1 a2 μ k = μ k := by
  simp only [List.mem_cons, List.not_mem_nil, or_false, not_or] at h
  unfold cs_136
  repeat' split
  all_goals simp [tm_wr_ne, tm_cb_ne, h, fr_136_86]
theorem fr_137_12 (a1 : Int32) (k : Nat) (h : k ∉ ([41, 42, 43, 44, 45, 46, 47, 48] : List Nat)) : ∀ (n : Nat) (v1 : Int32) (μ : tm_M), cs_137_12 a1 n v1 μ k = μ k := by
  simp only [List.mem_cons, List.not_mem_nil, or_false, not_or] at h
  intro n
  induction n with
  | zero => intros; rfl
  | succ n ih =>
    intros
    unfold cs_137_12
    repeat' split
    all_goals simp [ih, tm_wr_ne, tm_cb_ne, h, fr_136]
theorem fr_137 (a1 : Int32) (μ : tm_M) (k : Nat) (h : k ∉ ([36, 41, 42, 43, 44, 45, 46, 47, 48] : List Nat)) : cs_137 a1 μ k = μ k := by
  simp only [List.mem_cons, List.not_mem_nil, or_false, not_or] at h
  unfold cs_137
  repeat' split
  all_goals simp [tm_wr_ne, tm_cb_ne, h, fr_137_12]
theorem fr_138 (a1 : Int32) (a2 : Int32) (μ : tm_M) (k : Nat) (h : k ∉ ([36, 41, 42, 43, 44, 45, 46, 47, 48] : List Nat)) : cs_138 a1 a2 μ k = μ k := by
  simp only [List.mem_cons, List.not_mem_nil, or_false, not_or] at h
  unfold cs_138
  repeat' split
  all_goals simp [tm_wr_ne, tm_cb_ne, h, fr_136, fr_137]
theorem fr_140_209 (a1 : Int32) (a2 : Int32) (k : Nat) (h : k ∉ ([48] : List Nat)) : ∀ (n : Nat) (v1 : Int32) (μ : tm_M), cs_140_209 a1 a2 n v1 μ k = μ k := by
  simp only [List.mem_cons, List.not_mem_nil, or_false, not_or] at h
  intro n
  induction n with
  | zero => intros; rfl
  | succ n ih =>
    intros
    unfold cs_140_209
    repeat' split
    all_goals simp [ih, tm_wr_ne, tm_cb_ne, h]
theorem fr_140_87 (a1 : Int32) (a2 : Int32) (k : Nat) (h : k ∉ ([41, 42, 43, 44, 45, 46, 47, 48, 84] : List Nat)) : ∀ (n : Nat) (v1 : Int32) (μ : tm_M), cs_140_87 a1 a2 n v1 μ k = μ k := by
  simp only [List.mem_cons, List.not_mem_nil, or_false, not_or] at h
  intro n
  induction n with
  | zero => intros; rfl
  | succ n ih =>
    intros
    unfold cs_140_87
    repeat' split
    all_goals simp [ih, tm_wr_ne, tm_cb_ne, h, fr_136, fr_140_209]
theorem fr_140 (a1 : Int32) (a2 : Int32) (μ : tm_M) (k : Nat) (h : k ∉ ([41, 42, 43, 44, 45, 46, 47, 48, 84, 85] : List Nat)) : cs_140 a1 a2 μ k = μ k := by
  simp only [List.mem_cons, List.not_mem_nil, or_false, not_or] at h
  unfold cs_140
  repeat' split
  all_goals simp [tm_wr_ne, tm_cb_ne, h, fr_140_87]
theorem fr_147_14 (a1 : Int32) (a2 : Int32) (k : Nat) (h : k ∉ ([36, 41, 42, 43, 44, 45, 46, 47, 56, 57] : List Nat)) : ∀ (n : Nat) (v1 : Int32) (v2 : Int32) (μ : tm_M), cs_147_14 a1 a2 n v1 v2 μ k = μ k := by
  simp only [List.mem_cons, List.not_mem_nil, or_false, not_or] at h
  intro n
  induction n with
  | zero => intros; rfl
  | succ n ih =>
    intros
    unfold cs_147_14
    repeat' split
    all_goals simp [ih, tm_wr_ne, tm_cb_ne, h, fr_135]
theorem fr_147 (a1 : Int32) (a2 : Int32) (μ : tm_M) (k : Nat) (h : k ∉ ([36, 41, 42, 43, 44, 45, 46, 47, 56, 57] : List Nat)) : cs_147 a1 a2 μ k = μ k := by
  simp only [List.mem_cons, List.not_mem_nil, or_false, not_or] at h
  unfold cs_147
  repeat' split
  all_goals simp [tm_wr_ne, tm_cb_ne, h, fr_147_14]
theorem fr_150_4  (k : Nat) (h : k ∉ ([36, 59, 60, 61] : List Nat)) : ∀ (n : Nat) (v1 : Int32) (v2 : Int32) (μ : tm_M), cs_150_4  n v1 v2 μ k = μ k := by
  simp only [List.mem_cons, List.not_mem_nil, or_false, not_or] at h
  intro n
  induction n with
  | zero => intros; rfl
  | succ n ih =>
    intros
    unfold cs_150_4
    repeat' split
    all_goals simp [ih, tm_wr_ne, tm_cb_ne, h]
theorem fr_150 (μ : tm_M) (k : Nat) (h : k ∉ ([36, 59, 60, 61] : List Nat)) : cs_150 μ k = μ k := by
  simp only [List.mem_cons, List.not_mem_nil, or_false, not_or] at h
  unfold cs_150
  repeat' split
  all_goals simp [tm_wr_ne, tm_cb_ne, h, fr_150_4]
theorem fr_151 (a1 : Int32) (a2 : Int32) (a3 : Int32) (μ : tm_M) (k : Nat) (h : k ∉ ([36, 54, 55, 59, 60, 61] : List Nat)) : cs_151 a1 a2 a3 μ k = μ k := by
  simp only [List.mem_cons, List.not_mem_nil, or_false, not_or] at h
  unfold cs_151
  repeat' split
  all_goals simp [tm_wr_ne, tm_cb_ne, h, fr_150]
theorem fr_148 (a1 : Int32) (a2 : Int32) (a3 : Int32) (μ : tm_M) (k : Nat) (h : k ∉ ([36, 41, 42, 43, 44, 45, 46, 47, 54, 55, 57, 59, 60, 61] : List Nat)) : cs_148 a1 a2 a3 μ k = μ k := by
  simp only [List.mem_cons, List.not_mem_nil, or_false, not_or] at h
  unfold cs_148
  repeat' split
  all_goals simp [tm_wr_ne, tm_cb_ne, h, fr_135, fr_151]
theorem fr_152_96 (a1 : Int32) (k : Nat) (h : k ∉ ([46, 48, 64, 65, 66] : List Nat)) : ∀ (n : Nat) (v1 : Int32) (v2 : Int32) (v3 : Int32) (v4 : Int32) (v5 : Int32) (μ : tm_M), cs_152_96 a1 n v1 v2 v3 v4 v5 μ k = μ k := by
  simp only [List.mem_cons, List.not_mem_nil, or_false, not_or] at h
  intro n
  induction n with
  | zero => intros; rfl
  | succ n ih =>
    intros
    unfold cs_152_96
    repeat' split
    all_goals simp [ih, tm_wr_ne, tm_cb_ne, h]
theorem fr_152 (a1 : Int32) (μ : tm_M) (k : Nat) (h : k ∉ ([36, 41, 42, 43, 44, 45, 46, 47, 48, 64, 65, 66] : List Nat)) : cs_152 a1 μ k = μ k := by
  simp only [List.mem_cons, List.not_mem_nil, or_false, not_or] at h
  unfold cs_152
  repeat' split
  all_goals simp [tm_wr_ne, tm_cb_ne, h, fr_135, fr_152_96]
theorem fr_146 (a1 : Int32) (a2 : Int32) (a3 : Int32) (a4 : Int32) (a5 : Int32) (μ : tm_M) (k : Nat) (h : k ∉ ([36, 41, 42, 43, 44, 45, 46, 47, 48, 54, 55, 56, 57, 58, 59, 60, 61, 62, 63, 64, 65, 66] : List Nat)) : cs_146 a1 a2 a3 a4 a5 μ k = μ k := by
  simp only [List.mem_cons, List.not_mem_nil, or_false, not_or] at h
  unfold cs_146
  repeat' split
  all_goals simp [tm_wr_ne, tm_cb_ne, h, fr_135, fr_147, fr_148, fr_152]
theorem fr_163_10 (a1 : Int32) (a2 : Int32) (k : Nat) (h : k ∉ ([36, 41, 42, 43, 44, 45, 46, 47] : List Nat)) : ∀ (n : Nat) (v1 : Int32) (v2 : Int32) (μ : tm_M), cs_163_10 a1 a2 n v1 v2 μ k = μ k := by
  simp only [List.mem_cons, List.not_mem_nil, or_false, not_or] at h
  intro n
  induction n with
  | zero => intros; rfl
  | succ n ih =>
    intros
    unfold cs_163_10
    repeat' split
    all_goals simp [ih, tm_wr_ne, tm_cb_ne, h, fr_135]
theorem fr_163 (a1 : Int32) (a2 : Int32) (μ : tm_M) (k : Nat) (h : k ∉ ([36, 41, 42, 43, 44, 45, 46, 47] : List Nat)) : cs_163 a1 a2 μ k = μ k := by
  simp only [List.mem_cons, List.not_mem_nil, or_false, not_or] at h
  unfold cs_163
  repeat' split
  all_goals simp [tm_wr_ne, tm_cb_ne, h, fr_163_10]
theorem fr_157 (a1 : Int32) (μ : tm_M) (k : Nat) (h : k ∉ ([36, 70] : List Nat)) : cs_157 a1 μ k = μ k := by
  simp only [List.mem_cons, List.not_mem_nil, or_false, not_or] at h
  unfold cs_157
  repeat' split
  all_goals simp [tm_wr_ne, tm_cb_ne, h]
theorem fr_158 (a1 : Int32) (μ : tm_M) (k : Nat) (h : k ∉ ([36, 41, 42, 43, 44, 45, 46, 47, 68, 69, 70, 73, 74, 76] : List Nat)) : cs_158 a1 μ k = μ k := by
  simp only [List.mem_cons, List.not_mem_nil, or_false, not_or] at h
  unfold cs_158
  repeat' split
  all_goals simp [tm_wr_ne, tm_cb_ne, h, fr_135, fr_157]
theorem fr_159 (a1 : Int32) (μ : tm_M) (k : Nat) (h : k ∉ ([36, 41, 42, 43, 44, 45, 46, 47, 70, 71, 73] : List Nat)) : cs_159 a1 μ k = μ k := by
  simp only [List.mem_cons, List.not_mem_nil, or_false, not_or] at h
  unfold cs_159
  repeat' split
  all_goals simp [tm_wr_ne, tm_cb_ne, h, fr_135, fr_157]
theorem fr_160 (a1 : Int32) (a2 : Int32) (μ : tm_M) (k : Nat) (h : k ∉ ([68, 69, 76] : List Nat)) : cs_160 a1 a2 μ k = μ k := by
  simp only [List.mem_cons, List.not_mem_nil, or_false, not_or] at h
  unfold cs_160
  repeat' split
  all_goals simp [tm_wr_ne, tm_cb_ne, h]
theorem fr_165 (a1 : Int32) (μ : tm_M) (k : Nat) (h : k ∉ ([36, 41, 42, 43, 44, 45, 46, 47, 68, 69, 70, 73, 74, 75, 76] : List Nat)) : cs_165 a1 μ k = μ k := by
  simp only [List.mem_cons, List.not_mem_nil, or_false, not_or] at h
  unfold cs_165
  repeat' split
  all_goals simp [tm_wr_ne, tm_cb_ne, h, fr_135, fr_158, fr_160]
theorem fr_161 (a1 : Int32) (a2 : Int32) (μ : tm_M) (k : Nat) (h : k ∉ ([36, 41, 42, 43, 44, 45, 46, 47, 76, 77, 78, 79, 80, 81, 82] : List Nat)) : cs_161 a1 a2 μ k = μ k := by
  simp only [List.mem_cons, List.not_mem_nil, or_false, not_or] at h
  unfold cs_161
  repeat' split
  all_goals simp [tm_wr_ne, tm_cb_ne, h, fr_135]
theorem fr_166_148 (a1 : Int32) (a2 : Int32) (a3 : Int32) (a4 : Int32) (k : Nat) (h : k ∉ ([36, 41, 42, 43, 44, 45, 46, 47, 76, 77, 78, 79, 80, 81, 82] : List Nat)) : ∀ (n : Nat) (v1 : Int32) (v2 : Int32) (v3 : Int32) (μ : tm_M), cs_166_148 a1 a2 a3 a4 n v1 v2 v3 μ k = μ k := by
  simp only [List.mem_cons, List.not_mem_nil, or_false, not_or] at h
  intro n
  induction n with
  | zero => intros; rfl
  | succ n ih =>
    intros
    unfold cs_166_148
    repeat' split
    all_goals simp [ih, tm_wr_ne, tm_cb_ne, h, fr_161]
theorem fr_166_3 (a1 : Int32) (a2 : Int32) (a3 : Int32) (a4 : Int32) (k : Nat) (h : k ∉ ([36, 41, 42, 43, 44, 45, 46, 47, 76, 77, 78, 79, 80, 81, 82, 83] : List Nat)) : ∀ (n : Nat) (v1 : Int32) (μ : tm_M), cs_166_3 a1 a2 a3 a4 n v1 μ k = μ k := by
  simp only [List.mem_cons, List.not_mem_nil, or_false, not_or] at h
  intro n
  induction n with
  | zero => intros; rfl
  | succ n ih =>
    intros
    unfold cs_166_3
    repeat' split
    all_goals simp [ih, tm_wr_ne, tm_cb_ne, h, fr_135, fr_166_148]
theorem fr_166 (a1 : Int32) (a2 : Int32) (a3 : Int32) (a4 : Int32) (μ : tm_M) (k : Nat) (h : k ∉ ([36, 41, 42, 43, 44, 45, 46, 47, 76, 77, 78, 79, 80, 81, 82, 83] : List Nat)) : cs_166 a1 a2 a3 a4 μ k = μ k := by
  simp only [List.mem_cons, List.not_mem_nil, or_false, not_or] at h
  unfold cs_166
  repeat' split
  all_goals simp [tm_wr_ne, tm_cb_ne, h, fr_166_3]
theorem fr_164 (a1 : Int32) (a2 : Int32) (a3 : Int32) (a4 : Int32) (a5 : Int32) (a6 : Int32) (μ : tm_M) (k : Nat) (h : k ∉ ([36, 41, 42, 43, 44, 45, 46, 47, 68, 69, 70, 71, 72, 73, 74, 75, 76, 77, 78, 79, 80, 81, 82, 83] : List Nat)) : cs_164 a1 a2 a3 a4 a5 a6 μ k = μ k := by
  simp only [List.mem_cons, List.not_mem_nil, or_false, not_or] at h
  unfold cs_164
  repeat' split
  all_goals simp [tm_wr_ne, tm_cb_ne, h, fr_135, fr_158, fr_159, fr_165, fr_166]
theorem fr_139_169 (a1 : Int32) (k : Nat) (h : k ∉ ([36, 41, 42, 43, 44, 45, 46, 47, 48, 54, 55, 56, 57, 58, 59, 60, 61, 62, 63, 64, 65, 66, 68, 69, 70, 71, 72, 73, 74, 75, 76, 77, 78, 79, 80, 81, 82, 83, 84] : List Nat)) : ∀ (n : Nat) (v1 : Int32) (v2 : Int32) (v3 : Int32) (v4 : Int32) (v5 : Int32) (v6 : Int32) (v7 : Int32) (v8 : Int32) (v9 : Int32) (μ : tm_M), cs_139_169 a1 n v1 v2 v3 v4 v5 v6 v7 v8 v9 μ k = μ k := by
  simp only [List.mem_cons, List.not_mem_nil, or_false, not_or] at h
  intro n
  induction n with
  | zero => intros; rfl
  | succ n ih =>
    intros
    unfold cs_139_169
    repeat' split
    all_goals simp [ih, tm_wr_ne, tm_cb_ne, h, fr_146, fr_163, fr_164]
theorem fr_139_120 (a1 : Int32) (k : Nat) (h : k ∉ ([36, 41, 42, 43, 44, 45, 46, 47, 48, 54, 55, 56, 57, 58, 59, 60, 61, 62, 63, 64, 65, 66, 68, 69, 70, 71, 72, 73, 74, 75, 76, 77, 78, 79, 80, 81, 82, 83, 84, 85] : List Nat)) : ∀ (n : Nat) (v1 : Int32) (v2 : Int32) (v3 : Int32) (v4 : Int32) (v5 : Int32) (v6 : Int32) (v7 : Int32) (v8 : Int32) (v9 : Int32) (μ : tm_M), cs_139_120 a1 n v1 v2 v3 v4 v5 v6 v7 v8 v9 μ k = μ k := by
  simp only [List.mem_cons, List.not_mem_nil, or_false, not_or] at h
  intro n
  induction n with
  | zero => intros; rfl
  | succ n ih =>
    intros
    unfold cs_139_120
    repeat' split
    all_goals simp [ih, tm_wr_ne, tm_cb_ne, h, fr_139_169, fr_140]
