/-! Which kinds a function leaves. Written by prog/gen_fr.py. -/
theorem fr_34 (μ : tm_M) (k : Nat) (h : k ∉ ([1] : List Nat)) : cs_34 μ k = μ k := by
  simp only [List.mem_cons, List.not_mem_nil, or_false, not_or] at h
  unfold cs_34
  repeat' split
  all_goals simp [tm_wr_ne, tm_cb_ne, h]
theorem fr_27 (a1 : Int32) (a2 : Int32) (a3 : Int32) (μ : tm_M) (k : Nat) (h : k ∉ ([23, 24] : List Nat)) : cs_27 a1 a2 a3 μ k = μ k := by
  simp only [List.mem_cons, List.not_mem_nil, or_false, not_or] at h
  unfold cs_27
  repeat' split
  all_goals simp [tm_wr_ne, tm_cb_ne, h]
theorem fr_29 (a1 : Int32) (μ : tm_M) (k : Nat) (h : k ∉ ([26] : List Nat)) : cs_29 a1 μ k = μ k := by
  simp only [List.mem_cons, List.not_mem_nil, or_false, not_or] at h
  unfold cs_29
  repeat' split
  all_goals simp [tm_wr_ne, tm_cb_ne, h]
theorem fr_30 (a1 : Int32) (a2 : Int32) (μ : tm_M) (k : Nat) (h : k ∉ ([27] : List Nat)) : cs_30 a1 a2 μ k = μ k := by
  simp only [List.mem_cons, List.not_mem_nil, or_false, not_or] at h
  unfold cs_30
  repeat' split
  all_goals simp [tm_wr_ne, tm_cb_ne, h]
theorem fr_39 (a1 : Int32) (a2 : Int32) (a3 : Int32) (μ : tm_M) (k : Nat) (h : k ∉ ([7, 8] : List Nat)) : cs_39 a1 a2 a3 μ k = μ k := by
  simp only [List.mem_cons, List.not_mem_nil, or_false, not_or] at h
  unfold cs_39
  repeat' split
  all_goals simp [tm_wr_ne, tm_cb_ne, h]
theorem fr_40 (a1 : Int32) (μ : tm_M) (k : Nat) (h : k ∉ ([6, 9] : List Nat)) : cs_40 a1 μ k = μ k := by
  simp only [List.mem_cons, List.not_mem_nil, or_false, not_or] at h
  unfold cs_40
  repeat' split
  all_goals simp [tm_wr_ne, tm_cb_ne, h]
theorem fr_44 (a1 : Int32) (a2 : Int32) (μ : tm_M) (k : Nat) (h : k ∉ ([11] : List Nat)) : cs_44 a1 a2 μ k = μ k := by
  simp only [List.mem_cons, List.not_mem_nil, or_false, not_or] at h
  unfold cs_44
  repeat' split
  all_goals simp [tm_wr_ne, tm_cb_ne, h]
theorem fr_57 (a1 : Int32) (a2 : Int32) (a3 : Int32) (μ : tm_M) (k : Nat) (h : k ∉ ([12, 16, 17, 18] : List Nat)) : cs_57 a1 a2 a3 μ k = μ k := by
  simp only [List.mem_cons, List.not_mem_nil, or_false, not_or] at h
  unfold cs_57
  repeat' split
  all_goals simp [tm_wr_ne, tm_cb_ne, h]
theorem fr_60 (i : Nat) (μ : tm_M) (k : Nat) (h : k ∉ ([34] : List Nat)) : cs_60 i μ k = μ k := by
  simp only [List.mem_cons, List.not_mem_nil, or_false, not_or] at h
  unfold cs_60
  repeat' split
  all_goals simp [tm_wr_ne, tm_cb_ne, h]
theorem fr_62 (i : Nat) (μ : tm_M) (k : Nat) (h : k ∉ ([34] : List Nat)) : cs_62 i μ k = μ k := by
  simp only [List.mem_cons, List.not_mem_nil, or_false, not_or] at h
  unfold cs_62
  repeat' split
  all_goals simp [tm_wr_ne, tm_cb_ne, h]
theorem fr_72 (i : Nat) (μ : tm_M) (k : Nat) (h : k ∉ ([34] : List Nat)) : cs_72 i μ k = μ k := by
  simp only [List.mem_cons, List.not_mem_nil, or_false, not_or] at h
  unfold cs_72
  repeat' split
  all_goals simp [tm_wr_ne, tm_cb_ne, h]
theorem fr_106 (i : Nat) (a1 : Int32) (μ : tm_M) (k : Nat) (h : k ∉ ([33, 34] : List Nat)) : cs_106 i a1 μ k = μ k := by
  simp only [List.mem_cons, List.not_mem_nil, or_false, not_or] at h
  unfold cs_106
  repeat' split
  all_goals simp [tm_wr_ne, tm_cb_ne, h]
theorem fr_74k14 (i : Nat) (m1 : Nat) (a2 : Int32) (a3 : Int32) (μ : tm_M) (k : Nat) (h : k ∉ ([4, 5] : List Nat)) : cs_74k14 i m1 a2 a3 μ k = μ k := by
  simp only [List.mem_cons, List.not_mem_nil, or_false, not_or] at h
  unfold cs_74k14
  repeat' split
  all_goals simp [tm_wr_ne, tm_cb_ne, h]
theorem fr_74k5 (i : Nat) (m1 : Nat) (a2 : Int32) (a3 : Int32) (μ : tm_M) (k : Nat) (h : k ∉ ([4, 5] : List Nat)) : cs_74k5 i m1 a2 a3 μ k = μ k := by
  simp only [List.mem_cons, List.not_mem_nil, or_false, not_or] at h
  unfold cs_74k5
  repeat' split
  all_goals simp [tm_wr_ne, tm_cb_ne, h]
theorem fr_174k24_5 (m1 : Nat) (a2 : Int32) (k : Nat) (h : k ∉ ([24] : List Nat)) : ∀ (n : Nat) (v1 : Int32) (v2 : Int32) (μ : tm_M), cs_174k24_5 m1 a2 n v1 v2 μ k = μ k := by
  simp only [List.mem_cons, List.not_mem_nil, or_false, not_or] at h
  intro n
  induction n with
  | zero => intros; rfl
  | succ n ih =>
    intros
    unfold cs_174k24_5
    repeat' split
    all_goals simp [ih, tm_wr_ne, tm_cb_ne, h]
theorem fr_174k24 (m1 : Nat) (a2 : Int32) (μ : tm_M) (k : Nat) (h : k ∉ ([24] : List Nat)) : cs_174k24 m1 a2 μ k = μ k := by
  simp only [List.mem_cons, List.not_mem_nil, or_false, not_or] at h
  unfold cs_174k24
  repeat' split
  all_goals simp [tm_wr_ne, tm_cb_ne, h, fr_174k24_5]
theorem fr_174k26_5 (m1 : Nat) (a2 : Int32) (k : Nat) (h : k ∉ ([26] : List Nat)) : ∀ (n : Nat) (v1 : Int32) (v2 : Int32) (μ : tm_M), cs_174k26_5 m1 a2 n v1 v2 μ k = μ k := by
  simp only [List.mem_cons, List.not_mem_nil, or_false, not_or] at h
  intro n
  induction n with
  | zero => intros; rfl
  | succ n ih =>
    intros
    unfold cs_174k26_5
    repeat' split
    all_goals simp [ih, tm_wr_ne, tm_cb_ne, h]
theorem fr_174k26 (m1 : Nat) (a2 : Int32) (μ : tm_M) (k : Nat) (h : k ∉ ([26] : List Nat)) : cs_174k26 m1 a2 μ k = μ k := by
  simp only [List.mem_cons, List.not_mem_nil, or_false, not_or] at h
  unfold cs_174k26
  repeat' split
  all_goals simp [tm_wr_ne, tm_cb_ne, h, fr_174k26_5]
theorem fr_174k27_5 (m1 : Nat) (a2 : Int32) (k : Nat) (h : k ∉ ([27] : List Nat)) : ∀ (n : Nat) (v1 : Int32) (v2 : Int32) (μ : tm_M), cs_174k27_5 m1 a2 n v1 v2 μ k = μ k := by
  simp only [List.mem_cons, List.not_mem_nil, or_false, not_or] at h
  intro n
  induction n with
  | zero => intros; rfl
  | succ n ih =>
    intros
    unfold cs_174k27_5
    repeat' split
    all_goals simp [ih, tm_wr_ne, tm_cb_ne, h]
theorem fr_174k27 (m1 : Nat) (a2 : Int32) (μ : tm_M) (k : Nat) (h : k ∉ ([27] : List Nat)) : cs_174k27 m1 a2 μ k = μ k := by
  simp only [List.mem_cons, List.not_mem_nil, or_false, not_or] at h
  unfold cs_174k27
  repeat' split
  all_goals simp [tm_wr_ne, tm_cb_ne, h, fr_174k27_5]
theorem fr_1 (a1 : Int32) (a2 : Int32) (a3 : Int32) (μ : tm_M) (k : Nat) (h : k ∉ ([7, 8] : List Nat)) : cs_1 a1 a2 a3 μ k = μ k := by
  simp only [List.mem_cons, List.not_mem_nil, or_false, not_or] at h
  unfold cs_1
  repeat' split
  all_goals simp [tm_wr_ne, tm_cb_ne, h, fr_39]
theorem fr_2 (a1 : Int32) (μ : tm_M) (k : Nat) (h : k ∉ ([6, 9] : List Nat)) : cs_2 a1 μ k = μ k := by
  simp only [List.mem_cons, List.not_mem_nil, or_false, not_or] at h
  unfold cs_2
  repeat' split
  all_goals simp [tm_wr_ne, tm_cb_ne, h, fr_40]
theorem fr_41 (a1 : Int32) (a2 : Int32) (μ : tm_M) (k : Nat) (h : k ∉ ([10] : List Nat)) : cs_41 a1 a2 μ k = μ k := by
  simp only [List.mem_cons, List.not_mem_nil, or_false, not_or] at h
  unfold cs_41
  repeat' split
  all_goals simp [tm_wr_ne, tm_cb_ne, h]
theorem fr_3 (a1 : Int32) (a2 : Int32) (μ : tm_M) (k : Nat) (h : k ∉ ([10] : List Nat)) : cs_3 a1 a2 μ k = μ k := by
  simp only [List.mem_cons, List.not_mem_nil, or_false, not_or] at h
  unfold cs_3
  repeat' split
  all_goals simp [tm_wr_ne, tm_cb_ne, h, fr_41]
theorem fr_4 (a1 : Int32) (a2 : Int32) (μ : tm_M) (k : Nat) (h : k ∉ ([11] : List Nat)) : cs_4 a1 a2 μ k = μ k := by
  simp only [List.mem_cons, List.not_mem_nil, or_false, not_or] at h
  unfold cs_4
  repeat' split
  all_goals simp [tm_wr_ne, tm_cb_ne, h, fr_44]
theorem fr_53 (a1 : Int32) (a2 : Int32) (μ : tm_M) (k : Nat) (h : k ∉ ([14, 15] : List Nat)) : cs_53 a1 a2 μ k = μ k := by
  simp only [List.mem_cons, List.not_mem_nil, or_false, not_or] at h
  unfold cs_53
  repeat' split
  all_goals simp [tm_wr_ne, tm_cb_ne, h]
theorem fr_5 (a1 : Int32) (a2 : Int32) (μ : tm_M) (k : Nat) (h : k ∉ ([14, 15] : List Nat)) : cs_5 a1 a2 μ k = μ k := by
  simp only [List.mem_cons, List.not_mem_nil, or_false, not_or] at h
  unfold cs_5
  repeat' split
  all_goals simp [tm_wr_ne, tm_cb_ne, h, fr_53]
theorem fr_6 (a1 : Int32) (a2 : Int32) (a3 : Int32) (μ : tm_M) (k : Nat) (h : k ∉ ([12, 16, 17, 18] : List Nat)) : cs_6 a1 a2 a3 μ k = μ k := by
  simp only [List.mem_cons, List.not_mem_nil, or_false, not_or] at h
  unfold cs_6
  repeat' split
  all_goals simp [tm_wr_ne, tm_cb_ne, h, fr_57]
theorem fr_117 (a1 : Int32) (a2 : Int32) (a3 : Int32) (a4 : Int32) (a5 : Int32) (a6 : Int32) (μ : tm_M) (k : Nat) (h : k ∉ ([2, 4] : List Nat)) : cs_117 a1 a2 a3 a4 a5 a6 μ k = μ k := by
  simp only [List.mem_cons, List.not_mem_nil, or_false, not_or] at h
  unfold cs_117
  repeat' split
  all_goals simp [tm_wr_ne, tm_cb_ne, h]
theorem fr_104 (i : Nat) (μ : tm_M) (k : Nat) (h : k ∉ ([2, 4, 33] : List Nat)) : cs_104 i μ k = μ k := by
  simp only [List.mem_cons, List.not_mem_nil, or_false, not_or] at h
  unfold cs_104
  repeat' split
  all_goals simp [tm_wr_ne, tm_cb_ne, h, fr_117]
theorem fr_103 (i : Nat) (μ : tm_M) (k : Nat) (h : k ∉ ([1, 2, 4, 33, 34] : List Nat)) : cs_103 i μ k = μ k := by
  simp only [List.mem_cons, List.not_mem_nil, or_false, not_or] at h
  unfold cs_103
  repeat' split
  all_goals simp [tm_wr_ne, tm_cb_ne, h, fr_104, fr_34, fr_62]
theorem fr_99 (i : Nat) (μ : tm_M) (k : Nat) (h : k ∉ ([1, 2, 4, 33, 34] : List Nat)) : cs_99 i μ k = μ k := by
  simp only [List.mem_cons, List.not_mem_nil, or_false, not_or] at h
  unfold cs_99
  repeat' split
  all_goals simp [tm_wr_ne, tm_cb_ne, h, fr_103, fr_60]
theorem fr_8 (a1 : Int32) (μ : tm_M) (k : Nat) (h : k ∉ ([1, 2, 4, 33, 34] : List Nat)) : cs_8 a1 μ k = μ k := by
  simp only [List.mem_cons, List.not_mem_nil, or_false, not_or] at h
  unfold cs_8
  repeat' split
  all_goals simp [tm_wr_ne, tm_cb_ne, h, fr_99]
theorem fr_19 (m1 : Nat) (μ : tm_M) (k : Nat) (h : k ∉ ([2, 4] : List Nat)) : cs_19 m1 μ k = μ k := by
  simp only [List.mem_cons, List.not_mem_nil, or_false, not_or] at h
  unfold cs_19
  repeat' split
  all_goals simp [tm_wr_ne, tm_cb_ne, h, fr_117]
theorem fr_28_3 (a1 : Int32) (a2 : Int32) (a3 : Int32) (k : Nat) (h : k ∉ ([25, 26] : List Nat)) : ∀ (n : Nat) (v1 : Int32) (μ : tm_M), cs_28_3 a1 a2 a3 n v1 μ k = μ k := by
  simp only [List.mem_cons, List.not_mem_nil, or_false, not_or] at h
  intro n
  induction n with
  | zero => intros; rfl
  | succ n ih =>
    intros
    unfold cs_28_3
    repeat' split
    all_goals simp [ih, tm_wr_ne, tm_cb_ne, h]
theorem fr_28 (a1 : Int32) (a2 : Int32) (a3 : Int32) (μ : tm_M) (k : Nat) (h : k ∉ ([25, 26] : List Nat)) : cs_28 a1 a2 a3 μ k = μ k := by
  simp only [List.mem_cons, List.not_mem_nil, or_false, not_or] at h
  unfold cs_28
  repeat' split
  all_goals simp [tm_wr_ne, tm_cb_ne, h, fr_28_3]
theorem fr_96 (a1 : Int32) (a2 : Int32) (a3 : Int32) (a4 : Int32) (a5 : Int32) (μ : tm_M) (k : Nat) (h : k ∉ ([2, 4] : List Nat)) : cs_96 a1 a2 a3 a4 a5 μ k = μ k := by
  simp only [List.mem_cons, List.not_mem_nil, or_false, not_or] at h
  unfold cs_96
  repeat' split
  all_goals simp [tm_wr_ne, tm_cb_ne, h, fr_117]
theorem fr_85 (m1 : Nat) (μ : tm_M) (k : Nat) (h : k ∉ ([2, 4, 25, 26] : List Nat)) : cs_85 m1 μ k = μ k := by
  simp only [List.mem_cons, List.not_mem_nil, or_false, not_or] at h
  unfold cs_85
  repeat' split
  all_goals simp [tm_wr_ne, tm_cb_ne, h, fr_28, fr_96]
theorem fr_79_4 (a1 : Int32) (k : Nat) (h : k ∉ ([28, 29, 30, 31] : List Nat)) : ∀ (n : Nat) (v1 : Int32) (v2 : Int32) (μ : tm_M), cs_79_4 a1 n v1 v2 μ k = μ k := by
  simp only [List.mem_cons, List.not_mem_nil, or_false, not_or] at h
  intro n
  induction n with
  | zero => intros; rfl
  | succ n ih =>
    intros
    unfold cs_79_4
    repeat' split
    all_goals simp [ih, tm_wr_ne, tm_cb_ne, h]
theorem fr_79 (a1 : Int32) (μ : tm_M) (k : Nat) (h : k ∉ ([28, 29, 30, 31] : List Nat)) : cs_79 a1 μ k = μ k := by
  simp only [List.mem_cons, List.not_mem_nil, or_false, not_or] at h
  unfold cs_79
  repeat' split
  all_goals simp [tm_wr_ne, tm_cb_ne, h, fr_79_4]
theorem fr_78 (a1 : Int32) (a2 : Int32) (a3 : Int32) (a4 : Int32) (μ : tm_M) (k : Nat) (h : k ∉ ([28, 29, 30, 31] : List Nat)) : cs_78 a1 a2 a3 a4 μ k = μ k := by
  simp only [List.mem_cons, List.not_mem_nil, or_false, not_or] at h
  unfold cs_78
  repeat' split
  all_goals simp [tm_wr_ne, tm_cb_ne, h, fr_79]
theorem fr_91 (a1 : Int32) (a2 : Int32) (μ : tm_M) (k : Nat) (h : k ∉ ([23, 24, 28, 29, 30, 31] : List Nat)) : cs_91 a1 a2 μ k = μ k := by
  simp only [List.mem_cons, List.not_mem_nil, or_false, not_or] at h
  unfold cs_91
  repeat' split
  all_goals simp [tm_wr_ne, tm_cb_ne, h, fr_27, fr_78]
theorem fr_89 (m1 : Nat) (μ : tm_M) (k : Nat) (h : k ∉ ([2, 4, 23, 24, 26, 28, 29, 30, 31] : List Nat)) : cs_89 m1 μ k = μ k := by
  simp only [List.mem_cons, List.not_mem_nil, or_false, not_or] at h
  unfold cs_89
  repeat' split
  all_goals simp [tm_wr_ne, tm_cb_ne, h, fr_29, fr_91, fr_96]
theorem fr_92 (m1 : Nat) (μ : tm_M) (k : Nat) (h : k ∉ ([27] : List Nat)) : cs_92 m1 μ k = μ k := by
  simp only [List.mem_cons, List.not_mem_nil, or_false, not_or] at h
  unfold cs_92
  repeat' split
  all_goals simp [tm_wr_ne, tm_cb_ne, h, fr_30]
theorem fr_56 (a1 : Int32) (a2 : Int32) (a3 : Int32) (m4 : Nat) (μ : tm_M) (k : Nat) (h : k ∉ ([4, 5] : List Nat)) : cs_56 a1 a2 a3 m4 μ k = μ k := by
  simp only [List.mem_cons, List.not_mem_nil, or_false, not_or] at h
  unfold cs_56
  repeat' split
  all_goals simp [tm_wr_ne, tm_cb_ne, h, fr_74k14]
theorem fr_95 (a1 : Int32) (m2 : Nat) (μ : tm_M) (k : Nat) (h : k ∉ ([2, 4, 5, 21] : List Nat)) : cs_95 a1 m2 μ k = μ k := by
  simp only [List.mem_cons, List.not_mem_nil, or_false, not_or] at h
  unfold cs_95
  repeat' split
  all_goals simp [tm_wr_ne, tm_cb_ne, h, fr_56, fr_96]
theorem fr_93 (m1 : Nat) (μ : tm_M) (k : Nat) (h : k ∉ ([2, 4, 5, 21] : List Nat)) : cs_93 m1 μ k = μ k := by
  simp only [List.mem_cons, List.not_mem_nil, or_false, not_or] at h
  unfold cs_93
  repeat' split
  all_goals simp [tm_wr_ne, tm_cb_ne, h, fr_95, fr_96]
theorem fr_94 (m1 : Nat) (μ : tm_M) (k : Nat) (h : k ∉ ([2, 4, 5, 21] : List Nat)) : cs_94 m1 μ k = μ k := by
  simp only [List.mem_cons, List.not_mem_nil, or_false, not_or] at h
  unfold cs_94
  repeat' split
  all_goals simp [tm_wr_ne, tm_cb_ne, h, fr_95]
theorem fr_82 (m1 : Nat) (μ : tm_M) (k : Nat) (h : k ∉ ([2, 4, 5, 21, 23, 24, 25, 26, 27, 28, 29, 30, 31] : List Nat)) : cs_82 m1 μ k = μ k := by
  simp only [List.mem_cons, List.not_mem_nil, or_false, not_or] at h
  unfold cs_82
  repeat' split
  all_goals simp [tm_wr_ne, tm_cb_ne, h, fr_85, fr_89, fr_92, fr_93, fr_94]
theorem fr_71 (i : Nat) (μ : tm_M) (k : Nat) (h : k ∉ ([2, 4] : List Nat)) : cs_71 i μ k = μ k := by
  simp only [List.mem_cons, List.not_mem_nil, or_false, not_or] at h
  unfold cs_71
  repeat' split
  all_goals simp [tm_wr_ne, tm_cb_ne, h, fr_117]
theorem fr_61 (i : Nat) (a1 : Int32) (μ : tm_M) (k : Nat) (h : k ∉ ([2, 4, 34] : List Nat)) : cs_61 i a1 μ k = μ k := by
  simp only [List.mem_cons, List.not_mem_nil, or_false, not_or] at h
  unfold cs_61
  repeat' split
  all_goals simp [tm_wr_ne, tm_cb_ne, h, fr_71, fr_72]
theorem fr_70_2 (i : Nat) (m1 : Nat) (k : Nat) (h : k ∉ ([34, 35] : List Nat)) : ∀ (n : Nat) (v1 : Int32) (μ : tm_M), cs_70_2 i m1 n v1 μ k = μ k := by
  simp only [List.mem_cons, List.not_mem_nil, or_false, not_or] at h
  intro n
  induction n with
  | zero => intros; rfl
  | succ n ih =>
    intros
    unfold cs_70_2
    repeat' split
    all_goals simp [ih, tm_wr_ne, tm_cb_ne, h]
theorem fr_70 (i : Nat) (m1 : Nat) (μ : tm_M) (k : Nat) (h : k ∉ ([34, 35] : List Nat)) : cs_70 i m1 μ k = μ k := by
  simp only [List.mem_cons, List.not_mem_nil, or_false, not_or] at h
  unfold cs_70
  repeat' split
  all_goals simp [tm_wr_ne, tm_cb_ne, h, fr_70_2]
theorem fr_63 (i : Nat) (m1 : Nat) (μ : tm_M) (k : Nat) (h : k ∉ ([2, 4, 34, 35] : List Nat)) : cs_63 i m1 μ k = μ k := by
  simp only [List.mem_cons, List.not_mem_nil, or_false, not_or] at h
  unfold cs_63
  repeat' split
  all_goals simp [tm_wr_ne, tm_cb_ne, h, fr_117, fr_61, fr_70, fr_72]
theorem fr_64 (i : Nat) (m1 : Nat) (μ : tm_M) (k : Nat) (h : k ∉ ([34] : List Nat)) : cs_64 i m1 μ k = μ k := by
  simp only [List.mem_cons, List.not_mem_nil, or_false, not_or] at h
  unfold cs_64
  repeat' split
  all_goals simp [tm_wr_ne, tm_cb_ne, h]
theorem fr_105 (i : Nat) (μ : tm_M) (k : Nat) (h : k ∉ ([1, 2, 4, 33] : List Nat)) : cs_105 i μ k = μ k := by
  simp only [List.mem_cons, List.not_mem_nil, or_false, not_or] at h
  unfold cs_105
  repeat' split
  all_goals simp [tm_wr_ne, tm_cb_ne, h, fr_117, fr_34]
theorem fr_110 (i : Nat) (m1 : Nat) (μ : tm_M) (k : Nat) (h : k ∉ ([1, 2, 4, 33] : List Nat)) : cs_110 i m1 μ k = μ k := by
  simp only [List.mem_cons, List.not_mem_nil, or_false, not_or] at h
  unfold cs_110
  repeat' split
  all_goals simp [tm_wr_ne, tm_cb_ne, h, fr_105]
theorem fr_111 (i : Nat) (m1 : Nat) (μ : tm_M) (k : Nat) (h : k ∉ ([2, 4, 33] : List Nat)) : cs_111 i m1 μ k = μ k := by
  simp only [List.mem_cons, List.not_mem_nil, or_false, not_or] at h
  unfold cs_111
  repeat' split
  all_goals simp [tm_wr_ne, tm_cb_ne, h, fr_117]
theorem fr_112 (i : Nat) (m1 : Nat) (μ : tm_M) (k : Nat) (h : k ∉ ([1, 2, 4, 33, 34] : List Nat)) : cs_112 i m1 μ k = μ k := by
  simp only [List.mem_cons, List.not_mem_nil, or_false, not_or] at h
  unfold cs_112
  repeat' split
  all_goals simp [tm_wr_ne, tm_cb_ne, h, fr_103]
theorem fr_113 (i : Nat) (m1 : Nat) (μ : tm_M) (k : Nat) (h : k ∉ ([1, 2, 4, 33, 34] : List Nat)) : cs_113 i m1 μ k = μ k := by
  simp only [List.mem_cons, List.not_mem_nil, or_false, not_or] at h
  unfold cs_113
  repeat' split
  all_goals simp [tm_wr_ne, tm_cb_ne, h, fr_103, fr_106, fr_117]
