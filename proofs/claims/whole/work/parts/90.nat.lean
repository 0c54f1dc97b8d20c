/-! Small numbers as ints. -/
theorem tI_add {x y : Int32} (h1 : -2147483648 ≤ x.toInt + y.toInt) (h2 : x.toInt + y.toInt < 2147483648) : (x + y).toInt = x.toInt + y.toInt := by
  rw [Int32.toInt_add]; simp [Int.bmod]; omega
theorem tI_sub {x y : Int32} (h1 : -2147483648 ≤ x.toInt - y.toInt) (h2 : x.toInt - y.toInt < 2147483648) : (x - y).toInt = x.toInt - y.toInt := by
  rw [Int32.toInt_sub]; simp [Int.bmod]; omega
theorem tI_mul {x y : Int32} (h1 : -2147483648 ≤ x.toInt * y.toInt) (h2 : x.toInt * y.toInt < 2147483648) : (x * y).toInt = x.toInt * y.toInt := by
  rw [Int32.toInt_mul]
  generalize x.toInt * y.toInt = z at *
  simp [Int.bmod]; omega
theorem tI_le {x y : Int32} : x ≤ y ↔ x.toInt ≤ y.toInt := Int32.le_iff_toInt_le
theorem tI_lt {x y : Int32} : x < y ↔ x.toInt < y.toInt := Int32.lt_iff_toInt_lt
theorem tI_eq {x y : Int32} : x = y ↔ x.toInt = y.toInt := ⟨fun h => by rw [h], fun h => Int32.toInt_inj.mp h⟩
theorem tn_I (x : Int32) : x.toNatClampNeg = x.toInt.toNat := rfl
theorem tn_of {n : Nat} (h : n < 2147483648) : (Int32.ofNat n).toNatClampNeg = n := nI_clamp h
theorem tI_of {n : Nat} (h : n < 2147483648) : (Int32.ofNat n).toInt = (n : Int) := nI_toInt h
theorem tI_of1 (n : Nat) : Int32.ofNat n + 1 = Int32.ofNat (n + 1) := (nI_succ n).symm
theorem tn_b (x : Int32) : x.toNatClampNeg < 2147483648 := by
  have := Int32.toInt_lt x
  rw [tn_I]; omega
theorem tn_tn (x : Int32) : (Int32.ofNat x.toNatClampNeg).toNatClampNeg = x.toNatClampNeg := tn_of (tn_b x)
theorem of_tn {x : Int32} (h : 0 ≤ x) : Int32.ofNat x.toNatClampNeg = x := by
  rw [tI_eq, tI_of (tn_b x), tn_I]
  rw [tI_le] at h
  have : (0 : Int32).toInt = 0 := rfl
  omega
theorem tn_inj {x y : Int32} (h1 : 0 ≤ x) (h2 : 0 ≤ y) (h : x.toNatClampNeg = y.toNatClampNeg) : x = y := by
  rw [← of_tn h1, ← of_tn h2, h]
theorem tn_lt {x : Int32} {n : Nat} (hn : n < 2147483648) (h0 : 0 ≤ x) : x.toNatClampNeg < n ↔ x < Int32.ofNat n := by
  rw [tI_lt, tI_of hn, tn_I]
  rw [tI_le] at h0
  have : (0 : Int32).toInt = 0 := rfl
  omega
theorem tn_le {x y : Int32} (h0 : 0 ≤ x) (h1 : 0 ≤ y) : x.toNatClampNeg ≤ y.toNatClampNeg ↔ x ≤ y := by
  rw [tI_le, tn_I, tn_I]
  rw [tI_le] at h0 h1
  have : (0 : Int32).toInt = 0 := rfl
  omega
theorem ix_of {x : Int32} {n : Nat} (hn : n < 2147483648) : tm_ix x n = true ↔ 0 ≤ x ∧ x < Int32.ofNat n := by
  unfold tm_ix
  rw [decide_eq_true_eq, tI_lt, tI_le, tI_lt, tI_of hn, tn_I]
  have : (0 : Int32).toInt = 0 := rfl
  omega
theorem ix_n {i n : Nat} (hn : n < 2147483648) (h : i < n) : tm_ix (Int32.ofNat i) n = true := by
  rw [ix_of hn, tI_le, tI_lt, tI_of hn, tI_of (by omega)]
  have : (0 : Int32).toInt = 0 := rfl
  omega
theorem tn_add1 {x : Int32} (h0 : 0 ≤ x) (h1 : x < 100000) : (x + 1).toNatClampNeg = x.toNatClampNeg + 1 := by
  rw [tI_le] at h0
  rw [tI_lt] at h1
  have e0 : (0 : Int32).toInt = 0 := rfl
  have e1 : (1 : Int32).toInt = 1 := rfl
  have e2 : (100000 : Int32).toInt = 100000 := rfl
  rw [tn_I, tn_I, tI_add (by omega) (by omega)]
  omega
theorem tn_sub1 {x : Int32} (h0 : 1 ≤ x) : (x - 1).toNatClampNeg = x.toNatClampNeg - 1 := by
  rw [tI_le] at h0
  have e1 : (1 : Int32).toInt = 1 := rfl
  have := Int32.toInt_lt x
  rw [tn_I, tn_I, tI_sub (by omega) (by omega)]
  omega
theorem ix3 {x : Int32} : tm_ix x 3 = true ↔ 0 ≤ x ∧ x < 3 := ix_of (by decide)
theorem tn3 {x : Int32} (h0 : 0 ≤ x) (h : x < 3) : x.toNatClampNeg < 3 := (tn_lt (n := 3) (by decide) h0).mpr h
theorem ix4 {x : Int32} : tm_ix x 4 = true ↔ 0 ≤ x ∧ x < 4 := ix_of (by decide)
theorem tn4 {x : Int32} (h0 : 0 ≤ x) (h : x < 4) : x.toNatClampNeg < 4 := (tn_lt (n := 4) (by decide) h0).mpr h
theorem ix6 {x : Int32} : tm_ix x 6 = true ↔ 0 ≤ x ∧ x < 6 := ix_of (by decide)
theorem tn6 {x : Int32} (h0 : 0 ≤ x) (h : x < 6) : x.toNatClampNeg < 6 := (tn_lt (n := 6) (by decide) h0).mpr h
theorem ix12 {x : Int32} : tm_ix x 12 = true ↔ 0 ≤ x ∧ x < 12 := ix_of (by decide)
theorem tn12 {x : Int32} (h0 : 0 ≤ x) (h : x < 12) : x.toNatClampNeg < 12 := (tn_lt (n := 12) (by decide) h0).mpr h
theorem ix16 {x : Int32} : tm_ix x 16 = true ↔ 0 ≤ x ∧ x < 16 := ix_of (by decide)
theorem tn16 {x : Int32} (h0 : 0 ≤ x) (h : x < 16) : x.toNatClampNeg < 16 := (tn_lt (n := 16) (by decide) h0).mpr h
theorem ix30 {x : Int32} : tm_ix x 30 = true ↔ 0 ≤ x ∧ x < 30 := ix_of (by decide)
theorem tn30 {x : Int32} (h0 : 0 ≤ x) (h : x < 30) : x.toNatClampNeg < 30 := (tn_lt (n := 30) (by decide) h0).mpr h
theorem ix32 {x : Int32} : tm_ix x 32 = true ↔ 0 ≤ x ∧ x < 32 := ix_of (by decide)
theorem tn32 {x : Int32} (h0 : 0 ≤ x) (h : x < 32) : x.toNatClampNeg < 32 := (tn_lt (n := 32) (by decide) h0).mpr h
theorem ix40 {x : Int32} : tm_ix x 40 = true ↔ 0 ≤ x ∧ x < 40 := ix_of (by decide)
theorem tn40 {x : Int32} (h0 : 0 ≤ x) (h : x < 40) : x.toNatClampNeg < 40 := (tn_lt (n := 40) (by decide) h0).mpr h
theorem ix160 {x : Int32} : tm_ix x 160 = true ↔ 0 ≤ x ∧ x < 160 := ix_of (by decide)
theorem tn160 {x : Int32} (h0 : 0 ≤ x) (h : x < 160) : x.toNatClampNeg < 160 := (tn_lt (n := 160) (by decide) h0).mpr h
theorem ix172 {x : Int32} : tm_ix x 172 = true ↔ 0 ≤ x ∧ x < 172 := ix_of (by decide)
theorem tn172 {x : Int32} (h0 : 0 ≤ x) (h : x < 172) : x.toNatClampNeg < 172 := (tn_lt (n := 172) (by decide) h0).mpr h
theorem ix384 {x : Int32} : tm_ix x 384 = true ↔ 0 ≤ x ∧ x < 384 := ix_of (by decide)
theorem tn384 {x : Int32} (h0 : 0 ≤ x) (h : x < 384) : x.toNatClampNeg < 384 := (tn_lt (n := 384) (by decide) h0).mpr h
theorem ix1440 {x : Int32} : tm_ix x 1440 = true ↔ 0 ≤ x ∧ x < 1440 := ix_of (by decide)
theorem tn1440 {x : Int32} (h0 : 0 ≤ x) (h : x < 1440) : x.toNatClampNeg < 1440 := (tn_lt (n := 1440) (by decide) h0).mpr h
theorem tn_m10 {a l : Int32} (h1 : 0 ≤ a) (h2 : a < 3) (h3 : 0 ≤ l) (h4 : l < 10) : (10 * a + l).toNatClampNeg = 10 * a.toNatClampNeg + l.toNatClampNeg ∧ 0 ≤ 10 * a + l ∧ 10 * a + l < 30 := by
  rw [tI_le] at h1 h3
  rw [tI_lt] at h2 h4
  have e0 : (0 : Int32).toInt = 0 := rfl
  have e1 : (3 : Int32).toInt = 3 := rfl
  have e2 : (10 : Int32).toInt = 10 := rfl
  have e3 : (10 : Int32).toInt = 10 := rfl
  have e4 : (30 : Int32).toInt = 30 := rfl
  have m : (10 * a : Int32).toInt = 10 * a.toInt := by
    rw [tI_mul (by rw [e3]; omega) (by rw [e3]; omega), e3]
  have s : (10 * a + l : Int32).toInt = 10 * a.toInt + l.toInt := by
    rw [tI_add (by omega) (by omega), m]
  refine ⟨?_, ?_, ?_⟩
  · rw [tn_I, tn_I, tn_I, s]; omega
  · rw [tI_le, s, e0]; omega
  · rw [tI_lt, s, e4]; omega
theorem tn_m12 {a l : Int32} (h1 : 0 ≤ a) (h2 : a < 32) (h3 : 0 ≤ l) (h4 : l < 12) : (12 * a + l).toNatClampNeg = 12 * a.toNatClampNeg + l.toNatClampNeg ∧ 0 ≤ 12 * a + l ∧ 12 * a + l < 384 := by
  rw [tI_le] at h1 h3
  rw [tI_lt] at h2 h4
  have e0 : (0 : Int32).toInt = 0 := rfl
  have e1 : (32 : Int32).toInt = 32 := rfl
  have e2 : (12 : Int32).toInt = 12 := rfl
  have e3 : (12 : Int32).toInt = 12 := rfl
  have e4 : (384 : Int32).toInt = 384 := rfl
  have m : (12 * a : Int32).toInt = 12 * a.toInt := by
    rw [tI_mul (by rw [e3]; omega) (by rw [e3]; omega), e3]
  have s : (12 * a + l : Int32).toInt = 12 * a.toInt + l.toInt := by
    rw [tI_add (by omega) (by omega), m]
  refine ⟨?_, ?_, ?_⟩
  · rw [tn_I, tn_I, tn_I, s]; omega
  · rw [tI_le, s, e0]; omega
  · rw [tI_lt, s, e4]; omega
theorem tn_m40 {a l : Int32} (h1 : 0 ≤ a) (h2 : a < 4) (h3 : 0 ≤ l) (h4 : l < 40) : (40 * a + l).toNatClampNeg = 40 * a.toNatClampNeg + l.toNatClampNeg ∧ 0 ≤ 40 * a + l ∧ 40 * a + l < 160 := by
  rw [tI_le] at h1 h3
  rw [tI_lt] at h2 h4
  have e0 : (0 : Int32).toInt = 0 := rfl
  have e1 : (4 : Int32).toInt = 4 := rfl
  have e2 : (40 : Int32).toInt = 40 := rfl
  have e3 : (40 : Int32).toInt = 40 := rfl
  have e4 : (160 : Int32).toInt = 160 := rfl
  have m : (40 * a : Int32).toInt = 40 * a.toInt := by
    rw [tI_mul (by rw [e3]; omega) (by rw [e3]; omega), e3]
  have s : (40 * a + l : Int32).toInt = 40 * a.toInt + l.toInt := by
    rw [tI_add (by omega) (by omega), m]
  refine ⟨?_, ?_, ?_⟩
  · rw [tn_I, tn_I, tn_I, s]; omega
  · rw [tI_le, s, e0]; omega
  · rw [tI_lt, s, e4]; omega
theorem tn_m240 {a l : Int32} (h1 : 0 ≤ a) (h2 : a < 6) (h3 : 0 ≤ l) (h4 : l < 240) : (240 * a + l).toNatClampNeg = 240 * a.toNatClampNeg + l.toNatClampNeg ∧ 0 ≤ 240 * a + l ∧ 240 * a + l < 1440 := by
  rw [tI_le] at h1 h3
  rw [tI_lt] at h2 h4
  have e0 : (0 : Int32).toInt = 0 := rfl
  have e1 : (6 : Int32).toInt = 6 := rfl
  have e2 : (240 : Int32).toInt = 240 := rfl
  have e3 : (240 : Int32).toInt = 240 := rfl
  have e4 : (1440 : Int32).toInt = 1440 := rfl
  have m : (240 * a : Int32).toInt = 240 * a.toInt := by
    rw [tI_mul (by rw [e3]; omega) (by rw [e3]; omega), e3]
  have s : (240 * a + l : Int32).toInt = 240 * a.toInt + l.toInt := by
    rw [tI_add (by omega) (by omega), m]
  refine ⟨?_, ?_, ?_⟩
  · rw [tn_I, tn_I, tn_I, s]; omega
  · rw [tI_le, s, e0]; omega
  · rw [tI_lt, s, e4]; omega
theorem tm_wr_ne {μ : tm_M} {k0 i p k : Nat} {x : Int32} (h : k ≠ k0) : tm_wr μ k0 i p x k = μ k := by
  funext b c
  unfold tm_wr
  rw [if_neg (fun q => h q.1)]
theorem tm_cb_ne {μ : tm_M} {k0 i k2 i2 sp dp n k : Nat} (h : k ≠ k2) : tm_cb μ k0 i k2 i2 sp dp n k = μ k := by
  funext b c
  unfold tm_cb
  rw [if_neg (fun q => h q.1)]
