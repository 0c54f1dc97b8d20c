/-! The relation of the class's memory α and the reference's memory β. -/
def AD (x : Int32) : Prop := 0 < x ∧ x < 30 ∧ ¬ (x - x / 10 * 10 = 0)
def RG (α β : tm_M) : Prop := α 1 0 0 = β 36 0 0 ∧ α 1 0 1 = β 36 0 1 ∧ α 1 0 2 = β 36 0 2 ∧ α 1 0 3 = β 36 0 3 ∧ α 1 0 4 = β 36 0 4 ∧ 8 ≤ β 36 0 0 ∧ β 36 0 0 ≤ 60 ∧ 1 ≤ β 36 0 1 ∧ β 36 0 1 ≤ 5 ∧ 4 ≤ β 36 0 2 ∧ β 36 0 2 ≤ 12 ∧ 0 ≤ β 36 0 3
def RL (α β : tm_M) : Prop := α 6 0 5 = β 36 0 38 ∧ 0 ≤ β 36 0 38 ∧ β 36 0 38 ≤ 6 ∧
  (∀ j, j < 3 → α 7 0 j = β 37 0 j ∧ α 8 0 j = β 38 0 j ∧ (β 37 0 j = 0 ∨ 1 ≤ β 37 0 j ∧ β 37 0 j ≤ β 38 0 j ∧ β 38 0 j ≤ 9)) ∧
  (∀ s, s < 6 → α 9 0 s = β 67 0 s ∧ 0 ≤ β 67 0 s ∧ β 67 0 s < 3 ∧ (β 36 0 38 ≤ Int32.ofNat s → β 67 0 s = 0)) ∧
  (∀ a, a < 30 → α 11 0 a = β 40 0 a) ∧
  (∀ a, a < 30 → β 39 0 a = α 10 0 a + 1 ∧ -1 ≤ α 10 0 a ∧ α 10 0 a < 6 ∧ (α 10 0 a ≠ -1 → AD (Int32.ofNat a))) ∧
  (∀ a b, a < 30 → b < 30 → α 10 0 a = α 10 0 b → α 10 0 a ≠ -1 → a = b)
def RF (α β : tm_M) : Prop := α 12 0 5 = β 36 0 20 ∧ 0 ≤ β 36 0 20 ∧ β 36 0 20 ≤ 4 ∧
  (∀ f, f < 4 → α 15 0 f = β 49 0 f ∧ 0 ≤ β 49 0 f ∧ β 49 0 f ≤ 40 ∧ ∀ j, j < 40 → α 14 f j = β 50 0 (40 * f + j)) ∧
  (∀ e, e < 4 → α 16 0 e = β 51 0 e ∧ α 17 0 e = β 52 0 e ∧ α 18 0 e = β 53 0 e ∧ 0 ≤ β 51 0 e ∧ β 51 0 e ≤ 3 ∧ 0 ≤ β 52 0 e ∧ β 52 0 e ≤ 40)
def RB (α β : tm_M) : Prop := ∀ a, a < 30 → α 23 0 a = β 54 0 a ∧ α 24 0 a = β 55 0 a ∧ α 25 0 a = β 56 0 a ∧ α 27 0 a = β 58 0 a ∧ (α 26 0 a = β 57 0 a ∨ α 26 0 a ≤ β 36 0 3 ∧ β 57 0 a ≤ β 36 0 3) ∧ 0 ≤ β 54 0 a ∧ 0 ≤ β 56 0 a ∧ (β 36 0 3 < β 55 0 a → β 36 0 3 < β 57 0 a → β 54 0 a = β 56 0 a) ∧ (β 36 0 3 < β 55 0 a → AD (Int32.ofNat a))
def RJ (α β : tm_M) : Prop := α 28 0 3 = β 36 0 29 ∧ 0 ≤ β 36 0 29 ∧ β 36 0 29 ≤ 16 ∧ ∀ j, j < 16 → α 29 0 j = β 59 0 j ∧ α 30 0 j = β 60 0 j ∧ α 31 0 j = β 61 0 j ∧ 0 ≤ β 60 0 j ∧ (Int32.ofNat j < β 36 0 29 → AD (β 59 0 j))
def RT (α β : tm_M) (s : Nat) : Prop := α 21 s 2 = β 63 0 s ∧ α 21 s 3 = β 65 0 s ∧ α 21 s 4 = β 66 0 s ∧ α 21 s 5 = β 64 0 s ∧ β 65 0 s ≤ β 36 0 1 ∧
  (α 21 s 0 = 0 ∧ β 62 0 s = 0 ∨ α 21 s 0 = 1 ∧ β 62 0 s = α 21 s 1 + 1 ∧ 0 ≤ α 21 s 1 ∧ α 21 s 1 ≤ 3 ∧ 1 ≤ β 63 0 s ∧ β 63 0 s ≤ 11 ∧ (β 63 0 s - 1) * β 36 0 2 ≤ β 49 0 (α 21 s 1).toNatClampNeg ∧ (β 36 0 2 ≤ β 64 0 s → β 63 0 s * β 36 0 2 ≤ β 49 0 (α 21 s 1).toNatClampNeg))
def SL (f : Nat → Int32) : Nat → Int32
  | 0 => 0
  | n + 1 => SL f n + f n
def RS (α β : tm_M) (s : Nat) : Prop :=
  α 33 s 0 = Int32.ofNat s ∧ α 34 s 0 = Int32.ofNat s ∧
  α 33 s 4 = β 68 0 s ∧ α 33 s 5 = β 69 0 s ∧ α 33 s 6 = β 70 0 s ∧ α 33 s 8 = β 72 0 s ∧ α 33 s 9 = β 73 0 s ∧ α 33 s 10 = β 74 0 s ∧ α 33 s 11 = β 75 0 s ∧
  α 34 s 5 = β 81 0 s ∧ α 34 s 6 = β 82 0 s ∧ α 34 s 7 = β 78 0 s ∧ α 34 s 8 = β 79 0 s ∧ α 34 s 9 = β 80 0 s ∧ α 34 s 10 = β 77 0 s ∧ α 34 s 11 = β 76 0 s ∧
  (∀ k, k < 172 → α 35 s k = β 83 0 (240 * s + k)) ∧
  0 ≤ β 68 0 s ∧ β 68 0 s ≤ 7 ∧ (2 ≤ β 68 0 s → β 68 0 s ≤ 6 → AD (β 69 0 s)) ∧
  β 74 0 s ≤ β 36 0 1 ∧ β 79 0 s ≤ β 36 0 1 ∧ 0 ≤ β 75 0 s ∧ (β 68 0 s ≠ 7 → β 75 0 s < β 36 0 1) ∧
  0 ≤ β 81 0 s ∧ β 81 0 s ≤ 172 ∧
  (β 76 0 s = 1 → 0 ≤ β 77 0 s ∧ β 77 0 s < β 36 0 20 ∧ β 82 0 s = SL (β 52 0) (β 77 0 s).toNatClampNeg ∧ β 82 0 s ≤ β 81 0 s ∧ β 81 0 s - β 82 0 s ≤ 40)
/-- row i of the reference is the message m of the class -/
def RM (α β : tm_M) (i m : Nat) : Prop := α 4 m 0 = β 41 0 i ∧ α 4 m 1 = β 42 0 i ∧ α 4 m 2 = β 43 0 i ∧ α 4 m 3 = β 44 0 i ∧ α 4 m 4 = β 45 0 i ∧ α 4 m 6 = β 46 0 i ∧ α 4 m 5 = β 47 0 i ∧ ∀ j, j < (β 46 0 i).toNatClampNeg → α 5 m j = β 48 0 (12 * i + j)
def MV (f : Nat → Int32) (kind whose item many leg : Int32) : Prop := 0 ≤ kind ∧ kind ≤ 11 ∧ 0 ≤ whose ∧ whose < 6 ∧ 0 ≤ many ∧ many ≤ 12 ∧ (leg = 0 ∨ leg = 1 ∧ f whose.toNatClampNeg ≠ 0 ∧ kind ≠ 6 ∧ kind ≠ 7) ∧ (1 ≤ kind → kind ≤ 7 → AD item) ∧ (8 ≤ kind → 0 ≤ item ∧ item ≤ 3)
/-- the places of the messages are apart -/
def RO (α : tm_M) : Prop := (α 2 0 2).toNatClampNeg ≠ 1 ∧ (∀ i, i < 32 → (α 3 0 i).toNatClampNeg ≠ 1 ∧ (α 3 0 i).toNatClampNeg ≠ (α 2 0 2).toNatClampNeg) ∧ ∀ i j, i < 32 → j < 32 → (α 3 0 i).toNatClampNeg = (α 3 0 j).toNatClampNeg → i = j
def RW (r : Nat) (α β : tm_M) : Prop := r ≤ 32 ∧ α 2 0 1 = Int32.ofNat r ∧ β 36 0 9 = Int32.ofNat r ∧ RO α ∧ ∀ i, i < r → RM α β i (α 3 0 i).toNatClampNeg ∧ MV (β 67 0) (β 41 0 i) (β 42 0 i) (β 44 0 i) (β 46 0 i) (β 47 0 i)
/-- 'sent' agrees while an answer is awaited or an address held -/
def RN (α β : tm_M) (s : Nat) : Prop := 2 ≤ β 68 0 s → β 68 0 s ≤ 6 → α 33 s 7 = β 71 0 s
/-- the kind of the message that left the row last -/
def RQ (q : Int32 × Nat) (α : tm_M) : Prop := α 4 (α 2 0 2).toNatClampNeg 0 = q.1 ∧ (α 2 0 2).toNatClampNeg = q.2
def Rel (q : Int32 × Nat) (t r w : Nat) (α β : tm_M) : Prop := RQ q α ∧ RG α β ∧ β 36 0 3 ≤ Int32.ofNat t ∧ RW r α β ∧ RL α β ∧ RF α β ∧ RB α β ∧ RJ α β ∧ (∀ s, s < 6 → RT α β s) ∧ (∀ s, s < 6 → RS α β s) ∧ ∀ s, s < 6 → s ≠ w → RN α β s
section FR
variable {r : Nat} {α β α' β' : tm_M}
theorem RG_fr (h : RG α β) (a1 : α' 1 0 = α 1 0) (b0 : β' 36 0 0 = β 36 0 0) (b1 : β' 36 0 1 = β 36 0 1) (b2 : β' 36 0 2 = β 36 0 2) (b3 : β' 36 0 3 = β 36 0 3) (b4 : β' 36 0 4 = β 36 0 4) : RG α' β' := by
  unfold RG at *
  rw [a1, b0, b1, b2, b3, b4]; exact h
theorem RL_fr (h : RL α β) (a6 : α' 6 = α 6) (a7 : α' 7 = α 7) (a8 : α' 8 = α 8) (a9 : α' 9 = α 9) (a10 : α' 10 = α 10) (a11 : α' 11 = α 11) (b : β' 36 0 38 = β 36 0 38) (b37 : β' 37 = β 37) (b38 : β' 38 = β 38) (b39 : β' 39 = β 39) (b40 : β' 40 = β 40) (b67 : β' 67 = β 67) : RL α' β' := by
  unfold RL at *
  rw [a6, a7, a8, a9, a10, a11, b, b37, b38, b39, b40, b67]; exact h
theorem RF_fr (h : RF α β) (a12 : α' 12 = α 12) (a14 : α' 14 = α 14) (a15 : α' 15 = α 15) (a16 : α' 16 = α 16) (a17 : α' 17 = α 17) (a18 : α' 18 = α 18) (b : β' 36 0 20 = β 36 0 20) (b49 : β' 49 = β 49) (b50 : β' 50 = β 50) (b51 : β' 51 = β 51) (b52 : β' 52 = β 52) (b53 : β' 53 = β 53) : RF α' β' := by
  unfold RF at *
  rw [a12, a14, a15, a16, a17, a18, b, b49, b50, b51, b52, b53]; exact h
theorem RB_fr (h : RB α β) (a23 : α' 23 = α 23) (a24 : α' 24 = α 24) (a25 : α' 25 = α 25) (a26 : α' 26 = α 26) (a27 : α' 27 = α 27) (b : β' 36 0 3 = β 36 0 3) (b54 : β' 54 = β 54) (b55 : β' 55 = β 55) (b56 : β' 56 = β 56) (b57 : β' 57 = β 57) (b58 : β' 58 = β 58) : RB α' β' := by
  unfold RB at *
  rw [a23, a24, a25, a26, a27, b, b54, b55, b56, b57, b58]; exact h
theorem RJ_fr (h : RJ α β) (a28 : α' 28 = α 28) (a29 : α' 29 = α 29) (a30 : α' 30 = α 30) (a31 : α' 31 = α 31) (b : β' 36 0 29 = β 36 0 29) (b59 : β' 59 = β 59) (b60 : β' 60 = β 60) (b61 : β' 61 = β 61) : RJ α' β' := by
  unfold RJ at *
  rw [a28, a29, a30, a31, b, b59, b60, b61]; exact h
theorem RT_fr {s : Nat} (h : RT α β s) (a21 : α' 21 s = α 21 s) (b1 : β' 36 0 1 = β 36 0 1) (b2 : β' 36 0 2 = β 36 0 2) (b49 : β' 49 = β 49) (b62 : β' 62 0 s = β 62 0 s) (b63 : β' 63 0 s = β 63 0 s) (b64 : β' 64 0 s = β 64 0 s) (b65 : β' 65 0 s = β 65 0 s) (b66 : β' 66 0 s = β 66 0 s) : RT α' β' s := by
  unfold RT at *
  rw [a21, b1, b2, b49, b62, b63, b64, b65, b66]; exact h
theorem RS_fr {s : Nat} (h : RS α β s) (a33 : α' 33 s = α 33 s) (a34 : α' 34 s = α 34 s) (a35 : α' 35 s = α 35 s) (b1 : β' 36 0 1 = β 36 0 1) (b20 : β' 36 0 20 = β 36 0 20) (b52 : β' 52 = β 52) (b : ∀ k, 68 ≤ k → k ≤ 82 → β' k 0 s = β k 0 s) (b83 : ∀ k, k < 172 → β' 83 0 (240 * s + k) = β 83 0 (240 * s + k)) : RS α' β' s := by
  unfold RS at *
  rw [a33, a34, a35, b1, b20, b52, b 68 (by decide) (by decide), b 69 (by decide) (by decide), b 70 (by decide) (by decide), b 72 (by decide) (by decide), b 73 (by decide) (by decide), b 74 (by decide) (by decide), b 75 (by decide) (by decide), b 76 (by decide) (by decide), b 77 (by decide) (by decide), b 78 (by decide) (by decide), b 79 (by decide) (by decide), b 80 (by decide) (by decide), b 81 (by decide) (by decide), b 82 (by decide) (by decide)]
  obtain ⟨h1, h2, h3, h4, h5, h6, h7, h8, h9, h10, h11, h12, h13, h14, h15, h16, h18, h19⟩ := h
  exact ⟨h1, h2, h3, h4, h5, h6, h7, h8, h9, h10, h11, h12, h13, h14, h15, h16, fun k hk => by rw [b83 k hk]; exact h18 k hk, h19⟩
theorem RW_fr (h : RW r α β) (a2 : α' 2 = α 2) (a3 : α' 3 = α 3) (a4 : α' 4 = α 4) (a5 : α' 5 = α 5) (b : β' 36 0 9 = β 36 0 9) (b41 : β' 41 = β 41) (b42 : β' 42 = β 42) (b43 : β' 43 = β 43) (b44 : β' 44 = β 44) (b45 : β' 45 = β 45) (b46 : β' 46 = β 46) (b47 : β' 47 = β 47) (b48 : β' 48 = β 48) (b67 : β' 67 = β 67) : RW r α' β' := by
  unfold RW RO RM at *
  rw [a2, a3, a4, a5, b, b41, b42, b43, b44, b45, b46, b47, b48, b67]; exact h
end FR
section SD
variable {r : Nat} {α β : tm_M}
theorem of_le {a b : Nat} (ha : a < 2147483648) (hb : b < 2147483648) : Int32.ofNat a ≤ Int32.ofNat b ↔ a ≤ b := by
  rw [tI_le, tI_of ha, tI_of hb]; omega
theorem of_lt {a b : Nat} (ha : a < 2147483648) (hb : b < 2147483648) : Int32.ofNat a < Int32.ofNat b ↔ a < b := by
  rw [tI_lt, tI_of ha, tI_of hb]; omega
theorem of_eq {a b : Nat} (ha : a < 2147483648) (hb : b < 2147483648) : Int32.ofNat a = Int32.ofNat b ↔ a = b := by
  rw [tI_eq, tI_of ha, tI_of hb]; omega
/-- where the next message goes -/
def nx (r : Nat) : Nat := if r < 32 then r + 1 else r
theorem send_ok (h : RW r α β) (k s leg n it b : Int32) (hmv : MV (β 67 0) k s it 0 leg) (hleg : leg = ((if cv_134 k β = 0 then 0 else ((if β 67 0 s.toNatClampNeg = 0 then 0 else 1) : Int32)) : Int32)) : RW (nx r) (cs_117 k s leg n it b α) (cs_135 k s n it b β) := by
  obtain ⟨hr, e1, e2, ⟨o1, o2, o3⟩, hm⟩ := h
  unfold nx cs_117 cs_135
  rw [e1, e2]
  by_cases c : r < 32
  · have c1 : ¬ (32 : Int32) ≤ Int32.ofNat r := by
      show ¬ Int32.ofNat 32 ≤ Int32.ofNat r
      rw [of_le (by decide) (by omega)]; omega
    have c2 : ¬ Int32.ofNat r = (32 : Int32) := by
      show ¬ Int32.ofNat r = Int32.ofNat 32
      rw [of_eq (by omega) (by decide)]; omega
    rw [if_pos c, if_neg c1, if_neg c2, tn_of (by omega : r < 2147483648), tI_of1]
    generalize hM : (α 3 0 r).toNatClampNeg = m
    have hm1 : m ≠ 1 := by rw [← hM]; exact (o2 r c).1
    have hm2 : m ≠ (α 2 0 2).toNatClampNeg := by rw [← hM]; exact (o2 r c).2
    refine ⟨by omega, by simp [tm_wr], by simp [tm_wr], ⟨by simpa [tm_wr] using o1, by simpa [tm_wr] using o2, by simpa [tm_wr] using o3⟩, ?_⟩
    intro i hi
    by_cases hir : i = r
    · subst hir
      unfold RM
      obtain ⟨q, hq⟩ : ∃ q, ∀ μ, cv_134 k μ = q := ⟨cv_134 k β, fun _ => rfl⟩
      rw [hq] at hleg
      simp [tm_wr, hM, hq, ← hleg]
      exact hmv
    · have hi' : i < r := by omega
      obtain ⟨g1, g2⟩ := hm i hi'
      have hne : (α 3 0 i).toNatClampNeg ≠ m := fun h => hir (o3 i r (by omega) c (by rw [h, hM]))
      unfold RM at *
      simp [tm_wr, hir, hne]
      exact ⟨g1, g2⟩
  · have hr32 : r = 32 := by omega
    subst hr32
    have c3 : Int32.ofNat 32 = (32 : Int32) := rfl
    rw [if_neg c, if_pos (by decide), if_pos c3]
    refine ⟨by omega, by simp [tm_wr]; exact e1, e2, ⟨by simpa [tm_wr] using o1, by simpa [tm_wr] using o2, by simpa [tm_wr] using o3⟩, ?_⟩
    intro i hi
    obtain ⟨g1, g2⟩ := hm i hi
    have hne := (o2 i hi).1
    unfold RM at *
    simp [tm_wr, hne]
    exact ⟨g1, g2⟩
end SD
