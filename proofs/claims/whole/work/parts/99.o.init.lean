/-! The first memory. -/
theorem fl30 : ∀ p, p < 30 → cn_fl 30 p = -1 := by decide
theorem sl32 : ∀ i, i < 32 → (mu1 0 0 0 3 0 i).toNatClampNeg = i + 2 := by decide +kernel
theorem mu_3 (a1 a2 a3 : Int32) (i : Nat) (hi : i < 32) : (mu1 a1 a2 a3 3 0 i).toNatClampNeg = i + 2 := sl32 i hi
theorem mu_0 (a1 a2 a3 : Int32) (k i p : Nat) (hk : k ∉ ([1, 3, 10, 33, 34, 36] : List Nat)) : mu1 a1 a2 a3 k i p = 0 := by
  simp only [List.mem_cons, List.not_mem_nil, or_false, not_or] at hk
  unfold mu1
  simp [hk]
set_option maxHeartbeats 1000000 in
theorem init_ok (a1 a2 a3 : Int32) : Rel (0, 0) 0 0 6 (mu1 a1 a2 a3) (mu1 a1 a2 a3) := by
  have z : ∀ k i p, k ∉ ([1, 3, 10, 33, 34, 36] : List Nat) → mu1 a1 a2 a3 k i p = 0 := fun k i p hk => mu_0 a1 a2 a3 k i p hk
  have e10 : ∀ p, p < 30 → mu1 a1 a2 a3 10 0 p = -1 := fun p hp => fl30 p hp
  have e33 : ∀ i, mu1 a1 a2 a3 33 i 0 = Int32.ofNat i := fun i => rfl
  have e34 : ∀ i, mu1 a1 a2 a3 34 i 0 = Int32.ofNat i := fun i => rfl
  have z33 : ∀ i p, p ≠ 0 → mu1 a1 a2 a3 33 i p = 0 := fun i p hp => by
    show (if p = 0 then Int32.ofNat i else 0) = 0
    rw [if_neg hp]
  have z34 : ∀ i p, p ≠ 0 → mu1 a1 a2 a3 34 i p = 0 := fun i p hp => by
    show (if p = 0 then Int32.ofNat i else 0) = 0
    rw [if_neg hp]
  have z36 : ∀ p, p ≠ 0 → p ≠ 1 → p ≠ 2 → mu1 a1 a2 a3 36 0 p = 0 := fun p h1 h2 h3 => by
    show (if p = 0 then cn_k a1 8 60 else if p = 1 then cn_k a2 1 5 else if p = 2 then cn_k a3 4 12 else 0) = 0
    rw [if_neg h1, if_neg h2, if_neg h3]
  have g0 : mu1 a1 a2 a3 36 0 0 = cn_k a1 8 60 := rfl
  have g1 : mu1 a1 a2 a3 36 0 1 = cn_k a2 1 5 := rfl
  have g2 : mu1 a1 a2 a3 36 0 2 = cn_k a3 4 12 := rfl
  have c0 : mu1 a1 a2 a3 1 0 0 = cn_k a1 8 60 := by
    show ((if (8 : Int32) < ((if a1 < 60 then a1 else 60) : Int32) then ((if a1 < 60 then a1 else 60) : Int32) else 8) : Int32) = _
    unfold cn_k; grind
  have c1 : mu1 a1 a2 a3 1 0 1 = cn_k a2 1 5 := by
    show ((if (1 : Int32) < ((if a2 < 5 then a2 else 5) : Int32) then ((if a2 < 5 then a2 else 5) : Int32) else 1) : Int32) = _
    unfold cn_k; grind
  have c2 : mu1 a1 a2 a3 1 0 2 = cn_k a3 4 12 := by
    show ((if (4 : Int32) < ((if a3 < 12 then a3 else 12) : Int32) then ((if a3 < 12 then a3 else 12) : Int32) else 4) : Int32) = _
    unfold cn_k; grind
  have c3 : mu1 a1 a2 a3 1 0 3 = 0 := rfl
  have c4 : mu1 a1 a2 a3 1 0 4 = 0 := rfl
  have k0 : 8 ≤ cn_k a1 8 60 ∧ cn_k a1 8 60 ≤ 60 := by unfold cn_k; grind
  have k1 : 1 ≤ cn_k a2 1 5 ∧ cn_k a2 1 5 ≤ 5 := by unfold cn_k; grind
  have k2 : 4 ≤ cn_k a3 4 12 ∧ cn_k a3 4 12 ≤ 12 := by unfold cn_k; grind
  have m3 := mu_3 a1 a2 a3
  generalize mu1 a1 a2 a3 = μ at *
  have t0 : (0 : Int32).toNatClampNeg = 0 := rfl
  have i0 : Int32.ofNat 0 = (0 : Int32) := rfl
  refine ⟨?_, ?_, ?_, ?_, ?_, ?_, ?_, ?_, ?_, ?_, ?_⟩
  · unfold RQ
    rw [z 2 0 2 (by decide), t0, z 4 0 0 (by decide)]
    exact ⟨rfl, rfl⟩
  · unfold RG
    rw [c0, c1, c2, c3, c4, g0, g1, g2, z36 3 (by decide) (by decide) (by decide), z36 4 (by decide) (by decide) (by decide)]
    exact ⟨rfl, rfl, rfl, rfl, rfl, k0.1, k0.2, k1.1, k1.2, k2.1, k2.2, by decide⟩
  · rw [z36 3 (by decide) (by decide) (by decide)]
    decide
  · refine ⟨by omega, by rw [z 2 0 1 (by decide)]; rfl, by rw [z36 9 (by decide) (by decide) (by decide)]; rfl, ⟨?_, ?_, ?_⟩, fun i hi => absurd hi (by omega)⟩
    · rw [z 2 0 2 (by decide), t0]; decide
    · intro i hi
      rw [m3 i hi, z 2 0 2 (by decide), t0]
      omega
    · intro i j hi hj
      rw [m3 i hi, m3 j hj]
      omega
  · unfold RL
    rw [z 6 0 5 (by decide), z36 38 (by decide) (by decide) (by decide)]
    refine ⟨rfl, by decide, by decide, ?_, ?_, ?_, ?_, ?_⟩
    · intro j hj
      rw [z 7 0 j (by decide), z 8 0 j (by decide), z 37 0 j (by decide), z 38 0 j (by decide)]
      exact ⟨rfl, rfl, Or.inl rfl⟩
    · intro s hs
      rw [z 9 0 s (by decide), z 67 0 s (by decide)]
      exact ⟨rfl, by decide, by decide, fun _ => rfl⟩
    · intro a ha
      rw [z 11 0 a (by decide), z 40 0 a (by decide)]
    · intro a ha
      rw [e10 a ha, z 39 0 a (by decide)]
      exact ⟨by decide, by decide, by decide, fun hq => absurd rfl hq⟩
    · intro a b ha hb _ hq
      exact absurd (e10 a ha) hq
  · unfold RF
    rw [z 12 0 5 (by decide), z36 20 (by decide) (by decide) (by decide)]
    refine ⟨rfl, by decide, by decide, ?_, ?_⟩
    · intro f hf
      rw [z 15 0 f (by decide), z 49 0 f (by decide)]
      refine ⟨rfl, by decide, by decide, fun j hj => ?_⟩
      rw [z 14 f j (by decide), z 50 0 _ (by decide)]
    · intro e he
      rw [z 16 0 e (by decide), z 17 0 e (by decide), z 18 0 e (by decide), z 51 0 e (by decide), z 52 0 e (by decide), z 53 0 e (by decide)]
      exact ⟨rfl, rfl, rfl, by decide, by decide, by decide, by decide⟩
  · intro a ha
    rw [z 23 0 a (by decide), z 24 0 a (by decide), z 25 0 a (by decide), z 26 0 a (by decide), z 27 0 a (by decide), z 54 0 a (by decide), z 55 0 a (by decide), z 56 0 a (by decide), z 57 0 a (by decide), z 58 0 a (by decide), z36 3 (by decide) (by decide) (by decide)]
    exact ⟨rfl, rfl, rfl, rfl, Or.inl rfl, by decide, by decide, fun _ _ => rfl, fun hq => absurd hq (by decide)⟩
  · unfold RJ
    rw [z 28 0 3 (by decide), z36 29 (by decide) (by decide) (by decide)]
    refine ⟨rfl, by decide, by decide, fun j hj => ?_⟩
    rw [z 29 0 j (by decide), z 30 0 j (by decide), z 31 0 j (by decide), z 59 0 j (by decide), z 60 0 j (by decide), z 61 0 j (by decide)]
    refine ⟨rfl, rfl, rfl, by decide, fun hq => ?_⟩
    have := of0 (l := j) (by omega)
    exact absurd hq (by grind)
  · intro s hs
    unfold RT
    rw [z 21 s 0 (by decide), z 21 s 2 (by decide), z 21 s 3 (by decide), z 21 s 4 (by decide), z 21 s 5 (by decide), z 62 0 s (by decide), z 63 0 s (by decide), z 64 0 s (by decide), z 65 0 s (by decide), z 66 0 s (by decide), g1]
    exact ⟨rfl, rfl, rfl, rfl, by grind, Or.inl ⟨rfl, rfl⟩⟩
  · intro s hs
    unfold RS
    rw [e33, e34, z33 s 4 (by decide), z33 s 5 (by decide), z33 s 6 (by decide), z33 s 8 (by decide), z33 s 9 (by decide), z33 s 10 (by decide), z33 s 11 (by decide), z34 s 5 (by decide), z34 s 6 (by decide), z34 s 7 (by decide), z34 s 8 (by decide), z34 s 9 (by decide), z34 s 10 (by decide), z34 s 11 (by decide), z 68 0 s (by decide), z 69 0 s (by decide), z 70 0 s (by decide), z 72 0 s (by decide), z 73 0 s (by decide), z 74 0 s (by decide), z 75 0 s (by decide), z 76 0 s (by decide), z 77 0 s (by decide), z 78 0 s (by decide), z 79 0 s (by decide), z 80 0 s (by decide), z 81 0 s (by decide), z 82 0 s (by decide), g1]
    refine ⟨rfl, rfl, rfl, rfl, rfl, rfl, rfl, rfl, rfl, rfl, rfl, rfl, rfl, rfl, rfl, rfl, ?_, by decide, by decide, fun hq => absurd hq (by decide), by grind, by grind, by decide, fun _ => by grind, by decide, by decide, fun hq => absurd hq (by decide)⟩
    intro k hk
    rw [z 35 s k (by decide), z 83 0 _ (by decide)]
  · intro s hs _ hq
    rw [z 68 0 s (by decide)] at hq
    exact absurd hq (by decide)
