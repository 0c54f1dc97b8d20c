/-! The law's loop as a function. Written by prog/gen_tf.py. -/
section TW
variable {d : Nat}
def cv_176_48 (L : Nat) (xs : Nat → Int32) : Nat → Int32 → tm_M → Int32
  | 0, _, _ => 0
  | n + 1, l3, μ => (if ((Int32.ofNat L) - 4) < l3 then 1 else (if ((xs ((l3).toNatClampNeg)) &&& 31) = 0 then (if (cv_1 (xs (((l3 + 1) : Int32).toNatClampNeg)) (xs (((l3 + 2) : Int32).toNatClampNeg)) (xs (((l3 + 3) : Int32).toNatClampNeg)) μ) = (cv_125 (xs (((l3 + 1) : Int32).toNatClampNeg)) (xs (((l3 + 2) : Int32).toNatClampNeg)) (xs (((l3 + 3) : Int32).toNatClampNeg)) (cs_1 (xs (((l3 + 1) : Int32).toNatClampNeg)) (xs (((l3 + 2) : Int32).toNatClampNeg)) (xs (((l3 + 3) : Int32).toNatClampNeg)) μ)) then (cv_176_48 L xs n (l3 + 4) (cs_125 (xs (((l3 + 1) : Int32).toNatClampNeg)) (xs (((l3 + 2) : Int32).toNatClampNeg)) (xs (((l3 + 3) : Int32).toNatClampNeg)) (cs_1 (xs (((l3 + 1) : Int32).toNatClampNeg)) (xs (((l3 + 2) : Int32).toNatClampNeg)) (xs (((l3 + 3) : Int32).toNatClampNeg)) μ))) else 0) else (if ((xs ((l3).toNatClampNeg)) &&& 31) = 1 then (if (cv_2 (xs (((l3 + 1) : Int32).toNatClampNeg)) μ) = (cv_126 (xs (((l3 + 1) : Int32).toNatClampNeg)) (cs_2 (xs (((l3 + 1) : Int32).toNatClampNeg)) μ)) then (cv_176_48 L xs n (l3 + 4) (cs_126 (xs (((l3 + 1) : Int32).toNatClampNeg)) (cs_2 (xs (((l3 + 1) : Int32).toNatClampNeg)) μ))) else 0) else (if ((xs ((l3).toNatClampNeg)) &&& 31) = 2 then (if (cv_3 (xs (((l3 + 1) : Int32).toNatClampNeg)) (xs (((l3 + 2) : Int32).toNatClampNeg)) μ) = (cv_127 (xs (((l3 + 1) : Int32).toNatClampNeg)) (xs (((l3 + 2) : Int32).toNatClampNeg)) (cs_3 (xs (((l3 + 1) : Int32).toNatClampNeg)) (xs (((l3 + 2) : Int32).toNatClampNeg)) μ)) then (cv_176_48 L xs n (l3 + 4) (cs_127 (xs (((l3 + 1) : Int32).toNatClampNeg)) (xs (((l3 + 2) : Int32).toNatClampNeg)) (cs_3 (xs (((l3 + 1) : Int32).toNatClampNeg)) (xs (((l3 + 2) : Int32).toNatClampNeg)) μ))) else 0) else (if ((xs ((l3).toNatClampNeg)) &&& 31) = 3 then (if (cv_4 (xs (((l3 + 1) : Int32).toNatClampNeg)) ((if (xs (((l3 + 2) : Int32).toNatClampNeg)) = 0 then 0 else 1) : Int32) μ) = (cv_128 (xs (((l3 + 1) : Int32).toNatClampNeg)) ((if (xs (((l3 + 2) : Int32).toNatClampNeg)) = 0 then 0 else 1) : Int32) (cs_4 (xs (((l3 + 1) : Int32).toNatClampNeg)) ((if (xs (((l3 + 2) : Int32).toNatClampNeg)) = 0 then 0 else 1) : Int32) μ)) then (cv_176_48 L xs n (l3 + 4) (cs_128 (xs (((l3 + 1) : Int32).toNatClampNeg)) ((if (xs (((l3 + 2) : Int32).toNatClampNeg)) = 0 then 0 else 1) : Int32) (cs_4 (xs (((l3 + 1) : Int32).toNatClampNeg)) ((if (xs (((l3 + 2) : Int32).toNatClampNeg)) = 0 then 0 else 1) : Int32) μ))) else 0) else (if ((xs ((l3).toNatClampNeg)) &&& 31) = 4 then (if (cv_5 (xs (((l3 + 1) : Int32).toNatClampNeg)) (xs (((l3 + 2) : Int32).toNatClampNeg)) μ) = (cv_129 (xs (((l3 + 1) : Int32).toNatClampNeg)) (xs (((l3 + 2) : Int32).toNatClampNeg)) (cs_5 (xs (((l3 + 1) : Int32).toNatClampNeg)) (xs (((l3 + 2) : Int32).toNatClampNeg)) μ)) then (cv_176_48 L xs n (l3 + 4) (cs_129 (xs (((l3 + 1) : Int32).toNatClampNeg)) (xs (((l3 + 2) : Int32).toNatClampNeg)) (cs_5 (xs (((l3 + 1) : Int32).toNatClampNeg)) (xs (((l3 + 2) : Int32).toNatClampNeg)) μ))) else 0) else (if ((xs ((l3).toNatClampNeg)) &&& 31) = 5 then (if (cv_6 (xs (((l3 + 1) : Int32).toNatClampNeg)) (xs (((l3 + 2) : Int32).toNatClampNeg)) (xs (((l3 + 3) : Int32).toNatClampNeg)) μ) = (cv_130 (xs (((l3 + 1) : Int32).toNatClampNeg)) (xs (((l3 + 2) : Int32).toNatClampNeg)) (xs (((l3 + 3) : Int32).toNatClampNeg)) (cs_6 (xs (((l3 + 1) : Int32).toNatClampNeg)) (xs (((l3 + 2) : Int32).toNatClampNeg)) (xs (((l3 + 3) : Int32).toNatClampNeg)) μ)) then (cv_176_48 L xs n (l3 + 4) (cs_130 (xs (((l3 + 1) : Int32).toNatClampNeg)) (xs (((l3 + 2) : Int32).toNatClampNeg)) (xs (((l3 + 3) : Int32).toNatClampNeg)) (cs_6 (xs (((l3 + 1) : Int32).toNatClampNeg)) (xs (((l3 + 2) : Int32).toNatClampNeg)) (xs (((l3 + 3) : Int32).toNatClampNeg)) μ))) else 0) else (if ((xs ((l3).toNatClampNeg)) &&& 31) = 6 then (if (cv_7 (xs (((l3 + 1) : Int32).toNatClampNeg)) μ) = (cv_132 (xs (((l3 + 1) : Int32).toNatClampNeg)) μ) then (cv_176_48 L xs n (l3 + 4) μ) else 0) else (if ((xs ((l3).toNatClampNeg)) &&& 31) = 7 then (if (cv_8 (xs (((l3 + 1) : Int32).toNatClampNeg)) μ) = (cv_162 (xs (((l3 + 1) : Int32).toNatClampNeg)) (cs_8 (xs (((l3 + 1) : Int32).toNatClampNeg)) μ)) then (cv_176_48 L xs n (l3 + 4) (cs_162 (xs (((l3 + 1) : Int32).toNatClampNeg)) (cs_8 (xs (((l3 + 1) : Int32).toNatClampNeg)) μ))) else 0) else (if ((xs ((l3).toNatClampNeg)) &&& 31) = 8 then (if (cv_9 (xs (((l3 + 1) : Int32).toNatClampNeg)) μ) = (cv_139 (xs (((l3 + 1) : Int32).toNatClampNeg)) (cs_9 (xs (((l3 + 1) : Int32).toNatClampNeg)) μ)) then (cv_176_48 L xs n (l3 + 4) (cs_139 (xs (((l3 + 1) : Int32).toNatClampNeg)) (cs_9 (xs (((l3 + 1) : Int32).toNatClampNeg)) μ))) else 0) else (if ((xs ((l3).toNatClampNeg)) &&& 31) = 9 then (if (cv_10 (xs (((l3 + 1) : Int32).toNatClampNeg)) ((if (xs (((l3 + 2) : Int32).toNatClampNeg)) = 0 then 0 else 1) : Int32) μ) = (cv_138 (xs (((l3 + 1) : Int32).toNatClampNeg)) ((if (xs (((l3 + 2) : Int32).toNatClampNeg)) = 0 then 0 else 1) : Int32) (cs_10 (xs (((l3 + 1) : Int32).toNatClampNeg)) ((if (xs (((l3 + 2) : Int32).toNatClampNeg)) = 0 then 0 else 1) : Int32) μ)) then (cv_176_48 L xs n (l3 + 4) (cs_138 (xs (((l3 + 1) : Int32).toNatClampNeg)) ((if (xs (((l3 + 2) : Int32).toNatClampNeg)) = 0 then 0 else 1) : Int32) (cs_10 (xs (((l3 + 1) : Int32).toNatClampNeg)) ((if (xs (((l3 + 2) : Int32).toNatClampNeg)) = 0 then 0 else 1) : Int32) μ))) else 0) else (if ((xs ((l3).toNatClampNeg)) &&& 31) = 10 then (if (cv_11 μ) = (cv_171 (cs_11 μ)) then (cv_176_48 L xs n (l3 + 4) (cs_171 (cs_11 μ))) else 0) else (if ((xs ((l3).toNatClampNeg)) &&& 31) = 11 then (if (cv_12 μ) = (cv_153 (cs_12 μ)) then (cv_176_48 L xs n (l3 + 4) (cs_153 (cs_12 μ))) else 0) else (if ((xs ((l3).toNatClampNeg)) &&& 31) = 12 then (if (cv_13 (xs (((l3 + 1) : Int32).toNatClampNeg)) (xs (((l3 + 2) : Int32).toNatClampNeg)) μ) = (cv_141 (xs (((l3 + 1) : Int32).toNatClampNeg)) (xs (((l3 + 2) : Int32).toNatClampNeg)) μ) then (cv_176_48 L xs n (l3 + 4) μ) else 0) else (if ((xs ((l3).toNatClampNeg)) &&& 31) = 13 then (if (cv_14 (xs (((l3 + 1) : Int32).toNatClampNeg)) (xs (((l3 + 2) : Int32).toNatClampNeg)) μ) = (cv_172 (xs (((l3 + 1) : Int32).toNatClampNeg)) (xs (((l3 + 2) : Int32).toNatClampNeg)) μ) then (cv_176_48 L xs n (l3 + 4) μ) else 0) else (if ((xs ((l3).toNatClampNeg)) &&& 31) = 14 then (if (cv_15 (xs (((l3 + 1) : Int32).toNatClampNeg)) (xs (((l3 + 2) : Int32).toNatClampNeg)) μ) = (cv_173 (xs (((l3 + 1) : Int32).toNatClampNeg)) (xs (((l3 + 2) : Int32).toNatClampNeg)) μ) then (cv_176_48 L xs n (l3 + 4) μ) else 0) else (if ((xs ((l3).toNatClampNeg)) &&& 31) = 15 then (if (cv_16 (xs (((l3 + 1) : Int32).toNatClampNeg)) (xs (((l3 + 2) : Int32).toNatClampNeg)) μ) = (cv_154 (xs (((l3 + 1) : Int32).toNatClampNeg)) (xs (((l3 + 2) : Int32).toNatClampNeg)) μ) then (cv_176_48 L xs n (l3 + 4) μ) else 0) else (if ((xs ((l3).toNatClampNeg)) &&& 31) = 16 then (if (cv_17 μ) = (cv_155 μ) then (cv_176_48 L xs n (l3 + 4) μ) else 0) else (cv_176_48 L xs n (l3 + 4) μ)))))))))))))))))))
def ci_176_48 (L : Nat) (xs : Nat → Int32) : Nat → Int32 → tm_M → Prop
  | 0, _, _ => False
  | n + 1, l3, μ => ((¬ (((Int32.ofNat L) - 4) < l3)) → tm_ix l3 L = true) ∧ ((¬ (((Int32.ofNat L) - 4) < l3)) → ((((xs ((l3).toNatClampNeg)) &&& 31) : Int32).toInt < 0 ∨ 16 < (((xs ((l3).toNatClampNeg)) &&& 31) : Int32).toInt) → ci_176_48 L xs n (l3 + 4) μ) ∧ ((¬ (((Int32.ofNat L) - 4) < l3)) → (((xs ((l3).toNatClampNeg)) &&& 31) = 0) → tm_ix (l3 + 1) L = true) ∧ ((¬ (((Int32.ofNat L) - 4) < l3)) → (((xs ((l3).toNatClampNeg)) &&& 31) = 0) → tm_ix (l3 + 2) L = true) ∧ ((¬ (((Int32.ofNat L) - 4) < l3)) → (((xs ((l3).toNatClampNeg)) &&& 31) = 0) → tm_ix (l3 + 3) L = true) ∧ ((¬ (((Int32.ofNat L) - 4) < l3)) → (((xs ((l3).toNatClampNeg)) &&& 31) = 0) → ci_1 (xs (((l3 + 1) : Int32).toNatClampNeg)) (xs (((l3 + 2) : Int32).toNatClampNeg)) (xs (((l3 + 3) : Int32).toNatClampNeg)) μ) ∧ ((¬ (((Int32.ofNat L) - 4) < l3)) → (((xs ((l3).toNatClampNeg)) &&& 31) = 0) → ci_125 (xs (((l3 + 1) : Int32).toNatClampNeg)) (xs (((l3 + 2) : Int32).toNatClampNeg)) (xs (((l3 + 3) : Int32).toNatClampNeg)) (cs_1 (xs (((l3 + 1) : Int32).toNatClampNeg)) (xs (((l3 + 2) : Int32).toNatClampNeg)) (xs (((l3 + 3) : Int32).toNatClampNeg)) μ)) ∧ ((¬ (((Int32.ofNat L) - 4) < l3)) → (((xs ((l3).toNatClampNeg)) &&& 31) = 0) → ((cv_1 (xs (((l3 + 1) : Int32).toNatClampNeg)) (xs (((l3 + 2) : Int32).toNatClampNeg)) (xs (((l3 + 3) : Int32).toNatClampNeg)) μ) = (cv_125 (xs (((l3 + 1) : Int32).toNatClampNeg)) (xs (((l3 + 2) : Int32).toNatClampNeg)) (xs (((l3 + 3) : Int32).toNatClampNeg)) (cs_1 (xs (((l3 + 1) : Int32).toNatClampNeg)) (xs (((l3 + 2) : Int32).toNatClampNeg)) (xs (((l3 + 3) : Int32).toNatClampNeg)) μ))) → ci_176_48 L xs n (l3 + 4) (cs_125 (xs (((l3 + 1) : Int32).toNatClampNeg)) (xs (((l3 + 2) : Int32).toNatClampNeg)) (xs (((l3 + 3) : Int32).toNatClampNeg)) (cs_1 (xs (((l3 + 1) : Int32).toNatClampNeg)) (xs (((l3 + 2) : Int32).toNatClampNeg)) (xs (((l3 + 3) : Int32).toNatClampNeg)) μ))) ∧ ((¬ (((Int32.ofNat L) - 4) < l3)) → (((xs ((l3).toNatClampNeg)) &&& 31) = 1) → tm_ix (l3 + 1) L = true) ∧ ((¬ (((Int32.ofNat L) - 4) < l3)) → (((xs ((l3).toNatClampNeg)) &&& 31) = 1) → ci_2 (xs (((l3 + 1) : Int32).toNatClampNeg)) μ) ∧ ((¬ (((Int32.ofNat L) - 4) < l3)) → (((xs ((l3).toNatClampNeg)) &&& 31) = 1) → ci_126 (xs (((l3 + 1) : Int32).toNatClampNeg)) (cs_2 (xs (((l3 + 1) : Int32).toNatClampNeg)) μ)) ∧ ((¬ (((Int32.ofNat L) - 4) < l3)) → (((xs ((l3).toNatClampNeg)) &&& 31) = 1) → ((cv_2 (xs (((l3 + 1) : Int32).toNatClampNeg)) μ) = (cv_126 (xs (((l3 + 1) : Int32).toNatClampNeg)) (cs_2 (xs (((l3 + 1) : Int32).toNatClampNeg)) μ))) → ci_176_48 L xs n (l3 + 4) (cs_126 (xs (((l3 + 1) : Int32).toNatClampNeg)) (cs_2 (xs (((l3 + 1) : Int32).toNatClampNeg)) μ))) ∧ ((¬ (((Int32.ofNat L) - 4) < l3)) → (((xs ((l3).toNatClampNeg)) &&& 31) = 2) → tm_ix (l3 + 1) L = true) ∧ ((¬ (((Int32.ofNat L) - 4) < l3)) → (((xs ((l3).toNatClampNeg)) &&& 31) = 2) → tm_ix (l3 + 2) L = true) ∧ ((¬ (((Int32.ofNat L) - 4) < l3)) → (((xs ((l3).toNatClampNeg)) &&& 31) = 2) → ci_3 (xs (((l3 + 1) : Int32).toNatClampNeg)) (xs (((l3 + 2) : Int32).toNatClampNeg)) μ) ∧ ((¬ (((Int32.ofNat L) - 4) < l3)) → (((xs ((l3).toNatClampNeg)) &&& 31) = 2) → ci_127 (xs (((l3 + 1) : Int32).toNatClampNeg)) (xs (((l3 + 2) : Int32).toNatClampNeg)) (cs_3 (xs (((l3 + 1) : Int32).toNatClampNeg)) (xs (((l3 + 2) : Int32).toNatClampNeg)) μ)) ∧ ((¬ (((Int32.ofNat L) - 4) < l3)) → (((xs ((l3).toNatClampNeg)) &&& 31) = 2) → ((cv_3 (xs (((l3 + 1) : Int32).toNatClampNeg)) (xs (((l3 + 2) : Int32).toNatClampNeg)) μ) = (cv_127 (xs (((l3 + 1) : Int32).toNatClampNeg)) (xs (((l3 + 2) : Int32).toNatClampNeg)) (cs_3 (xs (((l3 + 1) : Int32).toNatClampNeg)) (xs (((l3 + 2) : Int32).toNatClampNeg)) μ))) → ci_176_48 L xs n (l3 + 4) (cs_127 (xs (((l3 + 1) : Int32).toNatClampNeg)) (xs (((l3 + 2) : Int32).toNatClampNeg)) (cs_3 (xs (((l3 + 1) : Int32).toNatClampNeg)) (xs (((l3 + 2) : Int32).toNatClampNeg)) μ))) ∧ ((¬ (((Int32.ofNat L) - 4) < l3)) → (((xs ((l3).toNatClampNeg)) &&& 31) = 3) → tm_ix (l3 + 1) L = true) ∧ ((¬ (((Int32.ofNat L) - 4) < l3)) → (((xs ((l3).toNatClampNeg)) &&& 31) = 3) → tm_ix (l3 + 2) L = true) ∧ ((¬ (((Int32.ofNat L) - 4) < l3)) → (((xs ((l3).toNatClampNeg)) &&& 31) = 3) → ci_4 (xs (((l3 + 1) : Int32).toNatClampNeg)) ((if (xs (((l3 + 2) : Int32).toNatClampNeg)) = 0 then 0 else 1) : Int32) μ) ∧ ((¬ (((Int32.ofNat L) - 4) < l3)) → (((xs ((l3).toNatClampNeg)) &&& 31) = 3) → ci_128 (xs (((l3 + 1) : Int32).toNatClampNeg)) ((if (xs (((l3 + 2) : Int32).toNatClampNeg)) = 0 then 0 else 1) : Int32) (cs_4 (xs (((l3 + 1) : Int32).toNatClampNeg)) ((if (xs (((l3 + 2) : Int32).toNatClampNeg)) = 0 then 0 else 1) : Int32) μ)) ∧ ((¬ (((Int32.ofNat L) - 4) < l3)) → (((xs ((l3).toNatClampNeg)) &&& 31) = 3) → ((cv_4 (xs (((l3 + 1) : Int32).toNatClampNeg)) ((if (xs (((l3 + 2) : Int32).toNatClampNeg)) = 0 then 0 else 1) : Int32) μ) = (cv_128 (xs (((l3 + 1) : Int32).toNatClampNeg)) ((if (xs (((l3 + 2) : Int32).toNatClampNeg)) = 0 then 0 else 1) : Int32) (cs_4 (xs (((l3 + 1) : Int32).toNatClampNeg)) ((if (xs (((l3 + 2) : Int32).toNatClampNeg)) = 0 then 0 else 1) : Int32) μ))) → ci_176_48 L xs n (l3 + 4) (cs_128 (xs (((l3 + 1) : Int32).toNatClampNeg)) ((if (xs (((l3 + 2) : Int32).toNatClampNeg)) = 0 then 0 else 1) : Int32) (cs_4 (xs (((l3 + 1) : Int32).toNatClampNeg)) ((if (xs (((l3 + 2) : Int32).toNatClampNeg)) = 0 then 0 else 1) : Int32) μ))) ∧ ((¬ (((Int32.ofNat L) - 4) < l3)) → (((xs ((l3).toNatClampNeg)) &&& 31) = 4) → tm_ix (l3 + 1) L = true) ∧ ((¬ (((Int32.ofNat L) - 4) < l3)) → (((xs ((l3).toNatClampNeg)) &&& 31) = 4) → tm_ix (l3 + 2) L = true) ∧ ((¬ (((Int32.ofNat L) - 4) < l3)) → (((xs ((l3).toNatClampNeg)) &&& 31) = 4) → ci_5 (xs (((l3 + 1) : Int32).toNatClampNeg)) (xs (((l3 + 2) : Int32).toNatClampNeg)) μ) ∧ ((¬ (((Int32.ofNat L) - 4) < l3)) → (((xs ((l3).toNatClampNeg)) &&& 31) = 4) → ci_129 (xs (((l3 + 1) : Int32).toNatClampNeg)) (xs (((l3 + 2) : Int32).toNatClampNeg)) (cs_5 (xs (((l3 + 1) : Int32).toNatClampNeg)) (xs (((l3 + 2) : Int32).toNatClampNeg)) μ)) ∧ ((¬ (((Int32.ofNat L) - 4) < l3)) → (((xs ((l3).toNatClampNeg)) &&& 31) = 4) → ((cv_5 (xs (((l3 + 1) : Int32).toNatClampNeg)) (xs (((l3 + 2) : Int32).toNatClampNeg)) μ) = (cv_129 (xs (((l3 + 1) : Int32).toNatClampNeg)) (xs (((l3 + 2) : Int32).toNatClampNeg)) (cs_5 (xs (((l3 + 1) : Int32).toNatClampNeg)) (xs (((l3 + 2) : Int32).toNatClampNeg)) μ))) → ci_176_48 L xs n (l3 + 4) (cs_129 (xs (((l3 + 1) : Int32).toNatClampNeg)) (xs (((l3 + 2) : Int32).toNatClampNeg)) (cs_5 (xs (((l3 + 1) : Int32).toNatClampNeg)) (xs (((l3 + 2) : Int32).toNatClampNeg)) μ))) ∧ ((¬ (((Int32.ofNat L) - 4) < l3)) → (((xs ((l3).toNatClampNeg)) &&& 31) = 5) → tm_ix (l3 + 1) L = true) ∧ ((¬ (((Int32.ofNat L) - 4) < l3)) → (((xs ((l3).toNatClampNeg)) &&& 31) = 5) → tm_ix (l3 + 2) L = true) ∧ ((¬ (((Int32.ofNat L) - 4) < l3)) → (((xs ((l3).toNatClampNeg)) &&& 31) = 5) → tm_ix (l3 + 3) L = true) ∧ ((¬ (((Int32.ofNat L) - 4) < l3)) → (((xs ((l3).toNatClampNeg)) &&& 31) = 5) → ci_6 (xs (((l3 + 1) : Int32).toNatClampNeg)) (xs (((l3 + 2) : Int32).toNatClampNeg)) (xs (((l3 + 3) : Int32).toNatClampNeg)) μ) ∧ ((¬ (((Int32.ofNat L) - 4) < l3)) → (((xs ((l3).toNatClampNeg)) &&& 31) = 5) → ci_130 (xs (((l3 + 1) : Int32).toNatClampNeg)) (xs (((l3 + 2) : Int32).toNatClampNeg)) (xs (((l3 + 3) : Int32).toNatClampNeg)) (cs_6 (xs (((l3 + 1) : Int32).toNatClampNeg)) (xs (((l3 + 2) : Int32).toNatClampNeg)) (xs (((l3 + 3) : Int32).toNatClampNeg)) μ)) ∧ ((¬ (((Int32.ofNat L) - 4) < l3)) → (((xs ((l3).toNatClampNeg)) &&& 31) = 5) → ((cv_6 (xs (((l3 + 1) : Int32).toNatClampNeg)) (xs (((l3 + 2) : Int32).toNatClampNeg)) (xs (((l3 + 3) : Int32).toNatClampNeg)) μ) = (cv_130 (xs (((l3 + 1) : Int32).toNatClampNeg)) (xs (((l3 + 2) : Int32).toNatClampNeg)) (xs (((l3 + 3) : Int32).toNatClampNeg)) (cs_6 (xs (((l3 + 1) : Int32).toNatClampNeg)) (xs (((l3 + 2) : Int32).toNatClampNeg)) (xs (((l3 + 3) : Int32).toNatClampNeg)) μ))) → ci_176_48 L xs n (l3 + 4) (cs_130 (xs (((l3 + 1) : Int32).toNatClampNeg)) (xs (((l3 + 2) : Int32).toNatClampNeg)) (xs (((l3 + 3) : Int32).toNatClampNeg)) (cs_6 (xs (((l3 + 1) : Int32).toNatClampNeg)) (xs (((l3 + 2) : Int32).toNatClampNeg)) (xs (((l3 + 3) : Int32).toNatClampNeg)) μ))) ∧ ((¬ (((Int32.ofNat L) - 4) < l3)) → (((xs ((l3).toNatClampNeg)) &&& 31) = 6) → tm_ix (l3 + 1) L = true) ∧ ((¬ (((Int32.ofNat L) - 4) < l3)) → (((xs ((l3).toNatClampNeg)) &&& 31) = 6) → ci_7 (xs (((l3 + 1) : Int32).toNatClampNeg)) μ) ∧ ((¬ (((Int32.ofNat L) - 4) < l3)) → (((xs ((l3).toNatClampNeg)) &&& 31) = 6) → ci_132 (xs (((l3 + 1) : Int32).toNatClampNeg)) μ) ∧ ((¬ (((Int32.ofNat L) - 4) < l3)) → (((xs ((l3).toNatClampNeg)) &&& 31) = 6) → ((cv_7 (xs (((l3 + 1) : Int32).toNatClampNeg)) μ) = (cv_132 (xs (((l3 + 1) : Int32).toNatClampNeg)) μ)) → ci_176_48 L xs n (l3 + 4) μ) ∧ ((¬ (((Int32.ofNat L) - 4) < l3)) → (((xs ((l3).toNatClampNeg)) &&& 31) = 7) → tm_ix (l3 + 1) L = true) ∧ ((¬ (((Int32.ofNat L) - 4) < l3)) → (((xs ((l3).toNatClampNeg)) &&& 31) = 7) → ci_8 (xs (((l3 + 1) : Int32).toNatClampNeg)) μ) ∧ ((¬ (((Int32.ofNat L) - 4) < l3)) → (((xs ((l3).toNatClampNeg)) &&& 31) = 7) → ci_162 (xs (((l3 + 1) : Int32).toNatClampNeg)) (cs_8 (xs (((l3 + 1) : Int32).toNatClampNeg)) μ)) ∧ ((¬ (((Int32.ofNat L) - 4) < l3)) → (((xs ((l3).toNatClampNeg)) &&& 31) = 7) → ((cv_8 (xs (((l3 + 1) : Int32).toNatClampNeg)) μ) = (cv_162 (xs (((l3 + 1) : Int32).toNatClampNeg)) (cs_8 (xs (((l3 + 1) : Int32).toNatClampNeg)) μ))) → ci_176_48 L xs n (l3 + 4) (cs_162 (xs (((l3 + 1) : Int32).toNatClampNeg)) (cs_8 (xs (((l3 + 1) : Int32).toNatClampNeg)) μ))) ∧ ((¬ (((Int32.ofNat L) - 4) < l3)) → (((xs ((l3).toNatClampNeg)) &&& 31) = 8) → tm_ix (l3 + 1) L = true) ∧ ((¬ (((Int32.ofNat L) - 4) < l3)) → (((xs ((l3).toNatClampNeg)) &&& 31) = 8) → ci_9 (xs (((l3 + 1) : Int32).toNatClampNeg)) μ) ∧ ((¬ (((Int32.ofNat L) - 4) < l3)) → (((xs ((l3).toNatClampNeg)) &&& 31) = 8) → ci_139 (xs (((l3 + 1) : Int32).toNatClampNeg)) (cs_9 (xs (((l3 + 1) : Int32).toNatClampNeg)) μ)) ∧ ((¬ (((Int32.ofNat L) - 4) < l3)) → (((xs ((l3).toNatClampNeg)) &&& 31) = 8) → ((cv_9 (xs (((l3 + 1) : Int32).toNatClampNeg)) μ) = (cv_139 (xs (((l3 + 1) : Int32).toNatClampNeg)) (cs_9 (xs (((l3 + 1) : Int32).toNatClampNeg)) μ))) → ci_176_48 L xs n (l3 + 4) (cs_139 (xs (((l3 + 1) : Int32).toNatClampNeg)) (cs_9 (xs (((l3 + 1) : Int32).toNatClampNeg)) μ))) ∧ ((¬ (((Int32.ofNat L) - 4) < l3)) → (((xs ((l3).toNatClampNeg)) &&& 31) = 9) → tm_ix (l3 + 1) L = true) ∧ ((¬ (((Int32.ofNat L) - 4) < l3)) → (((xs ((l3).toNatClampNeg)) &&& 31) = 9) → tm_ix (l3 + 2) L = true) ∧ ((¬ (((Int32.ofNat L) - 4) < l3)) → (((xs ((l3).toNatClampNeg)) &&& 31) = 9) → ci_10 (xs (((l3 + 1) : Int32).toNatClampNeg)) ((if (xs (((l3 + 2) : Int32).toNatClampNeg)) = 0 then 0 else 1) : Int32) μ) ∧ ((¬ (((Int32.ofNat L) - 4) < l3)) → (((xs ((l3).toNatClampNeg)) &&& 31) = 9) → ci_138 (xs (((l3 + 1) : Int32).toNatClampNeg)) ((if (xs (((l3 + 2) : Int32).toNatClampNeg)) = 0 then 0 else 1) : Int32) (cs_10 (xs (((l3 + 1) : Int32).toNatClampNeg)) ((if (xs (((l3 + 2) : Int32).toNatClampNeg)) = 0 then 0 else 1) : Int32) μ)) ∧ ((¬ (((Int32.ofNat L) - 4) < l3)) → (((xs ((l3).toNatClampNeg)) &&& 31) = 9) → ((cv_10 (xs (((l3 + 1) : Int32).toNatClampNeg)) ((if (xs (((l3 + 2) : Int32).toNatClampNeg)) = 0 then 0 else 1) : Int32) μ) = (cv_138 (xs (((l3 + 1) : Int32).toNatClampNeg)) ((if (xs (((l3 + 2) : Int32).toNatClampNeg)) = 0 then 0 else 1) : Int32) (cs_10 (xs (((l3 + 1) : Int32).toNatClampNeg)) ((if (xs (((l3 + 2) : Int32).toNatClampNeg)) = 0 then 0 else 1) : Int32) μ))) → ci_176_48 L xs n (l3 + 4) (cs_138 (xs (((l3 + 1) : Int32).toNatClampNeg)) ((if (xs (((l3 + 2) : Int32).toNatClampNeg)) = 0 then 0 else 1) : Int32) (cs_10 (xs (((l3 + 1) : Int32).toNatClampNeg)) ((if (xs (((l3 + 2) : Int32).toNatClampNeg)) = 0 then 0 else 1) : Int32) μ))) ∧ ((¬ (((Int32.ofNat L) - 4) < l3)) → (((xs ((l3).toNatClampNeg)) &&& 31) = 10) → ci_11  μ) ∧ ((¬ (((Int32.ofNat L) - 4) < l3)) → (((xs ((l3).toNatClampNeg)) &&& 31) = 10) → ci_171  (cs_11 μ)) ∧ ((¬ (((Int32.ofNat L) - 4) < l3)) → (((xs ((l3).toNatClampNeg)) &&& 31) = 10) → ((cv_11 μ) = (cv_171 (cs_11 μ))) → ci_176_48 L xs n (l3 + 4) (cs_171 (cs_11 μ))) ∧ ((¬ (((Int32.ofNat L) - 4) < l3)) → (((xs ((l3).toNatClampNeg)) &&& 31) = 11) → ci_12  μ) ∧ ((¬ (((Int32.ofNat L) - 4) < l3)) → (((xs ((l3).toNatClampNeg)) &&& 31) = 11) → ci_153  (cs_12 μ)) ∧ ((¬ (((Int32.ofNat L) - 4) < l3)) → (((xs ((l3).toNatClampNeg)) &&& 31) = 11) → ((cv_12 μ) = (cv_153 (cs_12 μ))) → ci_176_48 L xs n (l3 + 4) (cs_153 (cs_12 μ))) ∧ ((¬ (((Int32.ofNat L) - 4) < l3)) → (((xs ((l3).toNatClampNeg)) &&& 31) = 12) → tm_ix (l3 + 1) L = true) ∧ ((¬ (((Int32.ofNat L) - 4) < l3)) → (((xs ((l3).toNatClampNeg)) &&& 31) = 12) → tm_ix (l3 + 2) L = true) ∧ ((¬ (((Int32.ofNat L) - 4) < l3)) → (((xs ((l3).toNatClampNeg)) &&& 31) = 12) → ci_13 (xs (((l3 + 1) : Int32).toNatClampNeg)) (xs (((l3 + 2) : Int32).toNatClampNeg)) μ) ∧ ((¬ (((Int32.ofNat L) - 4) < l3)) → (((xs ((l3).toNatClampNeg)) &&& 31) = 12) → ci_141 (xs (((l3 + 1) : Int32).toNatClampNeg)) (xs (((l3 + 2) : Int32).toNatClampNeg)) μ) ∧ ((¬ (((Int32.ofNat L) - 4) < l3)) → (((xs ((l3).toNatClampNeg)) &&& 31) = 12) → ((cv_13 (xs (((l3 + 1) : Int32).toNatClampNeg)) (xs (((l3 + 2) : Int32).toNatClampNeg)) μ) = (cv_141 (xs (((l3 + 1) : Int32).toNatClampNeg)) (xs (((l3 + 2) : Int32).toNatClampNeg)) μ)) → ci_176_48 L xs n (l3 + 4) μ) ∧ ((¬ (((Int32.ofNat L) - 4) < l3)) → (((xs ((l3).toNatClampNeg)) &&& 31) = 13) → tm_ix (l3 + 1) L = true) ∧ ((¬ (((Int32.ofNat L) - 4) < l3)) → (((xs ((l3).toNatClampNeg)) &&& 31) = 13) → tm_ix (l3 + 2) L = true) ∧ ((¬ (((Int32.ofNat L) - 4) < l3)) → (((xs ((l3).toNatClampNeg)) &&& 31) = 13) → ci_14 (xs (((l3 + 1) : Int32).toNatClampNeg)) (xs (((l3 + 2) : Int32).toNatClampNeg)) μ) ∧ ((¬ (((Int32.ofNat L) - 4) < l3)) → (((xs ((l3).toNatClampNeg)) &&& 31) = 13) → ci_172 (xs (((l3 + 1) : Int32).toNatClampNeg)) (xs (((l3 + 2) : Int32).toNatClampNeg)) μ) ∧ ((¬ (((Int32.ofNat L) - 4) < l3)) → (((xs ((l3).toNatClampNeg)) &&& 31) = 13) → ((cv_14 (xs (((l3 + 1) : Int32).toNatClampNeg)) (xs (((l3 + 2) : Int32).toNatClampNeg)) μ) = (cv_172 (xs (((l3 + 1) : Int32).toNatClampNeg)) (xs (((l3 + 2) : Int32).toNatClampNeg)) μ)) → ci_176_48 L xs n (l3 + 4) μ) ∧ ((¬ (((Int32.ofNat L) - 4) < l3)) → (((xs ((l3).toNatClampNeg)) &&& 31) = 14) → tm_ix (l3 + 1) L = true) ∧ ((¬ (((Int32.ofNat L) - 4) < l3)) → (((xs ((l3).toNatClampNeg)) &&& 31) = 14) → tm_ix (l3 + 2) L = true) ∧ ((¬ (((Int32.ofNat L) - 4) < l3)) → (((xs ((l3).toNatClampNeg)) &&& 31) = 14) → ci_15 (xs (((l3 + 1) : Int32).toNatClampNeg)) (xs (((l3 + 2) : Int32).toNatClampNeg)) μ) ∧ ((¬ (((Int32.ofNat L) - 4) < l3)) → (((xs ((l3).toNatClampNeg)) &&& 31) = 14) → ci_173 (xs (((l3 + 1) : Int32).toNatClampNeg)) (xs (((l3 + 2) : Int32).toNatClampNeg)) μ) ∧ ((¬ (((Int32.ofNat L) - 4) < l3)) → (((xs ((l3).toNatClampNeg)) &&& 31) = 14) → ((cv_15 (xs (((l3 + 1) : Int32).toNatClampNeg)) (xs (((l3 + 2) : Int32).toNatClampNeg)) μ) = (cv_173 (xs (((l3 + 1) : Int32).toNatClampNeg)) (xs (((l3 + 2) : Int32).toNatClampNeg)) μ)) → ci_176_48 L xs n (l3 + 4) μ) ∧ ((¬ (((Int32.ofNat L) - 4) < l3)) → (((xs ((l3).toNatClampNeg)) &&& 31) = 15) → tm_ix (l3 + 1) L = true) ∧ ((¬ (((Int32.ofNat L) - 4) < l3)) → (((xs ((l3).toNatClampNeg)) &&& 31) = 15) → tm_ix (l3 + 2) L = true) ∧ ((¬ (((Int32.ofNat L) - 4) < l3)) → (((xs ((l3).toNatClampNeg)) &&& 31) = 15) → ci_16 (xs (((l3 + 1) : Int32).toNatClampNeg)) (xs (((l3 + 2) : Int32).toNatClampNeg)) μ) ∧ ((¬ (((Int32.ofNat L) - 4) < l3)) → (((xs ((l3).toNatClampNeg)) &&& 31) = 15) → ci_154 (xs (((l3 + 1) : Int32).toNatClampNeg)) (xs (((l3 + 2) : Int32).toNatClampNeg)) μ) ∧ ((¬ (((Int32.ofNat L) - 4) < l3)) → (((xs ((l3).toNatClampNeg)) &&& 31) = 15) → ((cv_16 (xs (((l3 + 1) : Int32).toNatClampNeg)) (xs (((l3 + 2) : Int32).toNatClampNeg)) μ) = (cv_154 (xs (((l3 + 1) : Int32).toNatClampNeg)) (xs (((l3 + 2) : Int32).toNatClampNeg)) μ)) → ci_176_48 L xs n (l3 + 4) μ) ∧ ((¬ (((Int32.ofNat L) - 4) < l3)) → (((xs ((l3).toNatClampNeg)) &&& 31) = 16) → ((cv_17 μ) = (cv_155 μ)) → ci_176_48 L xs n (l3 + 4) μ)
set_option maxHeartbeats 4000000 in
set_option maxRecDepth 10000 in
theorem tl_176_48 {Q : Option (xm_V tm_R) → tm_M → Prop} {L : Nat} {xs : Nat → Int32} : ∀ (n : Nat) (l3 : Int32) (μ : tm_M), ci_176_48 L xs n l3 μ → (∀ μ, Q (some (.inl 1)) μ) → cv_176_48 L xs n l3 μ = 1 → xr_t (tm_I L xs) (d + 8) 176 48 [some (.inr (some (99, 0))), some (.inr (some (0, 0))), some (.inr (some (36, 0))), some (.inl l3)] [] μ Q := by
  intro n
  induction n with
  | zero => intro l3 μ hi; exact hi.elim
  | succ n ih =>
    intro l3 μ hi hQ h
    unfold ci_176_48 at hi
    simp only [cv_176_48] at h
    refine xr_br 6 (c := ((Int32.ofNat L) - 4) < l3) inferInstance (a := 663) (b := 56) (ls' := [some (.inr (some (99, 0))), some (.inr (some (0, 0))), some (.inr (some (36, 0))), some (.inl l3)]) (st' := []) (s' := μ) rfl (fun c1 => ?_) (fun c1 => ?_)
    · skip
      refine xr_go 1 (pc' := 664) (ls' := [some (.inr (some (99, 0))), some (.inr (some (0, 0))), some (.inr (some (36, 0))), some (.inl l3)]) (st' := [.inl 1]) (s' := μ) rfl ?_
      try simp only [if_pos c1] at h
      exact xr_rt (v := some (.inl 1)) rfl (hQ _)
    · skip
      refine xr_go 2 (pc' := 58) (ls' := [some (.inr (some (99, 0))), some (.inr (some (0, 0))), some (.inr (some (36, 0))), some (.inl l3)]) (st' := [.inl l3, .inr (some (99, 0))]) (s' := μ) rfl ?_
      refine xr_scr rfl (hi.1 c1) ?_
      refine xr_go 2 (pc' := 62) (ls' := [some (.inr (some (99, 0))), some (.inr (some (0, 0))), some (.inr (some (36, 0))), some (.inl l3)]) (st' := [.inl ((xs ((l3).toNatClampNeg)) &&& 31)]) (s' := μ) rfl ?_
      refine xr_ts rfl (fun c2 => ?_) (fun j hj c2 => ?_)
      · skip
        have c2_0 : ¬ ((((xs ((l3).toNatClampNeg)) &&& 31) : Int32) = 0) := fun e => by rw [e] at c2; revert c2; decide
        have c2_1 : ¬ ((((xs ((l3).toNatClampNeg)) &&& 31) : Int32) = 1) := fun e => by rw [e] at c2; revert c2; decide
        have c2_2 : ¬ ((((xs ((l3).toNatClampNeg)) &&& 31) : Int32) = 2) := fun e => by rw [e] at c2; revert c2; decide
        have c2_3 : ¬ ((((xs ((l3).toNatClampNeg)) &&& 31) : Int32) = 3) := fun e => by rw [e] at c2; revert c2; decide
        have c2_4 : ¬ ((((xs ((l3).toNatClampNeg)) &&& 31) : Int32) = 4) := fun e => by rw [e] at c2; revert c2; decide
        have c2_5 : ¬ ((((xs ((l3).toNatClampNeg)) &&& 31) : Int32) = 5) := fun e => by rw [e] at c2; revert c2; decide
        have c2_6 : ¬ ((((xs ((l3).toNatClampNeg)) &&& 31) : Int32) = 6) := fun e => by rw [e] at c2; revert c2; decide
        have c2_7 : ¬ ((((xs ((l3).toNatClampNeg)) &&& 31) : Int32) = 7) := fun e => by rw [e] at c2; revert c2; decide
        have c2_8 : ¬ ((((xs ((l3).toNatClampNeg)) &&& 31) : Int32) = 8) := fun e => by rw [e] at c2; revert c2; decide
        have c2_9 : ¬ ((((xs ((l3).toNatClampNeg)) &&& 31) : Int32) = 9) := fun e => by rw [e] at c2; revert c2; decide
        have c2_10 : ¬ ((((xs ((l3).toNatClampNeg)) &&& 31) : Int32) = 10) := fun e => by rw [e] at c2; revert c2; decide
        have c2_11 : ¬ ((((xs ((l3).toNatClampNeg)) &&& 31) : Int32) = 11) := fun e => by rw [e] at c2; revert c2; decide
        have c2_12 : ¬ ((((xs ((l3).toNatClampNeg)) &&& 31) : Int32) = 12) := fun e => by rw [e] at c2; revert c2; decide
        have c2_13 : ¬ ((((xs ((l3).toNatClampNeg)) &&& 31) : Int32) = 13) := fun e => by rw [e] at c2; revert c2; decide
        have c2_14 : ¬ ((((xs ((l3).toNatClampNeg)) &&& 31) : Int32) = 14) := fun e => by rw [e] at c2; revert c2; decide
        have c2_15 : ¬ ((((xs ((l3).toNatClampNeg)) &&& 31) : Int32) = 15) := fun e => by rw [e] at c2; revert c2; decide
        have c2_16 : ¬ ((((xs ((l3).toNatClampNeg)) &&& 31) : Int32) = 16) := fun e => by rw [e] at c2; revert c2; decide
        refine xr_go 2 (pc' := 48) (ls' := [some (.inr (some (99, 0))), some (.inr (some (0, 0))), some (.inr (some (36, 0))), some (.inl (l3 + 4))]) (st' := []) (s' := μ) rfl ?_
        try simp only [if_neg c1, if_neg c2_0, if_neg c2_1, if_neg c2_2, if_neg c2_3, if_neg c2_4, if_neg c2_5, if_neg c2_6, if_neg c2_7, if_neg c2_8, if_neg c2_9, if_neg c2_10, if_neg c2_11, if_neg c2_12, if_neg c2_13, if_neg c2_14, if_neg c2_15, if_neg c2_16] at h
        exact ih (l3 + 4) μ (hi.2.1 c1 c2) hQ h
      · have hj2 : j < 17 := by omega
        match j, hj2, c2 with
        | 0, _, c2 =>
          replace c2 : (((xs ((l3).toNatClampNeg)) &&& 31) : Int32) = 0 := c2
          show xr_t _ _ _ 144 _ _ _ _
          refine xr_go 5 (pc' := 149) (ls' := [some (.inr (some (99, 0))), some (.inr (some (0, 0))), some (.inr (some (36, 0))), some (.inl l3)]) (st' := [.inl (l3 + 1), .inr (some (99, 0)), .inr (some (0, 0))]) (s' := μ) rfl ?_
          refine xr_scr rfl (hi.2.2.1 c1 c2) ?_
          refine xr_go 4 (pc' := 154) (ls' := [some (.inr (some (99, 0))), some (.inr (some (0, 0))), some (.inr (some (36, 0))), some (.inl l3)]) (st' := [.inl (l3 + 2), .inr (some (99, 0)), .inl (xs (((l3 + 1) : Int32).toNatClampNeg)), .inr (some (0, 0))]) (s' := μ) rfl ?_
          refine xr_scr rfl (hi.2.2.2.1 c1 c2) ?_
          refine xr_go 4 (pc' := 159) (ls' := [some (.inr (some (99, 0))), some (.inr (some (0, 0))), some (.inr (some (36, 0))), some (.inl l3)]) (st' := [.inl (l3 + 3), .inr (some (99, 0)), .inl (xs (((l3 + 2) : Int32).toNatClampNeg)), .inl (xs (((l3 + 1) : Int32).toNatClampNeg)), .inr (some (0, 0))]) (s' := μ) rfl ?_
          refine xr_scr rfl (hi.2.2.2.2.1 c1 c2) ?_
          refine xr_cl (y' := 1) (as := [.inr (some (0, 0)), .inl (xs (((l3 + 1) : Int32).toNatClampNeg)), .inl (xs (((l3 + 2) : Int32).toNatClampNeg)), .inl (xs (((l3 + 3) : Int32).toNatClampNeg))]) (r := []) rfl rfl ?_
          refine tf_1 (d := d + 5) (μ := μ) (a1 := (xs (((l3 + 1) : Int32).toNatClampNeg))) (a2 := (xs (((l3 + 2) : Int32).toNatClampNeg))) (a3 := (xs (((l3 + 3) : Int32).toNatClampNeg))) (hi.2.2.2.2.2.1 c1 c2) ?_
          show xr_t (tm_I L xs) (d + 8) 176 163 [some (.inr (some (99, 0))), some (.inr (some (0, 0))), some (.inr (some (36, 0))), some (.inl l3)] [.inl (cv_1 (xs (((l3 + 1) : Int32).toNatClampNeg)) (xs (((l3 + 2) : Int32).toNatClampNeg)) (xs (((l3 + 3) : Int32).toNatClampNeg)) μ)] (cs_1 (xs (((l3 + 1) : Int32).toNatClampNeg)) (xs (((l3 + 2) : Int32).toNatClampNeg)) (xs (((l3 + 3) : Int32).toNatClampNeg)) μ) Q
          have z1 : (cv_1 (xs (((l3 + 1) : Int32).toNatClampNeg)) (xs (((l3 + 2) : Int32).toNatClampNeg)) (xs (((l3 + 3) : Int32).toNatClampNeg)) μ) = 0 ∨ (cv_1 (xs (((l3 + 1) : Int32).toNatClampNeg)) (xs (((l3 + 2) : Int32).toNatClampNeg)) (xs (((l3 + 3) : Int32).toNatClampNeg)) μ) = 1 := cz_1
          generalize gv1 : (cv_1 (xs (((l3 + 1) : Int32).toNatClampNeg)) (xs (((l3 + 2) : Int32).toNatClampNeg)) (xs (((l3 + 3) : Int32).toNatClampNeg)) μ) = v1 at h hi z1 ⊢
          generalize gμ2 : (cs_1 (xs (((l3 + 1) : Int32).toNatClampNeg)) (xs (((l3 + 2) : Int32).toNatClampNeg)) (xs (((l3 + 3) : Int32).toNatClampNeg)) μ) = μ2 at h hi ⊢
          refine xr_go 5 (pc' := 168) (ls' := [some (.inr (some (99, 0))), some (.inr (some (0, 0))), some (.inr (some (36, 0))), some (.inl l3)]) (st' := [.inl (l3 + 1), .inr (some (99, 0)), .inr (some (36, 0)), .inl v1]) (s' := μ2) rfl ?_
          refine xr_scr rfl (hi.2.2.1 c1 c2) ?_
          refine xr_go 4 (pc' := 173) (ls' := [some (.inr (some (99, 0))), some (.inr (some (0, 0))), some (.inr (some (36, 0))), some (.inl l3)]) (st' := [.inl (l3 + 2), .inr (some (99, 0)), .inl (xs (((l3 + 1) : Int32).toNatClampNeg)), .inr (some (36, 0)), .inl v1]) (s' := μ2) rfl ?_
          refine xr_scr rfl (hi.2.2.2.1 c1 c2) ?_
          refine xr_go 4 (pc' := 178) (ls' := [some (.inr (some (99, 0))), some (.inr (some (0, 0))), some (.inr (some (36, 0))), some (.inl l3)]) (st' := [.inl (l3 + 3), .inr (some (99, 0)), .inl (xs (((l3 + 2) : Int32).toNatClampNeg)), .inl (xs (((l3 + 1) : Int32).toNatClampNeg)), .inr (some (36, 0)), .inl v1]) (s' := μ2) rfl ?_
          refine xr_scr rfl (hi.2.2.2.2.1 c1 c2) ?_
          refine xr_cl (y' := 125) (as := [.inr (some (36, 0)), .inl (xs (((l3 + 1) : Int32).toNatClampNeg)), .inl (xs (((l3 + 2) : Int32).toNatClampNeg)), .inl (xs (((l3 + 3) : Int32).toNatClampNeg))]) (r := [.inl v1]) rfl rfl ?_
          refine tf_125 (d := d + 7) (μ := μ2) (a1 := (xs (((l3 + 1) : Int32).toNatClampNeg))) (a2 := (xs (((l3 + 2) : Int32).toNatClampNeg))) (a3 := (xs (((l3 + 3) : Int32).toNatClampNeg))) (hi.2.2.2.2.2.2.1 c1 c2) ?_
          show xr_t (tm_I L xs) (d + 8) 176 182 [some (.inr (some (99, 0))), some (.inr (some (0, 0))), some (.inr (some (36, 0))), some (.inl l3)] [.inl (cv_125 (xs (((l3 + 1) : Int32).toNatClampNeg)) (xs (((l3 + 2) : Int32).toNatClampNeg)) (xs (((l3 + 3) : Int32).toNatClampNeg)) μ2), .inl v1] (cs_125 (xs (((l3 + 1) : Int32).toNatClampNeg)) (xs (((l3 + 2) : Int32).toNatClampNeg)) (xs (((l3 + 3) : Int32).toNatClampNeg)) μ2) Q
          have z3 : (cv_125 (xs (((l3 + 1) : Int32).toNatClampNeg)) (xs (((l3 + 2) : Int32).toNatClampNeg)) (xs (((l3 + 3) : Int32).toNatClampNeg)) μ2) = 0 ∨ (cv_125 (xs (((l3 + 1) : Int32).toNatClampNeg)) (xs (((l3 + 2) : Int32).toNatClampNeg)) (xs (((l3 + 3) : Int32).toNatClampNeg)) μ2) = 1 := cz_125
          generalize gv3 : (cv_125 (xs (((l3 + 1) : Int32).toNatClampNeg)) (xs (((l3 + 2) : Int32).toNatClampNeg)) (xs (((l3 + 3) : Int32).toNatClampNeg)) μ2) = v3 at h hi z3 ⊢
          generalize gμ4 : (cs_125 (xs (((l3 + 1) : Int32).toNatClampNeg)) (xs (((l3 + 2) : Int32).toNatClampNeg)) (xs (((l3 + 3) : Int32).toNatClampNeg)) μ2) = μ4 at h hi ⊢
          refine xr_br 1 (c := v1 = v3) inferInstance (a := 657) (b := 185) (ls' := [some (.inr (some (99, 0))), some (.inr (some (0, 0))), some (.inr (some (36, 0))), some (.inl l3)]) (st' := []) (s' := μ4) rfl (fun c3 => ?_) (fun c3 => ?_)
          · skip
            refine xr_go 2 (pc' := 48) (ls' := [some (.inr (some (99, 0))), some (.inr (some (0, 0))), some (.inr (some (36, 0))), some (.inl (l3 + 4))]) (st' := []) (s' := μ4) rfl ?_
            try simp only [if_neg c1, if_pos c2, if_pos c3] at h
            exact ih (l3 + 4) μ4 (hi.2.2.2.2.2.2.2.1 c1 c2 c3) hQ h
          · skip
            refine xr_go 1 (pc' := 186) (ls' := [some (.inr (some (99, 0))), some (.inr (some (0, 0))), some (.inr (some (36, 0))), some (.inl l3)]) (st' := [.inl 0]) (s' := μ4) rfl ?_
            try simp only [if_neg c1, if_pos c2, if_neg c3] at h
            exact absurd h (by decide)
        | 1, _, c2 =>
          replace c2 : (((xs ((l3).toNatClampNeg)) &&& 31) : Int32) = 1 := c2
          show xr_t _ _ _ 187 _ _ _ _
          have c2_0 : ¬ ((((xs ((l3).toNatClampNeg)) &&& 31) : Int32) = 0) := by rw [c2]; decide
          refine xr_go 5 (pc' := 192) (ls' := [some (.inr (some (99, 0))), some (.inr (some (0, 0))), some (.inr (some (36, 0))), some (.inl l3)]) (st' := [.inl (l3 + 1), .inr (some (99, 0)), .inr (some (0, 0))]) (s' := μ) rfl ?_
          refine xr_scr rfl (hi.2.2.2.2.2.2.2.2.1 c1 c2) ?_
          refine xr_cl (y' := 2) (as := [.inr (some (0, 0)), .inl (xs (((l3 + 1) : Int32).toNatClampNeg))]) (r := []) rfl rfl ?_
          refine tf_2 (d := d + 5) (μ := μ) (a1 := (xs (((l3 + 1) : Int32).toNatClampNeg))) (hi.2.2.2.2.2.2.2.2.2.1 c1 c2) ?_
          show xr_t (tm_I L xs) (d + 8) 176 196 [some (.inr (some (99, 0))), some (.inr (some (0, 0))), some (.inr (some (36, 0))), some (.inl l3)] [.inl (cv_2 (xs (((l3 + 1) : Int32).toNatClampNeg)) μ)] (cs_2 (xs (((l3 + 1) : Int32).toNatClampNeg)) μ) Q
          generalize gv5 : (cv_2 (xs (((l3 + 1) : Int32).toNatClampNeg)) μ) = v5 at h hi ⊢
          generalize gμ6 : (cs_2 (xs (((l3 + 1) : Int32).toNatClampNeg)) μ) = μ6 at h hi ⊢
          refine xr_go 5 (pc' := 201) (ls' := [some (.inr (some (99, 0))), some (.inr (some (0, 0))), some (.inr (some (36, 0))), some (.inl l3)]) (st' := [.inl (l3 + 1), .inr (some (99, 0)), .inr (some (36, 0)), .inl v5]) (s' := μ6) rfl ?_
          refine xr_scr rfl (hi.2.2.2.2.2.2.2.2.1 c1 c2) ?_
          refine xr_cl (y' := 126) (as := [.inr (some (36, 0)), .inl (xs (((l3 + 1) : Int32).toNatClampNeg))]) (r := [.inl v5]) rfl rfl ?_
          refine tf_126 (d := d + 7) (μ := μ6) (a1 := (xs (((l3 + 1) : Int32).toNatClampNeg))) (hi.2.2.2.2.2.2.2.2.2.2.1 c1 c2) ?_
          show xr_t (tm_I L xs) (d + 8) 176 205 [some (.inr (some (99, 0))), some (.inr (some (0, 0))), some (.inr (some (36, 0))), some (.inl l3)] [.inl (cv_126 (xs (((l3 + 1) : Int32).toNatClampNeg)) μ6), .inl v5] (cs_126 (xs (((l3 + 1) : Int32).toNatClampNeg)) μ6) Q
          generalize gv7 : (cv_126 (xs (((l3 + 1) : Int32).toNatClampNeg)) μ6) = v7 at h hi ⊢
          generalize gμ8 : (cs_126 (xs (((l3 + 1) : Int32).toNatClampNeg)) μ6) = μ8 at h hi ⊢
          refine xr_br 1 (c := v5 = v7) inferInstance (a := 657) (b := 208) (ls' := [some (.inr (some (99, 0))), some (.inr (some (0, 0))), some (.inr (some (36, 0))), some (.inl l3)]) (st' := []) (s' := μ8) rfl (fun c4 => ?_) (fun c4 => ?_)
          · skip
            refine xr_go 2 (pc' := 48) (ls' := [some (.inr (some (99, 0))), some (.inr (some (0, 0))), some (.inr (some (36, 0))), some (.inl (l3 + 4))]) (st' := []) (s' := μ8) rfl ?_
            try simp only [if_neg c1, if_neg c2_0, if_pos c2, if_pos c4] at h
            exact ih (l3 + 4) μ8 (hi.2.2.2.2.2.2.2.2.2.2.2.1 c1 c2 c4) hQ h
          · skip
            refine xr_go 1 (pc' := 209) (ls' := [some (.inr (some (99, 0))), some (.inr (some (0, 0))), some (.inr (some (36, 0))), some (.inl l3)]) (st' := [.inl 0]) (s' := μ8) rfl ?_
            try simp only [if_neg c1, if_neg c2_0, if_pos c2, if_neg c4] at h
            exact absurd h (by decide)
        | 2, _, c2 =>
          replace c2 : (((xs ((l3).toNatClampNeg)) &&& 31) : Int32) = 2 := c2
          show xr_t _ _ _ 210 _ _ _ _
          have c2_0 : ¬ ((((xs ((l3).toNatClampNeg)) &&& 31) : Int32) = 0) := by rw [c2]; decide
          have c2_1 : ¬ ((((xs ((l3).toNatClampNeg)) &&& 31) : Int32) = 1) := by rw [c2]; decide
          refine xr_go 5 (pc' := 215) (ls' := [some (.inr (some (99, 0))), some (.inr (some (0, 0))), some (.inr (some (36, 0))), some (.inl l3)]) (st' := [.inl (l3 + 1), .inr (some (99, 0)), .inr (some (0, 0))]) (s' := μ) rfl ?_
          refine xr_scr rfl (hi.2.2.2.2.2.2.2.2.2.2.2.2.1 c1 c2) ?_
          refine xr_go 4 (pc' := 220) (ls' := [some (.inr (some (99, 0))), some (.inr (some (0, 0))), some (.inr (some (36, 0))), some (.inl l3)]) (st' := [.inl (l3 + 2), .inr (some (99, 0)), .inl (xs (((l3 + 1) : Int32).toNatClampNeg)), .inr (some (0, 0))]) (s' := μ) rfl ?_
          refine xr_scr rfl (hi.2.2.2.2.2.2.2.2.2.2.2.2.2.1 c1 c2) ?_
          refine xr_cl (y' := 3) (as := [.inr (some (0, 0)), .inl (xs (((l3 + 1) : Int32).toNatClampNeg)), .inl (xs (((l3 + 2) : Int32).toNatClampNeg))]) (r := []) rfl rfl ?_
          refine tf_3 (d := d + 5) (μ := μ) (a1 := (xs (((l3 + 1) : Int32).toNatClampNeg))) (a2 := (xs (((l3 + 2) : Int32).toNatClampNeg))) (hi.2.2.2.2.2.2.2.2.2.2.2.2.2.2.1 c1 c2) ?_
          show xr_t (tm_I L xs) (d + 8) 176 224 [some (.inr (some (99, 0))), some (.inr (some (0, 0))), some (.inr (some (36, 0))), some (.inl l3)] [.inl (cv_3 (xs (((l3 + 1) : Int32).toNatClampNeg)) (xs (((l3 + 2) : Int32).toNatClampNeg)) μ)] (cs_3 (xs (((l3 + 1) : Int32).toNatClampNeg)) (xs (((l3 + 2) : Int32).toNatClampNeg)) μ) Q
          have z9 : (cv_3 (xs (((l3 + 1) : Int32).toNatClampNeg)) (xs (((l3 + 2) : Int32).toNatClampNeg)) μ) = 0 ∨ (cv_3 (xs (((l3 + 1) : Int32).toNatClampNeg)) (xs (((l3 + 2) : Int32).toNatClampNeg)) μ) = 1 := cz_3
          generalize gv9 : (cv_3 (xs (((l3 + 1) : Int32).toNatClampNeg)) (xs (((l3 + 2) : Int32).toNatClampNeg)) μ) = v9 at h hi z9 ⊢
          generalize gμ10 : (cs_3 (xs (((l3 + 1) : Int32).toNatClampNeg)) (xs (((l3 + 2) : Int32).toNatClampNeg)) μ) = μ10 at h hi ⊢
          refine xr_go 5 (pc' := 229) (ls' := [some (.inr (some (99, 0))), some (.inr (some (0, 0))), some (.inr (some (36, 0))), some (.inl l3)]) (st' := [.inl (l3 + 1), .inr (some (99, 0)), .inr (some (36, 0)), .inl v9]) (s' := μ10) rfl ?_
          refine xr_scr rfl (hi.2.2.2.2.2.2.2.2.2.2.2.2.1 c1 c2) ?_
          refine xr_go 4 (pc' := 234) (ls' := [some (.inr (some (99, 0))), some (.inr (some (0, 0))), some (.inr (some (36, 0))), some (.inl l3)]) (st' := [.inl (l3 + 2), .inr (some (99, 0)), .inl (xs (((l3 + 1) : Int32).toNatClampNeg)), .inr (some (36, 0)), .inl v9]) (s' := μ10) rfl ?_
          refine xr_scr rfl (hi.2.2.2.2.2.2.2.2.2.2.2.2.2.1 c1 c2) ?_
          refine xr_cl (y' := 127) (as := [.inr (some (36, 0)), .inl (xs (((l3 + 1) : Int32).toNatClampNeg)), .inl (xs (((l3 + 2) : Int32).toNatClampNeg))]) (r := [.inl v9]) rfl rfl ?_
          refine tf_127 (d := d + 6) (μ := μ10) (a1 := (xs (((l3 + 1) : Int32).toNatClampNeg))) (a2 := (xs (((l3 + 2) : Int32).toNatClampNeg))) (hi.2.2.2.2.2.2.2.2.2.2.2.2.2.2.2.1 c1 c2) ?_
          show xr_t (tm_I L xs) (d + 8) 176 238 [some (.inr (some (99, 0))), some (.inr (some (0, 0))), some (.inr (some (36, 0))), some (.inl l3)] [.inl (cv_127 (xs (((l3 + 1) : Int32).toNatClampNeg)) (xs (((l3 + 2) : Int32).toNatClampNeg)) μ10), .inl v9] (cs_127 (xs (((l3 + 1) : Int32).toNatClampNeg)) (xs (((l3 + 2) : Int32).toNatClampNeg)) μ10) Q
          generalize gv11 : (cv_127 (xs (((l3 + 1) : Int32).toNatClampNeg)) (xs (((l3 + 2) : Int32).toNatClampNeg)) μ10) = v11 at h hi ⊢
          generalize gμ12 : (cs_127 (xs (((l3 + 1) : Int32).toNatClampNeg)) (xs (((l3 + 2) : Int32).toNatClampNeg)) μ10) = μ12 at h hi ⊢
          refine xr_br 1 (c := v9 = v11) inferInstance (a := 657) (b := 241) (ls' := [some (.inr (some (99, 0))), some (.inr (some (0, 0))), some (.inr (some (36, 0))), some (.inl l3)]) (st' := []) (s' := μ12) rfl (fun c5 => ?_) (fun c5 => ?_)
          · skip
            refine xr_go 2 (pc' := 48) (ls' := [some (.inr (some (99, 0))), some (.inr (some (0, 0))), some (.inr (some (36, 0))), some (.inl (l3 + 4))]) (st' := []) (s' := μ12) rfl ?_
            try simp only [if_neg c1, if_neg c2_0, if_neg c2_1, if_pos c2, if_pos c5] at h
            exact ih (l3 + 4) μ12 (hi.2.2.2.2.2.2.2.2.2.2.2.2.2.2.2.2.1 c1 c2 c5) hQ h
          · skip
            refine xr_go 1 (pc' := 242) (ls' := [some (.inr (some (99, 0))), some (.inr (some (0, 0))), some (.inr (some (36, 0))), some (.inl l3)]) (st' := [.inl 0]) (s' := μ12) rfl ?_
            try simp only [if_neg c1, if_neg c2_0, if_neg c2_1, if_pos c2, if_neg c5] at h
            exact absurd h (by decide)
        | 3, _, c2 =>
          replace c2 : (((xs ((l3).toNatClampNeg)) &&& 31) : Int32) = 3 := c2
          show xr_t _ _ _ 243 _ _ _ _
          have c2_0 : ¬ ((((xs ((l3).toNatClampNeg)) &&& 31) : Int32) = 0) := by rw [c2]; decide
          have c2_1 : ¬ ((((xs ((l3).toNatClampNeg)) &&& 31) : Int32) = 1) := by rw [c2]; decide
          have c2_2 : ¬ ((((xs ((l3).toNatClampNeg)) &&& 31) : Int32) = 2) := by rw [c2]; decide
          refine xr_go 5 (pc' := 248) (ls' := [some (.inr (some (99, 0))), some (.inr (some (0, 0))), some (.inr (some (36, 0))), some (.inl l3)]) (st' := [.inl (l3 + 1), .inr (some (99, 0)), .inr (some (0, 0))]) (s' := μ) rfl ?_
          refine xr_scr rfl (hi.2.2.2.2.2.2.2.2.2.2.2.2.2.2.2.2.2.1 c1 c2) ?_
          refine xr_go 4 (pc' := 253) (ls' := [some (.inr (some (99, 0))), some (.inr (some (0, 0))), some (.inr (some (36, 0))), some (.inl l3)]) (st' := [.inl (l3 + 2), .inr (some (99, 0)), .inl (xs (((l3 + 1) : Int32).toNatClampNeg)), .inr (some (0, 0))]) (s' := μ) rfl ?_
          refine xr_scr rfl (hi.2.2.2.2.2.2.2.2.2.2.2.2.2.2.2.2.2.2.1 c1 c2) ?_
          suffices hj6 : xr_t (tm_I L xs) (d + 8) 176 262 [some (.inr (some (99, 0))), some (.inr (some (0, 0))), some (.inr (some (36, 0))), some (.inl l3)] [.inl ((if (xs (((l3 + 2) : Int32).toNatClampNeg)) = 0 then 0 else 1) : Int32), .inl (xs (((l3 + 1) : Int32).toNatClampNeg)), .inr (some (0, 0))] μ Q by
            refine xr_br 1 (c := (xs (((l3 + 2) : Int32).toNatClampNeg)) = 0) inferInstance (a := 261) (b := 257) (ls' := [some (.inr (some (99, 0))), some (.inr (some (0, 0))), some (.inr (some (36, 0))), some (.inl l3)]) (st' := [.inl (xs (((l3 + 1) : Int32).toNatClampNeg)), .inr (some (0, 0))]) (s' := μ) rfl (fun c6 => ?_) (fun c6 => ?_)
            · skip
              refine xr_go 1 (pc' := 262) (ls' := [some (.inr (some (99, 0))), some (.inr (some (0, 0))), some (.inr (some (36, 0))), some (.inl l3)]) (st' := [.inl 0, .inl (xs (((l3 + 1) : Int32).toNatClampNeg)), .inr (some (0, 0))]) (s' := μ) rfl ?_
              have ehj6 : ((if (xs (((l3 + 2) : Int32).toNatClampNeg)) = 0 then 0 else 1) : Int32) = 0 := by first | rfl | simp only [if_pos c6]
              rw [ehj6] at hj6
              exact hj6
            · skip
              refine xr_go 2 (pc' := 262) (ls' := [some (.inr (some (99, 0))), some (.inr (some (0, 0))), some (.inr (some (36, 0))), some (.inl l3)]) (st' := [.inl 1, .inl (xs (((l3 + 1) : Int32).toNatClampNeg)), .inr (some (0, 0))]) (s' := μ) rfl ?_
              have ehj6 : ((if (xs (((l3 + 2) : Int32).toNatClampNeg)) = 0 then 0 else 1) : Int32) = 1 := by first | rfl | simp only [if_neg c6]
              rw [ehj6] at hj6
              exact hj6
          refine xr_cl (y' := 4) (as := [.inr (some (0, 0)), .inl (xs (((l3 + 1) : Int32).toNatClampNeg)), .inl ((if (xs (((l3 + 2) : Int32).toNatClampNeg)) = 0 then 0 else 1) : Int32)]) (r := []) rfl rfl ?_
          refine tf_4 (d := d + 5) (μ := μ) (a1 := (xs (((l3 + 1) : Int32).toNatClampNeg))) (a2 := ((if (xs (((l3 + 2) : Int32).toNatClampNeg)) = 0 then 0 else 1) : Int32)) (hi.2.2.2.2.2.2.2.2.2.2.2.2.2.2.2.2.2.2.2.1 c1 c2) ?_
          show xr_t (tm_I L xs) (d + 8) 176 265 [some (.inr (some (99, 0))), some (.inr (some (0, 0))), some (.inr (some (36, 0))), some (.inl l3)] [.inl (cv_4 (xs (((l3 + 1) : Int32).toNatClampNeg)) ((if (xs (((l3 + 2) : Int32).toNatClampNeg)) = 0 then 0 else 1) : Int32) μ)] (cs_4 (xs (((l3 + 1) : Int32).toNatClampNeg)) ((if (xs (((l3 + 2) : Int32).toNatClampNeg)) = 0 then 0 else 1) : Int32) μ) Q
          have z13 : (cv_4 (xs (((l3 + 1) : Int32).toNatClampNeg)) ((if (xs (((l3 + 2) : Int32).toNatClampNeg)) = 0 then 0 else 1) : Int32) μ) = 0 ∨ (cv_4 (xs (((l3 + 1) : Int32).toNatClampNeg)) ((if (xs (((l3 + 2) : Int32).toNatClampNeg)) = 0 then 0 else 1) : Int32) μ) = 1 := cz_4
          generalize gv13 : (cv_4 (xs (((l3 + 1) : Int32).toNatClampNeg)) ((if (xs (((l3 + 2) : Int32).toNatClampNeg)) = 0 then 0 else 1) : Int32) μ) = v13 at h hi z13 ⊢
          generalize gμ14 : (cs_4 (xs (((l3 + 1) : Int32).toNatClampNeg)) ((if (xs (((l3 + 2) : Int32).toNatClampNeg)) = 0 then 0 else 1) : Int32) μ) = μ14 at h hi ⊢
          refine xr_go 5 (pc' := 270) (ls' := [some (.inr (some (99, 0))), some (.inr (some (0, 0))), some (.inr (some (36, 0))), some (.inl l3)]) (st' := [.inl (l3 + 1), .inr (some (99, 0)), .inr (some (36, 0)), .inl v13]) (s' := μ14) rfl ?_
          refine xr_scr rfl (hi.2.2.2.2.2.2.2.2.2.2.2.2.2.2.2.2.2.1 c1 c2) ?_
          refine xr_go 4 (pc' := 275) (ls' := [some (.inr (some (99, 0))), some (.inr (some (0, 0))), some (.inr (some (36, 0))), some (.inl l3)]) (st' := [.inl (l3 + 2), .inr (some (99, 0)), .inl (xs (((l3 + 1) : Int32).toNatClampNeg)), .inr (some (36, 0)), .inl v13]) (s' := μ14) rfl ?_
          refine xr_scr rfl (hi.2.2.2.2.2.2.2.2.2.2.2.2.2.2.2.2.2.2.1 c1 c2) ?_
          suffices hj7 : xr_t (tm_I L xs) (d + 8) 176 284 [some (.inr (some (99, 0))), some (.inr (some (0, 0))), some (.inr (some (36, 0))), some (.inl l3)] [.inl ((if (xs (((l3 + 2) : Int32).toNatClampNeg)) = 0 then 0 else 1) : Int32), .inl (xs (((l3 + 1) : Int32).toNatClampNeg)), .inr (some (36, 0)), .inl v13] μ14 Q by
            refine xr_br 1 (c := (xs (((l3 + 2) : Int32).toNatClampNeg)) = 0) inferInstance (a := 283) (b := 279) (ls' := [some (.inr (some (99, 0))), some (.inr (some (0, 0))), some (.inr (some (36, 0))), some (.inl l3)]) (st' := [.inl (xs (((l3 + 1) : Int32).toNatClampNeg)), .inr (some (36, 0)), .inl v13]) (s' := μ14) rfl (fun c7 => ?_) (fun c7 => ?_)
            · skip
              refine xr_go 1 (pc' := 284) (ls' := [some (.inr (some (99, 0))), some (.inr (some (0, 0))), some (.inr (some (36, 0))), some (.inl l3)]) (st' := [.inl 0, .inl (xs (((l3 + 1) : Int32).toNatClampNeg)), .inr (some (36, 0)), .inl v13]) (s' := μ14) rfl ?_
              have ehj7 : ((if (xs (((l3 + 2) : Int32).toNatClampNeg)) = 0 then 0 else 1) : Int32) = 0 := by first | rfl | simp only [if_pos c7]
              rw [ehj7] at hj7
              exact hj7
            · skip
              refine xr_go 2 (pc' := 284) (ls' := [some (.inr (some (99, 0))), some (.inr (some (0, 0))), some (.inr (some (36, 0))), some (.inl l3)]) (st' := [.inl 1, .inl (xs (((l3 + 1) : Int32).toNatClampNeg)), .inr (some (36, 0)), .inl v13]) (s' := μ14) rfl ?_
              have ehj7 : ((if (xs (((l3 + 2) : Int32).toNatClampNeg)) = 0 then 0 else 1) : Int32) = 1 := by first | rfl | simp only [if_neg c7]
              rw [ehj7] at hj7
              exact hj7
          refine xr_cl (y' := 128) (as := [.inr (some (36, 0)), .inl (xs (((l3 + 1) : Int32).toNatClampNeg)), .inl ((if (xs (((l3 + 2) : Int32).toNatClampNeg)) = 0 then 0 else 1) : Int32)]) (r := [.inl v13]) rfl rfl ?_
          refine tf_128 (d := d + 6) (μ := μ14) (a1 := (xs (((l3 + 1) : Int32).toNatClampNeg))) (a2 := ((if (xs (((l3 + 2) : Int32).toNatClampNeg)) = 0 then 0 else 1) : Int32)) (hi.2.2.2.2.2.2.2.2.2.2.2.2.2.2.2.2.2.2.2.2.1 c1 c2) ?_
          show xr_t (tm_I L xs) (d + 8) 176 287 [some (.inr (some (99, 0))), some (.inr (some (0, 0))), some (.inr (some (36, 0))), some (.inl l3)] [.inl (cv_128 (xs (((l3 + 1) : Int32).toNatClampNeg)) ((if (xs (((l3 + 2) : Int32).toNatClampNeg)) = 0 then 0 else 1) : Int32) μ14), .inl v13] (cs_128 (xs (((l3 + 1) : Int32).toNatClampNeg)) ((if (xs (((l3 + 2) : Int32).toNatClampNeg)) = 0 then 0 else 1) : Int32) μ14) Q
          have z15 : (cv_128 (xs (((l3 + 1) : Int32).toNatClampNeg)) ((if (xs (((l3 + 2) : Int32).toNatClampNeg)) = 0 then 0 else 1) : Int32) μ14) = 0 ∨ (cv_128 (xs (((l3 + 1) : Int32).toNatClampNeg)) ((if (xs (((l3 + 2) : Int32).toNatClampNeg)) = 0 then 0 else 1) : Int32) μ14) = 1 := cz_128
          generalize gv15 : (cv_128 (xs (((l3 + 1) : Int32).toNatClampNeg)) ((if (xs (((l3 + 2) : Int32).toNatClampNeg)) = 0 then 0 else 1) : Int32) μ14) = v15 at h hi z15 ⊢
          generalize gμ16 : (cs_128 (xs (((l3 + 1) : Int32).toNatClampNeg)) ((if (xs (((l3 + 2) : Int32).toNatClampNeg)) = 0 then 0 else 1) : Int32) μ14) = μ16 at h hi ⊢
          refine xr_br 1 (c := v13 = v15) inferInstance (a := 657) (b := 290) (ls' := [some (.inr (some (99, 0))), some (.inr (some (0, 0))), some (.inr (some (36, 0))), some (.inl l3)]) (st' := []) (s' := μ16) rfl (fun c8 => ?_) (fun c8 => ?_)
          · skip
            refine xr_go 2 (pc' := 48) (ls' := [some (.inr (some (99, 0))), some (.inr (some (0, 0))), some (.inr (some (36, 0))), some (.inl (l3 + 4))]) (st' := []) (s' := μ16) rfl ?_
            try simp only [if_neg c1, if_neg c2_0, if_neg c2_1, if_neg c2_2, if_pos c2, if_pos c8] at h
            exact ih (l3 + 4) μ16 (hi.2.2.2.2.2.2.2.2.2.2.2.2.2.2.2.2.2.2.2.2.2.1 c1 c2 c8) hQ h
          · skip
            refine xr_go 1 (pc' := 291) (ls' := [some (.inr (some (99, 0))), some (.inr (some (0, 0))), some (.inr (some (36, 0))), some (.inl l3)]) (st' := [.inl 0]) (s' := μ16) rfl ?_
            try simp only [if_neg c1, if_neg c2_0, if_neg c2_1, if_neg c2_2, if_pos c2, if_neg c8] at h
            exact absurd h (by decide)
        | 4, _, c2 =>
          replace c2 : (((xs ((l3).toNatClampNeg)) &&& 31) : Int32) = 4 := c2
          show xr_t _ _ _ 292 _ _ _ _
          have c2_0 : ¬ ((((xs ((l3).toNatClampNeg)) &&& 31) : Int32) = 0) := by rw [c2]; decide
          have c2_1 : ¬ ((((xs ((l3).toNatClampNeg)) &&& 31) : Int32) = 1) := by rw [c2]; decide
          have c2_2 : ¬ ((((xs ((l3).toNatClampNeg)) &&& 31) : Int32) = 2) := by rw [c2]; decide
          have c2_3 : ¬ ((((xs ((l3).toNatClampNeg)) &&& 31) : Int32) = 3) := by rw [c2]; decide
          refine xr_go 5 (pc' := 297) (ls' := [some (.inr (some (99, 0))), some (.inr (some (0, 0))), some (.inr (some (36, 0))), some (.inl l3)]) (st' := [.inl (l3 + 1), .inr (some (99, 0)), .inr (some (0, 0))]) (s' := μ) rfl ?_
          refine xr_scr rfl (hi.2.2.2.2.2.2.2.2.2.2.2.2.2.2.2.2.2.2.2.2.2.2.1 c1 c2) ?_
          refine xr_go 4 (pc' := 302) (ls' := [some (.inr (some (99, 0))), some (.inr (some (0, 0))), some (.inr (some (36, 0))), some (.inl l3)]) (st' := [.inl (l3 + 2), .inr (some (99, 0)), .inl (xs (((l3 + 1) : Int32).toNatClampNeg)), .inr (some (0, 0))]) (s' := μ) rfl ?_
          refine xr_scr rfl (hi.2.2.2.2.2.2.2.2.2.2.2.2.2.2.2.2.2.2.2.2.2.2.2.1 c1 c2) ?_
          refine xr_cl (y' := 5) (as := [.inr (some (0, 0)), .inl (xs (((l3 + 1) : Int32).toNatClampNeg)), .inl (xs (((l3 + 2) : Int32).toNatClampNeg))]) (r := []) rfl rfl ?_
          refine tf_5 (d := d + 5) (μ := μ) (a1 := (xs (((l3 + 1) : Int32).toNatClampNeg))) (a2 := (xs (((l3 + 2) : Int32).toNatClampNeg))) (hi.2.2.2.2.2.2.2.2.2.2.2.2.2.2.2.2.2.2.2.2.2.2.2.2.1 c1 c2) ?_
          show xr_t (tm_I L xs) (d + 8) 176 306 [some (.inr (some (99, 0))), some (.inr (some (0, 0))), some (.inr (some (36, 0))), some (.inl l3)] [.inl (cv_5 (xs (((l3 + 1) : Int32).toNatClampNeg)) (xs (((l3 + 2) : Int32).toNatClampNeg)) μ)] (cs_5 (xs (((l3 + 1) : Int32).toNatClampNeg)) (xs (((l3 + 2) : Int32).toNatClampNeg)) μ) Q
          have z17 : (cv_5 (xs (((l3 + 1) : Int32).toNatClampNeg)) (xs (((l3 + 2) : Int32).toNatClampNeg)) μ) = 0 ∨ (cv_5 (xs (((l3 + 1) : Int32).toNatClampNeg)) (xs (((l3 + 2) : Int32).toNatClampNeg)) μ) = 1 := cz_5
          generalize gv17 : (cv_5 (xs (((l3 + 1) : Int32).toNatClampNeg)) (xs (((l3 + 2) : Int32).toNatClampNeg)) μ) = v17 at h hi z17 ⊢
          generalize gμ18 : (cs_5 (xs (((l3 + 1) : Int32).toNatClampNeg)) (xs (((l3 + 2) : Int32).toNatClampNeg)) μ) = μ18 at h hi ⊢
          refine xr_go 5 (pc' := 311) (ls' := [some (.inr (some (99, 0))), some (.inr (some (0, 0))), some (.inr (some (36, 0))), some (.inl l3)]) (st' := [.inl (l3 + 1), .inr (some (99, 0)), .inr (some (36, 0)), .inl v17]) (s' := μ18) rfl ?_
          refine xr_scr rfl (hi.2.2.2.2.2.2.2.2.2.2.2.2.2.2.2.2.2.2.2.2.2.2.1 c1 c2) ?_
          refine xr_go 4 (pc' := 316) (ls' := [some (.inr (some (99, 0))), some (.inr (some (0, 0))), some (.inr (some (36, 0))), some (.inl l3)]) (st' := [.inl (l3 + 2), .inr (some (99, 0)), .inl (xs (((l3 + 1) : Int32).toNatClampNeg)), .inr (some (36, 0)), .inl v17]) (s' := μ18) rfl ?_
          refine xr_scr rfl (hi.2.2.2.2.2.2.2.2.2.2.2.2.2.2.2.2.2.2.2.2.2.2.2.1 c1 c2) ?_
          refine xr_cl (y' := 129) (as := [.inr (some (36, 0)), .inl (xs (((l3 + 1) : Int32).toNatClampNeg)), .inl (xs (((l3 + 2) : Int32).toNatClampNeg))]) (r := [.inl v17]) rfl rfl ?_
          refine tf_129 (d := d + 6) (μ := μ18) (a1 := (xs (((l3 + 1) : Int32).toNatClampNeg))) (a2 := (xs (((l3 + 2) : Int32).toNatClampNeg))) (hi.2.2.2.2.2.2.2.2.2.2.2.2.2.2.2.2.2.2.2.2.2.2.2.2.2.1 c1 c2) ?_
          show xr_t (tm_I L xs) (d + 8) 176 320 [some (.inr (some (99, 0))), some (.inr (some (0, 0))), some (.inr (some (36, 0))), some (.inl l3)] [.inl (cv_129 (xs (((l3 + 1) : Int32).toNatClampNeg)) (xs (((l3 + 2) : Int32).toNatClampNeg)) μ18), .inl v17] (cs_129 (xs (((l3 + 1) : Int32).toNatClampNeg)) (xs (((l3 + 2) : Int32).toNatClampNeg)) μ18) Q
          have z19 : (cv_129 (xs (((l3 + 1) : Int32).toNatClampNeg)) (xs (((l3 + 2) : Int32).toNatClampNeg)) μ18) = 0 ∨ (cv_129 (xs (((l3 + 1) : Int32).toNatClampNeg)) (xs (((l3 + 2) : Int32).toNatClampNeg)) μ18) = 1 := cz_129
          generalize gv19 : (cv_129 (xs (((l3 + 1) : Int32).toNatClampNeg)) (xs (((l3 + 2) : Int32).toNatClampNeg)) μ18) = v19 at h hi z19 ⊢
          generalize gμ20 : (cs_129 (xs (((l3 + 1) : Int32).toNatClampNeg)) (xs (((l3 + 2) : Int32).toNatClampNeg)) μ18) = μ20 at h hi ⊢
          refine xr_br 1 (c := v17 = v19) inferInstance (a := 657) (b := 323) (ls' := [some (.inr (some (99, 0))), some (.inr (some (0, 0))), some (.inr (some (36, 0))), some (.inl l3)]) (st' := []) (s' := μ20) rfl (fun c9 => ?_) (fun c9 => ?_)
          · skip
            refine xr_go 2 (pc' := 48) (ls' := [some (.inr (some (99, 0))), some (.inr (some (0, 0))), some (.inr (some (36, 0))), some (.inl (l3 + 4))]) (st' := []) (s' := μ20) rfl ?_
            try simp only [if_neg c1, if_neg c2_0, if_neg c2_1, if_neg c2_2, if_neg c2_3, if_pos c2, if_pos c9] at h
            exact ih (l3 + 4) μ20 (hi.2.2.2.2.2.2.2.2.2.2.2.2.2.2.2.2.2.2.2.2.2.2.2.2.2.2.1 c1 c2 c9) hQ h
          · skip
            refine xr_go 1 (pc' := 324) (ls' := [some (.inr (some (99, 0))), some (.inr (some (0, 0))), some (.inr (some (36, 0))), some (.inl l3)]) (st' := [.inl 0]) (s' := μ20) rfl ?_
            try simp only [if_neg c1, if_neg c2_0, if_neg c2_1, if_neg c2_2, if_neg c2_3, if_pos c2, if_neg c9] at h
            exact absurd h (by decide)
        | 5, _, c2 =>
          replace c2 : (((xs ((l3).toNatClampNeg)) &&& 31) : Int32) = 5 := c2
          show xr_t _ _ _ 325 _ _ _ _
          have c2_0 : ¬ ((((xs ((l3).toNatClampNeg)) &&& 31) : Int32) = 0) := by rw [c2]; decide
          have c2_1 : ¬ ((((xs ((l3).toNatClampNeg)) &&& 31) : Int32) = 1) := by rw [c2]; decide
          have c2_2 : ¬ ((((xs ((l3).toNatClampNeg)) &&& 31) : Int32) = 2) := by rw [c2]; decide
          have c2_3 : ¬ ((((xs ((l3).toNatClampNeg)) &&& 31) : Int32) = 3) := by rw [c2]; decide
          have c2_4 : ¬ ((((xs ((l3).toNatClampNeg)) &&& 31) : Int32) = 4) := by rw [c2]; decide
          refine xr_go 5 (pc' := 330) (ls' := [some (.inr (some (99, 0))), some (.inr (some (0, 0))), some (.inr (some (36, 0))), some (.inl l3)]) (st' := [.inl (l3 + 1), .inr (some (99, 0)), .inr (some (0, 0))]) (s' := μ) rfl ?_
          refine xr_scr rfl (hi.2.2.2.2.2.2.2.2.2.2.2.2.2.2.2.2.2.2.2.2.2.2.2.2.2.2.2.1 c1 c2) ?_
          refine xr_go 4 (pc' := 335) (ls' := [some (.inr (some (99, 0))), some (.inr (some (0, 0))), some (.inr (some (36, 0))), some (.inl l3)]) (st' := [.inl (l3 + 2), .inr (some (99, 0)), .inl (xs (((l3 + 1) : Int32).toNatClampNeg)), .inr (some (0, 0))]) (s' := μ) rfl ?_
          refine xr_scr rfl (hi.2.2.2.2.2.2.2.2.2.2.2.2.2.2.2.2.2.2.2.2.2.2.2.2.2.2.2.2.1 c1 c2) ?_
          refine xr_go 4 (pc' := 340) (ls' := [some (.inr (some (99, 0))), some (.inr (some (0, 0))), some (.inr (some (36, 0))), some (.inl l3)]) (st' := [.inl (l3 + 3), .inr (some (99, 0)), .inl (xs (((l3 + 2) : Int32).toNatClampNeg)), .inl (xs (((l3 + 1) : Int32).toNatClampNeg)), .inr (some (0, 0))]) (s' := μ) rfl ?_
          refine xr_scr rfl (hi.2.2.2.2.2.2.2.2.2.2.2.2.2.2.2.2.2.2.2.2.2.2.2.2.2.2.2.2.2.1 c1 c2) ?_
          refine xr_cl (y' := 6) (as := [.inr (some (0, 0)), .inl (xs (((l3 + 1) : Int32).toNatClampNeg)), .inl (xs (((l3 + 2) : Int32).toNatClampNeg)), .inl (xs (((l3 + 3) : Int32).toNatClampNeg))]) (r := []) rfl rfl ?_
          refine tf_6 (d := d + 5) (μ := μ) (a1 := (xs (((l3 + 1) : Int32).toNatClampNeg))) (a2 := (xs (((l3 + 2) : Int32).toNatClampNeg))) (a3 := (xs (((l3 + 3) : Int32).toNatClampNeg))) (hi.2.2.2.2.2.2.2.2.2.2.2.2.2.2.2.2.2.2.2.2.2.2.2.2.2.2.2.2.2.2.1 c1 c2) ?_
          show xr_t (tm_I L xs) (d + 8) 176 344 [some (.inr (some (99, 0))), some (.inr (some (0, 0))), some (.inr (some (36, 0))), some (.inl l3)] [.inl (cv_6 (xs (((l3 + 1) : Int32).toNatClampNeg)) (xs (((l3 + 2) : Int32).toNatClampNeg)) (xs (((l3 + 3) : Int32).toNatClampNeg)) μ)] (cs_6 (xs (((l3 + 1) : Int32).toNatClampNeg)) (xs (((l3 + 2) : Int32).toNatClampNeg)) (xs (((l3 + 3) : Int32).toNatClampNeg)) μ) Q
          have z21 : (cv_6 (xs (((l3 + 1) : Int32).toNatClampNeg)) (xs (((l3 + 2) : Int32).toNatClampNeg)) (xs (((l3 + 3) : Int32).toNatClampNeg)) μ) = 0 ∨ (cv_6 (xs (((l3 + 1) : Int32).toNatClampNeg)) (xs (((l3 + 2) : Int32).toNatClampNeg)) (xs (((l3 + 3) : Int32).toNatClampNeg)) μ) = 1 := cz_6
          generalize gv21 : (cv_6 (xs (((l3 + 1) : Int32).toNatClampNeg)) (xs (((l3 + 2) : Int32).toNatClampNeg)) (xs (((l3 + 3) : Int32).toNatClampNeg)) μ) = v21 at h hi z21 ⊢
          generalize gμ22 : (cs_6 (xs (((l3 + 1) : Int32).toNatClampNeg)) (xs (((l3 + 2) : Int32).toNatClampNeg)) (xs (((l3 + 3) : Int32).toNatClampNeg)) μ) = μ22 at h hi ⊢
          refine xr_go 5 (pc' := 349) (ls' := [some (.inr (some (99, 0))), some (.inr (some (0, 0))), some (.inr (some (36, 0))), some (.inl l3)]) (st' := [.inl (l3 + 1), .inr (some (99, 0)), .inr (some (36, 0)), .inl v21]) (s' := μ22) rfl ?_
          refine xr_scr rfl (hi.2.2.2.2.2.2.2.2.2.2.2.2.2.2.2.2.2.2.2.2.2.2.2.2.2.2.2.1 c1 c2) ?_
          refine xr_go 4 (pc' := 354) (ls' := [some (.inr (some (99, 0))), some (.inr (some (0, 0))), some (.inr (some (36, 0))), some (.inl l3)]) (st' := [.inl (l3 + 2), .inr (some (99, 0)), .inl (xs (((l3 + 1) : Int32).toNatClampNeg)), .inr (some (36, 0)), .inl v21]) (s' := μ22) rfl ?_
          refine xr_scr rfl (hi.2.2.2.2.2.2.2.2.2.2.2.2.2.2.2.2.2.2.2.2.2.2.2.2.2.2.2.2.1 c1 c2) ?_
          refine xr_go 4 (pc' := 359) (ls' := [some (.inr (some (99, 0))), some (.inr (some (0, 0))), some (.inr (some (36, 0))), some (.inl l3)]) (st' := [.inl (l3 + 3), .inr (some (99, 0)), .inl (xs (((l3 + 2) : Int32).toNatClampNeg)), .inl (xs (((l3 + 1) : Int32).toNatClampNeg)), .inr (some (36, 0)), .inl v21]) (s' := μ22) rfl ?_
          refine xr_scr rfl (hi.2.2.2.2.2.2.2.2.2.2.2.2.2.2.2.2.2.2.2.2.2.2.2.2.2.2.2.2.2.1 c1 c2) ?_
          refine xr_cl (y' := 130) (as := [.inr (some (36, 0)), .inl (xs (((l3 + 1) : Int32).toNatClampNeg)), .inl (xs (((l3 + 2) : Int32).toNatClampNeg)), .inl (xs (((l3 + 3) : Int32).toNatClampNeg))]) (r := [.inl v21]) rfl rfl ?_
          refine tf_130 (d := d + 6) (μ := μ22) (a1 := (xs (((l3 + 1) : Int32).toNatClampNeg))) (a2 := (xs (((l3 + 2) : Int32).toNatClampNeg))) (a3 := (xs (((l3 + 3) : Int32).toNatClampNeg))) (hi.2.2.2.2.2.2.2.2.2.2.2.2.2.2.2.2.2.2.2.2.2.2.2.2.2.2.2.2.2.2.2.1 c1 c2) ?_
          show xr_t (tm_I L xs) (d + 8) 176 363 [some (.inr (some (99, 0))), some (.inr (some (0, 0))), some (.inr (some (36, 0))), some (.inl l3)] [.inl (cv_130 (xs (((l3 + 1) : Int32).toNatClampNeg)) (xs (((l3 + 2) : Int32).toNatClampNeg)) (xs (((l3 + 3) : Int32).toNatClampNeg)) μ22), .inl v21] (cs_130 (xs (((l3 + 1) : Int32).toNatClampNeg)) (xs (((l3 + 2) : Int32).toNatClampNeg)) (xs (((l3 + 3) : Int32).toNatClampNeg)) μ22) Q
          have z23 : (cv_130 (xs (((l3 + 1) : Int32).toNatClampNeg)) (xs (((l3 + 2) : Int32).toNatClampNeg)) (xs (((l3 + 3) : Int32).toNatClampNeg)) μ22) = 0 ∨ (cv_130 (xs (((l3 + 1) : Int32).toNatClampNeg)) (xs (((l3 + 2) : Int32).toNatClampNeg)) (xs (((l3 + 3) : Int32).toNatClampNeg)) μ22) = 1 := cz_130
          generalize gv23 : (cv_130 (xs (((l3 + 1) : Int32).toNatClampNeg)) (xs (((l3 + 2) : Int32).toNatClampNeg)) (xs (((l3 + 3) : Int32).toNatClampNeg)) μ22) = v23 at h hi z23 ⊢
          generalize gμ24 : (cs_130 (xs (((l3 + 1) : Int32).toNatClampNeg)) (xs (((l3 + 2) : Int32).toNatClampNeg)) (xs (((l3 + 3) : Int32).toNatClampNeg)) μ22) = μ24 at h hi ⊢
          refine xr_br 1 (c := v21 = v23) inferInstance (a := 657) (b := 366) (ls' := [some (.inr (some (99, 0))), some (.inr (some (0, 0))), some (.inr (some (36, 0))), some (.inl l3)]) (st' := []) (s' := μ24) rfl (fun c10 => ?_) (fun c10 => ?_)
          · skip
            refine xr_go 2 (pc' := 48) (ls' := [some (.inr (some (99, 0))), some (.inr (some (0, 0))), some (.inr (some (36, 0))), some (.inl (l3 + 4))]) (st' := []) (s' := μ24) rfl ?_
            try simp only [if_neg c1, if_neg c2_0, if_neg c2_1, if_neg c2_2, if_neg c2_3, if_neg c2_4, if_pos c2, if_pos c10] at h
            exact ih (l3 + 4) μ24 (hi.2.2.2.2.2.2.2.2.2.2.2.2.2.2.2.2.2.2.2.2.2.2.2.2.2.2.2.2.2.2.2.2.1 c1 c2 c10) hQ h
          · skip
            refine xr_go 1 (pc' := 367) (ls' := [some (.inr (some (99, 0))), some (.inr (some (0, 0))), some (.inr (some (36, 0))), some (.inl l3)]) (st' := [.inl 0]) (s' := μ24) rfl ?_
            try simp only [if_neg c1, if_neg c2_0, if_neg c2_1, if_neg c2_2, if_neg c2_3, if_neg c2_4, if_pos c2, if_neg c10] at h
            exact absurd h (by decide)
        | 6, _, c2 =>
          replace c2 : (((xs ((l3).toNatClampNeg)) &&& 31) : Int32) = 6 := c2
          show xr_t _ _ _ 368 _ _ _ _
          have c2_0 : ¬ ((((xs ((l3).toNatClampNeg)) &&& 31) : Int32) = 0) := by rw [c2]; decide
          have c2_1 : ¬ ((((xs ((l3).toNatClampNeg)) &&& 31) : Int32) = 1) := by rw [c2]; decide
          have c2_2 : ¬ ((((xs ((l3).toNatClampNeg)) &&& 31) : Int32) = 2) := by rw [c2]; decide
          have c2_3 : ¬ ((((xs ((l3).toNatClampNeg)) &&& 31) : Int32) = 3) := by rw [c2]; decide
          have c2_4 : ¬ ((((xs ((l3).toNatClampNeg)) &&& 31) : Int32) = 4) := by rw [c2]; decide
          have c2_5 : ¬ ((((xs ((l3).toNatClampNeg)) &&& 31) : Int32) = 5) := by rw [c2]; decide
          refine xr_go 5 (pc' := 373) (ls' := [some (.inr (some (99, 0))), some (.inr (some (0, 0))), some (.inr (some (36, 0))), some (.inl l3)]) (st' := [.inl (l3 + 1), .inr (some (99, 0)), .inr (some (0, 0))]) (s' := μ) rfl ?_
          refine xr_scr rfl (hi.2.2.2.2.2.2.2.2.2.2.2.2.2.2.2.2.2.2.2.2.2.2.2.2.2.2.2.2.2.2.2.2.2.1 c1 c2) ?_
          refine xr_cl (y' := 7) (as := [.inr (some (0, 0)), .inl (xs (((l3 + 1) : Int32).toNatClampNeg))]) (r := []) rfl rfl ?_
          refine tf_7 (d := d + 5) (μ := μ) (a1 := (xs (((l3 + 1) : Int32).toNatClampNeg))) (hi.2.2.2.2.2.2.2.2.2.2.2.2.2.2.2.2.2.2.2.2.2.2.2.2.2.2.2.2.2.2.2.2.2.2.1 c1 c2) ?_
          show xr_t (tm_I L xs) (d + 8) 176 377 [some (.inr (some (99, 0))), some (.inr (some (0, 0))), some (.inr (some (36, 0))), some (.inl l3)] [.inl (cv_7 (xs (((l3 + 1) : Int32).toNatClampNeg)) μ)] μ Q
          generalize gv25 : (cv_7 (xs (((l3 + 1) : Int32).toNatClampNeg)) μ) = v25 at h hi ⊢
          refine xr_go 5 (pc' := 382) (ls' := [some (.inr (some (99, 0))), some (.inr (some (0, 0))), some (.inr (some (36, 0))), some (.inl l3)]) (st' := [.inl (l3 + 1), .inr (some (99, 0)), .inr (some (36, 0)), .inl v25]) (s' := μ) rfl ?_
          refine xr_scr rfl (hi.2.2.2.2.2.2.2.2.2.2.2.2.2.2.2.2.2.2.2.2.2.2.2.2.2.2.2.2.2.2.2.2.2.1 c1 c2) ?_
          refine xr_cl (y' := 132) (as := [.inr (some (36, 0)), .inl (xs (((l3 + 1) : Int32).toNatClampNeg))]) (r := [.inl v25]) rfl rfl ?_
          refine tf_132 (d := d + 6) (μ := μ) (a1 := (xs (((l3 + 1) : Int32).toNatClampNeg))) (hi.2.2.2.2.2.2.2.2.2.2.2.2.2.2.2.2.2.2.2.2.2.2.2.2.2.2.2.2.2.2.2.2.2.2.2.1 c1 c2) ?_
          show xr_t (tm_I L xs) (d + 8) 176 386 [some (.inr (some (99, 0))), some (.inr (some (0, 0))), some (.inr (some (36, 0))), some (.inl l3)] [.inl (cv_132 (xs (((l3 + 1) : Int32).toNatClampNeg)) μ), .inl v25] μ Q
          generalize gv26 : (cv_132 (xs (((l3 + 1) : Int32).toNatClampNeg)) μ) = v26 at h hi ⊢
          refine xr_br 1 (c := v25 = v26) inferInstance (a := 657) (b := 389) (ls' := [some (.inr (some (99, 0))), some (.inr (some (0, 0))), some (.inr (some (36, 0))), some (.inl l3)]) (st' := []) (s' := μ) rfl (fun c11 => ?_) (fun c11 => ?_)
          · skip
            refine xr_go 2 (pc' := 48) (ls' := [some (.inr (some (99, 0))), some (.inr (some (0, 0))), some (.inr (some (36, 0))), some (.inl (l3 + 4))]) (st' := []) (s' := μ) rfl ?_
            try simp only [if_neg c1, if_neg c2_0, if_neg c2_1, if_neg c2_2, if_neg c2_3, if_neg c2_4, if_neg c2_5, if_pos c2, if_pos c11] at h
            exact ih (l3 + 4) μ (hi.2.2.2.2.2.2.2.2.2.2.2.2.2.2.2.2.2.2.2.2.2.2.2.2.2.2.2.2.2.2.2.2.2.2.2.2.1 c1 c2 c11) hQ h
          · skip
            refine xr_go 1 (pc' := 390) (ls' := [some (.inr (some (99, 0))), some (.inr (some (0, 0))), some (.inr (some (36, 0))), some (.inl l3)]) (st' := [.inl 0]) (s' := μ) rfl ?_
            try simp only [if_neg c1, if_neg c2_0, if_neg c2_1, if_neg c2_2, if_neg c2_3, if_neg c2_4, if_neg c2_5, if_pos c2, if_neg c11] at h
            exact absurd h (by decide)
        | 7, _, c2 =>
          replace c2 : (((xs ((l3).toNatClampNeg)) &&& 31) : Int32) = 7 := c2
          show xr_t _ _ _ 391 _ _ _ _
          have c2_0 : ¬ ((((xs ((l3).toNatClampNeg)) &&& 31) : Int32) = 0) := by rw [c2]; decide
          have c2_1 : ¬ ((((xs ((l3).toNatClampNeg)) &&& 31) : Int32) = 1) := by rw [c2]; decide
          have c2_2 : ¬ ((((xs ((l3).toNatClampNeg)) &&& 31) : Int32) = 2) := by rw [c2]; decide
          have c2_3 : ¬ ((((xs ((l3).toNatClampNeg)) &&& 31) : Int32) = 3) := by rw [c2]; decide
          have c2_4 : ¬ ((((xs ((l3).toNatClampNeg)) &&& 31) : Int32) = 4) := by rw [c2]; decide
          have c2_5 : ¬ ((((xs ((l3).toNatClampNeg)) &&& 31) : Int32) = 5) := by rw [c2]; decide
          have c2_6 : ¬ ((((xs ((l3).toNatClampNeg)) &&& 31) : Int32) = 6) := by rw [c2]; decide
          refine xr_go 5 (pc' := 396) (ls' := [some (.inr (some (99, 0))), some (.inr (some (0, 0))), some (.inr (some (36, 0))), some (.inl l3)]) (st' := [.inl (l3 + 1), .inr (some (99, 0)), .inr (some (0, 0))]) (s' := μ) rfl ?_
          refine xr_scr rfl (hi.2.2.2.2.2.2.2.2.2.2.2.2.2.2.2.2.2.2.2.2.2.2.2.2.2.2.2.2.2.2.2.2.2.2.2.2.2.1 c1 c2) ?_
          refine xr_cl (y' := 8) (as := [.inr (some (0, 0)), .inl (xs (((l3 + 1) : Int32).toNatClampNeg))]) (r := []) rfl rfl ?_
          refine tf_8 (d := d + 3) (μ := μ) (a1 := (xs (((l3 + 1) : Int32).toNatClampNeg))) (hi.2.2.2.2.2.2.2.2.2.2.2.2.2.2.2.2.2.2.2.2.2.2.2.2.2.2.2.2.2.2.2.2.2.2.2.2.2.2.1 c1 c2) ?_
          show xr_t (tm_I L xs) (d + 8) 176 400 [some (.inr (some (99, 0))), some (.inr (some (0, 0))), some (.inr (some (36, 0))), some (.inl l3)] [.inl (cv_8 (xs (((l3 + 1) : Int32).toNatClampNeg)) μ)] (cs_8 (xs (((l3 + 1) : Int32).toNatClampNeg)) μ) Q
          have z27 : (cv_8 (xs (((l3 + 1) : Int32).toNatClampNeg)) μ) = 0 ∨ (cv_8 (xs (((l3 + 1) : Int32).toNatClampNeg)) μ) = 1 := cz_8
          generalize gv27 : (cv_8 (xs (((l3 + 1) : Int32).toNatClampNeg)) μ) = v27 at h hi z27 ⊢
          generalize gμ28 : (cs_8 (xs (((l3 + 1) : Int32).toNatClampNeg)) μ) = μ28 at h hi ⊢
          refine xr_go 5 (pc' := 405) (ls' := [some (.inr (some (99, 0))), some (.inr (some (0, 0))), some (.inr (some (36, 0))), some (.inl l3)]) (st' := [.inl (l3 + 1), .inr (some (99, 0)), .inr (some (36, 0)), .inl v27]) (s' := μ28) rfl ?_
          refine xr_scr rfl (hi.2.2.2.2.2.2.2.2.2.2.2.2.2.2.2.2.2.2.2.2.2.2.2.2.2.2.2.2.2.2.2.2.2.2.2.2.2.1 c1 c2) ?_
          refine xr_cl (y' := 162) (as := [.inr (some (36, 0)), .inl (xs (((l3 + 1) : Int32).toNatClampNeg))]) (r := [.inl v27]) rfl rfl ?_
          refine tf_162 (d := d + 4) (μ := μ28) (a1 := (xs (((l3 + 1) : Int32).toNatClampNeg))) (hi.2.2.2.2.2.2.2.2.2.2.2.2.2.2.2.2.2.2.2.2.2.2.2.2.2.2.2.2.2.2.2.2.2.2.2.2.2.2.2.1 c1 c2) ?_
          show xr_t (tm_I L xs) (d + 8) 176 409 [some (.inr (some (99, 0))), some (.inr (some (0, 0))), some (.inr (some (36, 0))), some (.inl l3)] [.inl (cv_162 (xs (((l3 + 1) : Int32).toNatClampNeg)) μ28), .inl v27] (cs_162 (xs (((l3 + 1) : Int32).toNatClampNeg)) μ28) Q
          have z29 : (cv_162 (xs (((l3 + 1) : Int32).toNatClampNeg)) μ28) = 0 ∨ (cv_162 (xs (((l3 + 1) : Int32).toNatClampNeg)) μ28) = 1 := cz_162
          generalize gv29 : (cv_162 (xs (((l3 + 1) : Int32).toNatClampNeg)) μ28) = v29 at h hi z29 ⊢
          generalize gμ30 : (cs_162 (xs (((l3 + 1) : Int32).toNatClampNeg)) μ28) = μ30 at h hi ⊢
          refine xr_br 1 (c := v27 = v29) inferInstance (a := 657) (b := 412) (ls' := [some (.inr (some (99, 0))), some (.inr (some (0, 0))), some (.inr (some (36, 0))), some (.inl l3)]) (st' := []) (s' := μ30) rfl (fun c12 => ?_) (fun c12 => ?_)
          · skip
            refine xr_go 2 (pc' := 48) (ls' := [some (.inr (some (99, 0))), some (.inr (some (0, 0))), some (.inr (some (36, 0))), some (.inl (l3 + 4))]) (st' := []) (s' := μ30) rfl ?_
            try simp only [if_neg c1, if_neg c2_0, if_neg c2_1, if_neg c2_2, if_neg c2_3, if_neg c2_4, if_neg c2_5, if_neg c2_6, if_pos c2, if_pos c12] at h
            exact ih (l3 + 4) μ30 (hi.2.2.2.2.2.2.2.2.2.2.2.2.2.2.2.2.2.2.2.2.2.2.2.2.2.2.2.2.2.2.2.2.2.2.2.2.2.2.2.2.1 c1 c2 c12) hQ h
          · skip
            refine xr_go 1 (pc' := 413) (ls' := [some (.inr (some (99, 0))), some (.inr (some (0, 0))), some (.inr (some (36, 0))), some (.inl l3)]) (st' := [.inl 0]) (s' := μ30) rfl ?_
            try simp only [if_neg c1, if_neg c2_0, if_neg c2_1, if_neg c2_2, if_neg c2_3, if_neg c2_4, if_neg c2_5, if_neg c2_6, if_pos c2, if_neg c12] at h
            exact absurd h (by decide)
        | 8, _, c2 =>
          replace c2 : (((xs ((l3).toNatClampNeg)) &&& 31) : Int32) = 8 := c2
          show xr_t _ _ _ 414 _ _ _ _
          have c2_0 : ¬ ((((xs ((l3).toNatClampNeg)) &&& 31) : Int32) = 0) := by rw [c2]; decide
          have c2_1 : ¬ ((((xs ((l3).toNatClampNeg)) &&& 31) : Int32) = 1) := by rw [c2]; decide
          have c2_2 : ¬ ((((xs ((l3).toNatClampNeg)) &&& 31) : Int32) = 2) := by rw [c2]; decide
          have c2_3 : ¬ ((((xs ((l3).toNatClampNeg)) &&& 31) : Int32) = 3) := by rw [c2]; decide
          have c2_4 : ¬ ((((xs ((l3).toNatClampNeg)) &&& 31) : Int32) = 4) := by rw [c2]; decide
          have c2_5 : ¬ ((((xs ((l3).toNatClampNeg)) &&& 31) : Int32) = 5) := by rw [c2]; decide
          have c2_6 : ¬ ((((xs ((l3).toNatClampNeg)) &&& 31) : Int32) = 6) := by rw [c2]; decide
          have c2_7 : ¬ ((((xs ((l3).toNatClampNeg)) &&& 31) : Int32) = 7) := by rw [c2]; decide
          refine xr_go 5 (pc' := 419) (ls' := [some (.inr (some (99, 0))), some (.inr (some (0, 0))), some (.inr (some (36, 0))), some (.inl l3)]) (st' := [.inl (l3 + 1), .inr (some (99, 0)), .inr (some (0, 0))]) (s' := μ) rfl ?_
          refine xr_scr rfl (hi.2.2.2.2.2.2.2.2.2.2.2.2.2.2.2.2.2.2.2.2.2.2.2.2.2.2.2.2.2.2.2.2.2.2.2.2.2.2.2.2.2.1 c1 c2) ?_
          refine xr_cl (y' := 9) (as := [.inr (some (0, 0)), .inl (xs (((l3 + 1) : Int32).toNatClampNeg))]) (r := []) rfl rfl ?_
          refine tf_9 (d := d + 0) (μ := μ) (a1 := (xs (((l3 + 1) : Int32).toNatClampNeg))) (hi.2.2.2.2.2.2.2.2.2.2.2.2.2.2.2.2.2.2.2.2.2.2.2.2.2.2.2.2.2.2.2.2.2.2.2.2.2.2.2.2.2.2.1 c1 c2) ?_
          show xr_t (tm_I L xs) (d + 8) 176 423 [some (.inr (some (99, 0))), some (.inr (some (0, 0))), some (.inr (some (36, 0))), some (.inl l3)] [.inl (cv_9 (xs (((l3 + 1) : Int32).toNatClampNeg)) μ)] (cs_9 (xs (((l3 + 1) : Int32).toNatClampNeg)) μ) Q
          generalize gv31 : (cv_9 (xs (((l3 + 1) : Int32).toNatClampNeg)) μ) = v31 at h hi ⊢
          generalize gμ32 : (cs_9 (xs (((l3 + 1) : Int32).toNatClampNeg)) μ) = μ32 at h hi ⊢
          refine xr_go 5 (pc' := 428) (ls' := [some (.inr (some (99, 0))), some (.inr (some (0, 0))), some (.inr (some (36, 0))), some (.inl l3)]) (st' := [.inl (l3 + 1), .inr (some (99, 0)), .inr (some (36, 0)), .inl v31]) (s' := μ32) rfl ?_
          refine xr_scr rfl (hi.2.2.2.2.2.2.2.2.2.2.2.2.2.2.2.2.2.2.2.2.2.2.2.2.2.2.2.2.2.2.2.2.2.2.2.2.2.2.2.2.2.1 c1 c2) ?_
          refine xr_cl (y' := 139) (as := [.inr (some (36, 0)), .inl (xs (((l3 + 1) : Int32).toNatClampNeg))]) (r := [.inl v31]) rfl rfl ?_
          refine tf_139 (d := d + 2) (μ := μ32) (a1 := (xs (((l3 + 1) : Int32).toNatClampNeg))) (hi.2.2.2.2.2.2.2.2.2.2.2.2.2.2.2.2.2.2.2.2.2.2.2.2.2.2.2.2.2.2.2.2.2.2.2.2.2.2.2.2.2.2.2.1 c1 c2) ?_
          show xr_t (tm_I L xs) (d + 8) 176 432 [some (.inr (some (99, 0))), some (.inr (some (0, 0))), some (.inr (some (36, 0))), some (.inl l3)] [.inl (cv_139 (xs (((l3 + 1) : Int32).toNatClampNeg)) μ32), .inl v31] (cs_139 (xs (((l3 + 1) : Int32).toNatClampNeg)) μ32) Q
          generalize gv33 : (cv_139 (xs (((l3 + 1) : Int32).toNatClampNeg)) μ32) = v33 at h hi ⊢
          generalize gμ34 : (cs_139 (xs (((l3 + 1) : Int32).toNatClampNeg)) μ32) = μ34 at h hi ⊢
          refine xr_br 1 (c := v31 = v33) inferInstance (a := 657) (b := 435) (ls' := [some (.inr (some (99, 0))), some (.inr (some (0, 0))), some (.inr (some (36, 0))), some (.inl l3)]) (st' := []) (s' := μ34) rfl (fun c13 => ?_) (fun c13 => ?_)
          · skip
            refine xr_go 2 (pc' := 48) (ls' := [some (.inr (some (99, 0))), some (.inr (some (0, 0))), some (.inr (some (36, 0))), some (.inl (l3 + 4))]) (st' := []) (s' := μ34) rfl ?_
            try simp only [if_neg c1, if_neg c2_0, if_neg c2_1, if_neg c2_2, if_neg c2_3, if_neg c2_4, if_neg c2_5, if_neg c2_6, if_neg c2_7, if_pos c2, if_pos c13] at h
            exact ih (l3 + 4) μ34 (hi.2.2.2.2.2.2.2.2.2.2.2.2.2.2.2.2.2.2.2.2.2.2.2.2.2.2.2.2.2.2.2.2.2.2.2.2.2.2.2.2.2.2.2.2.1 c1 c2 c13) hQ h
          · skip
            refine xr_go 1 (pc' := 436) (ls' := [some (.inr (some (99, 0))), some (.inr (some (0, 0))), some (.inr (some (36, 0))), some (.inl l3)]) (st' := [.inl 0]) (s' := μ34) rfl ?_
            try simp only [if_neg c1, if_neg c2_0, if_neg c2_1, if_neg c2_2, if_neg c2_3, if_neg c2_4, if_neg c2_5, if_neg c2_6, if_neg c2_7, if_pos c2, if_neg c13] at h
            exact absurd h (by decide)
        | 9, _, c2 =>
          replace c2 : (((xs ((l3).toNatClampNeg)) &&& 31) : Int32) = 9 := c2
          show xr_t _ _ _ 437 _ _ _ _
          have c2_0 : ¬ ((((xs ((l3).toNatClampNeg)) &&& 31) : Int32) = 0) := by rw [c2]; decide
          have c2_1 : ¬ ((((xs ((l3).toNatClampNeg)) &&& 31) : Int32) = 1) := by rw [c2]; decide
          have c2_2 : ¬ ((((xs ((l3).toNatClampNeg)) &&& 31) : Int32) = 2) := by rw [c2]; decide
          have c2_3 : ¬ ((((xs ((l3).toNatClampNeg)) &&& 31) : Int32) = 3) := by rw [c2]; decide
          have c2_4 : ¬ ((((xs ((l3).toNatClampNeg)) &&& 31) : Int32) = 4) := by rw [c2]; decide
          have c2_5 : ¬ ((((xs ((l3).toNatClampNeg)) &&& 31) : Int32) = 5) := by rw [c2]; decide
          have c2_6 : ¬ ((((xs ((l3).toNatClampNeg)) &&& 31) : Int32) = 6) := by rw [c2]; decide
          have c2_7 : ¬ ((((xs ((l3).toNatClampNeg)) &&& 31) : Int32) = 7) := by rw [c2]; decide
          have c2_8 : ¬ ((((xs ((l3).toNatClampNeg)) &&& 31) : Int32) = 8) := by rw [c2]; decide
          refine xr_go 5 (pc' := 442) (ls' := [some (.inr (some (99, 0))), some (.inr (some (0, 0))), some (.inr (some (36, 0))), some (.inl l3)]) (st' := [.inl (l3 + 1), .inr (some (99, 0)), .inr (some (0, 0))]) (s' := μ) rfl ?_
          refine xr_scr rfl (hi.2.2.2.2.2.2.2.2.2.2.2.2.2.2.2.2.2.2.2.2.2.2.2.2.2.2.2.2.2.2.2.2.2.2.2.2.2.2.2.2.2.2.2.2.2.1 c1 c2) ?_
          refine xr_go 4 (pc' := 447) (ls' := [some (.inr (some (99, 0))), some (.inr (some (0, 0))), some (.inr (some (36, 0))), some (.inl l3)]) (st' := [.inl (l3 + 2), .inr (some (99, 0)), .inl (xs (((l3 + 1) : Int32).toNatClampNeg)), .inr (some (0, 0))]) (s' := μ) rfl ?_
          refine xr_scr rfl (hi.2.2.2.2.2.2.2.2.2.2.2.2.2.2.2.2.2.2.2.2.2.2.2.2.2.2.2.2.2.2.2.2.2.2.2.2.2.2.2.2.2.2.2.2.2.2.1 c1 c2) ?_
          suffices hj14 : xr_t (tm_I L xs) (d + 8) 176 456 [some (.inr (some (99, 0))), some (.inr (some (0, 0))), some (.inr (some (36, 0))), some (.inl l3)] [.inl ((if (xs (((l3 + 2) : Int32).toNatClampNeg)) = 0 then 0 else 1) : Int32), .inl (xs (((l3 + 1) : Int32).toNatClampNeg)), .inr (some (0, 0))] μ Q by
            refine xr_br 1 (c := (xs (((l3 + 2) : Int32).toNatClampNeg)) = 0) inferInstance (a := 455) (b := 451) (ls' := [some (.inr (some (99, 0))), some (.inr (some (0, 0))), some (.inr (some (36, 0))), some (.inl l3)]) (st' := [.inl (xs (((l3 + 1) : Int32).toNatClampNeg)), .inr (some (0, 0))]) (s' := μ) rfl (fun c14 => ?_) (fun c14 => ?_)
            · skip
              refine xr_go 1 (pc' := 456) (ls' := [some (.inr (some (99, 0))), some (.inr (some (0, 0))), some (.inr (some (36, 0))), some (.inl l3)]) (st' := [.inl 0, .inl (xs (((l3 + 1) : Int32).toNatClampNeg)), .inr (some (0, 0))]) (s' := μ) rfl ?_
              have ehj14 : ((if (xs (((l3 + 2) : Int32).toNatClampNeg)) = 0 then 0 else 1) : Int32) = 0 := by first | rfl | simp only [if_pos c14]
              rw [ehj14] at hj14
              exact hj14
            · skip
              refine xr_go 2 (pc' := 456) (ls' := [some (.inr (some (99, 0))), some (.inr (some (0, 0))), some (.inr (some (36, 0))), some (.inl l3)]) (st' := [.inl 1, .inl (xs (((l3 + 1) : Int32).toNatClampNeg)), .inr (some (0, 0))]) (s' := μ) rfl ?_
              have ehj14 : ((if (xs (((l3 + 2) : Int32).toNatClampNeg)) = 0 then 0 else 1) : Int32) = 1 := by first | rfl | simp only [if_neg c14]
              rw [ehj14] at hj14
              exact hj14
          refine xr_cl (y' := 10) (as := [.inr (some (0, 0)), .inl (xs (((l3 + 1) : Int32).toNatClampNeg)), .inl ((if (xs (((l3 + 2) : Int32).toNatClampNeg)) = 0 then 0 else 1) : Int32)]) (r := []) rfl rfl ?_
          refine tf_10 (d := d + 4) (μ := μ) (a1 := (xs (((l3 + 1) : Int32).toNatClampNeg))) (a2 := ((if (xs (((l3 + 2) : Int32).toNatClampNeg)) = 0 then 0 else 1) : Int32)) (hi.2.2.2.2.2.2.2.2.2.2.2.2.2.2.2.2.2.2.2.2.2.2.2.2.2.2.2.2.2.2.2.2.2.2.2.2.2.2.2.2.2.2.2.2.2.2.2.1 c1 c2) ?_
          show xr_t (tm_I L xs) (d + 8) 176 459 [some (.inr (some (99, 0))), some (.inr (some (0, 0))), some (.inr (some (36, 0))), some (.inl l3)] [.inl (cv_10 (xs (((l3 + 1) : Int32).toNatClampNeg)) ((if (xs (((l3 + 2) : Int32).toNatClampNeg)) = 0 then 0 else 1) : Int32) μ)] (cs_10 (xs (((l3 + 1) : Int32).toNatClampNeg)) ((if (xs (((l3 + 2) : Int32).toNatClampNeg)) = 0 then 0 else 1) : Int32) μ) Q
          have z35 : (cv_10 (xs (((l3 + 1) : Int32).toNatClampNeg)) ((if (xs (((l3 + 2) : Int32).toNatClampNeg)) = 0 then 0 else 1) : Int32) μ) = 0 ∨ (cv_10 (xs (((l3 + 1) : Int32).toNatClampNeg)) ((if (xs (((l3 + 2) : Int32).toNatClampNeg)) = 0 then 0 else 1) : Int32) μ) = 1 := cz_10
          generalize gv35 : (cv_10 (xs (((l3 + 1) : Int32).toNatClampNeg)) ((if (xs (((l3 + 2) : Int32).toNatClampNeg)) = 0 then 0 else 1) : Int32) μ) = v35 at h hi z35 ⊢
          generalize gμ36 : (cs_10 (xs (((l3 + 1) : Int32).toNatClampNeg)) ((if (xs (((l3 + 2) : Int32).toNatClampNeg)) = 0 then 0 else 1) : Int32) μ) = μ36 at h hi ⊢
          refine xr_go 5 (pc' := 464) (ls' := [some (.inr (some (99, 0))), some (.inr (some (0, 0))), some (.inr (some (36, 0))), some (.inl l3)]) (st' := [.inl (l3 + 1), .inr (some (99, 0)), .inr (some (36, 0)), .inl v35]) (s' := μ36) rfl ?_
          refine xr_scr rfl (hi.2.2.2.2.2.2.2.2.2.2.2.2.2.2.2.2.2.2.2.2.2.2.2.2.2.2.2.2.2.2.2.2.2.2.2.2.2.2.2.2.2.2.2.2.2.1 c1 c2) ?_
          refine xr_go 4 (pc' := 469) (ls' := [some (.inr (some (99, 0))), some (.inr (some (0, 0))), some (.inr (some (36, 0))), some (.inl l3)]) (st' := [.inl (l3 + 2), .inr (some (99, 0)), .inl (xs (((l3 + 1) : Int32).toNatClampNeg)), .inr (some (36, 0)), .inl v35]) (s' := μ36) rfl ?_
          refine xr_scr rfl (hi.2.2.2.2.2.2.2.2.2.2.2.2.2.2.2.2.2.2.2.2.2.2.2.2.2.2.2.2.2.2.2.2.2.2.2.2.2.2.2.2.2.2.2.2.2.2.1 c1 c2) ?_
          suffices hj15 : xr_t (tm_I L xs) (d + 8) 176 478 [some (.inr (some (99, 0))), some (.inr (some (0, 0))), some (.inr (some (36, 0))), some (.inl l3)] [.inl ((if (xs (((l3 + 2) : Int32).toNatClampNeg)) = 0 then 0 else 1) : Int32), .inl (xs (((l3 + 1) : Int32).toNatClampNeg)), .inr (some (36, 0)), .inl v35] μ36 Q by
            refine xr_br 1 (c := (xs (((l3 + 2) : Int32).toNatClampNeg)) = 0) inferInstance (a := 477) (b := 473) (ls' := [some (.inr (some (99, 0))), some (.inr (some (0, 0))), some (.inr (some (36, 0))), some (.inl l3)]) (st' := [.inl (xs (((l3 + 1) : Int32).toNatClampNeg)), .inr (some (36, 0)), .inl v35]) (s' := μ36) rfl (fun c15 => ?_) (fun c15 => ?_)
            · skip
              refine xr_go 1 (pc' := 478) (ls' := [some (.inr (some (99, 0))), some (.inr (some (0, 0))), some (.inr (some (36, 0))), some (.inl l3)]) (st' := [.inl 0, .inl (xs (((l3 + 1) : Int32).toNatClampNeg)), .inr (some (36, 0)), .inl v35]) (s' := μ36) rfl ?_
              have ehj15 : ((if (xs (((l3 + 2) : Int32).toNatClampNeg)) = 0 then 0 else 1) : Int32) = 0 := by first | rfl | simp only [if_pos c15]
              rw [ehj15] at hj15
              exact hj15
            · skip
              refine xr_go 2 (pc' := 478) (ls' := [some (.inr (some (99, 0))), some (.inr (some (0, 0))), some (.inr (some (36, 0))), some (.inl l3)]) (st' := [.inl 1, .inl (xs (((l3 + 1) : Int32).toNatClampNeg)), .inr (some (36, 0)), .inl v35]) (s' := μ36) rfl ?_
              have ehj15 : ((if (xs (((l3 + 2) : Int32).toNatClampNeg)) = 0 then 0 else 1) : Int32) = 1 := by first | rfl | simp only [if_neg c15]
              rw [ehj15] at hj15
              exact hj15
          refine xr_cl (y' := 138) (as := [.inr (some (36, 0)), .inl (xs (((l3 + 1) : Int32).toNatClampNeg)), .inl ((if (xs (((l3 + 2) : Int32).toNatClampNeg)) = 0 then 0 else 1) : Int32)]) (r := [.inl v35]) rfl rfl ?_
          refine tf_138 (d := d + 5) (μ := μ36) (a1 := (xs (((l3 + 1) : Int32).toNatClampNeg))) (a2 := ((if (xs (((l3 + 2) : Int32).toNatClampNeg)) = 0 then 0 else 1) : Int32)) (hi.2.2.2.2.2.2.2.2.2.2.2.2.2.2.2.2.2.2.2.2.2.2.2.2.2.2.2.2.2.2.2.2.2.2.2.2.2.2.2.2.2.2.2.2.2.2.2.2.1 c1 c2) ?_
          show xr_t (tm_I L xs) (d + 8) 176 481 [some (.inr (some (99, 0))), some (.inr (some (0, 0))), some (.inr (some (36, 0))), some (.inl l3)] [.inl (cv_138 (xs (((l3 + 1) : Int32).toNatClampNeg)) ((if (xs (((l3 + 2) : Int32).toNatClampNeg)) = 0 then 0 else 1) : Int32) μ36), .inl v35] (cs_138 (xs (((l3 + 1) : Int32).toNatClampNeg)) ((if (xs (((l3 + 2) : Int32).toNatClampNeg)) = 0 then 0 else 1) : Int32) μ36) Q
          have z37 : (cv_138 (xs (((l3 + 1) : Int32).toNatClampNeg)) ((if (xs (((l3 + 2) : Int32).toNatClampNeg)) = 0 then 0 else 1) : Int32) μ36) = 0 ∨ (cv_138 (xs (((l3 + 1) : Int32).toNatClampNeg)) ((if (xs (((l3 + 2) : Int32).toNatClampNeg)) = 0 then 0 else 1) : Int32) μ36) = 1 := cz_138
          generalize gv37 : (cv_138 (xs (((l3 + 1) : Int32).toNatClampNeg)) ((if (xs (((l3 + 2) : Int32).toNatClampNeg)) = 0 then 0 else 1) : Int32) μ36) = v37 at h hi z37 ⊢
          generalize gμ38 : (cs_138 (xs (((l3 + 1) : Int32).toNatClampNeg)) ((if (xs (((l3 + 2) : Int32).toNatClampNeg)) = 0 then 0 else 1) : Int32) μ36) = μ38 at h hi ⊢
          refine xr_br 1 (c := v35 = v37) inferInstance (a := 657) (b := 484) (ls' := [some (.inr (some (99, 0))), some (.inr (some (0, 0))), some (.inr (some (36, 0))), some (.inl l3)]) (st' := []) (s' := μ38) rfl (fun c16 => ?_) (fun c16 => ?_)
          · skip
            refine xr_go 2 (pc' := 48) (ls' := [some (.inr (some (99, 0))), some (.inr (some (0, 0))), some (.inr (some (36, 0))), some (.inl (l3 + 4))]) (st' := []) (s' := μ38) rfl ?_
            try simp only [if_neg c1, if_neg c2_0, if_neg c2_1, if_neg c2_2, if_neg c2_3, if_neg c2_4, if_neg c2_5, if_neg c2_6, if_neg c2_7, if_neg c2_8, if_pos c2, if_pos c16] at h
            exact ih (l3 + 4) μ38 (hi.2.2.2.2.2.2.2.2.2.2.2.2.2.2.2.2.2.2.2.2.2.2.2.2.2.2.2.2.2.2.2.2.2.2.2.2.2.2.2.2.2.2.2.2.2.2.2.2.2.1 c1 c2 c16) hQ h
          · skip
            refine xr_go 1 (pc' := 485) (ls' := [some (.inr (some (99, 0))), some (.inr (some (0, 0))), some (.inr (some (36, 0))), some (.inl l3)]) (st' := [.inl 0]) (s' := μ38) rfl ?_
            try simp only [if_neg c1, if_neg c2_0, if_neg c2_1, if_neg c2_2, if_neg c2_3, if_neg c2_4, if_neg c2_5, if_neg c2_6, if_neg c2_7, if_neg c2_8, if_pos c2, if_neg c16] at h
            exact absurd h (by decide)
        | 10, _, c2 =>
          replace c2 : (((xs ((l3).toNatClampNeg)) &&& 31) : Int32) = 10 := c2
          show xr_t _ _ _ 486 _ _ _ _
          have c2_0 : ¬ ((((xs ((l3).toNatClampNeg)) &&& 31) : Int32) = 0) := by rw [c2]; decide
          have c2_1 : ¬ ((((xs ((l3).toNatClampNeg)) &&& 31) : Int32) = 1) := by rw [c2]; decide
          have c2_2 : ¬ ((((xs ((l3).toNatClampNeg)) &&& 31) : Int32) = 2) := by rw [c2]; decide
          have c2_3 : ¬ ((((xs ((l3).toNatClampNeg)) &&& 31) : Int32) = 3) := by rw [c2]; decide
          have c2_4 : ¬ ((((xs ((l3).toNatClampNeg)) &&& 31) : Int32) = 4) := by rw [c2]; decide
          have c2_5 : ¬ ((((xs ((l3).toNatClampNeg)) &&& 31) : Int32) = 5) := by rw [c2]; decide
          have c2_6 : ¬ ((((xs ((l3).toNatClampNeg)) &&& 31) : Int32) = 6) := by rw [c2]; decide
          have c2_7 : ¬ ((((xs ((l3).toNatClampNeg)) &&& 31) : Int32) = 7) := by rw [c2]; decide
          have c2_8 : ¬ ((((xs ((l3).toNatClampNeg)) &&& 31) : Int32) = 8) := by rw [c2]; decide
          have c2_9 : ¬ ((((xs ((l3).toNatClampNeg)) &&& 31) : Int32) = 9) := by rw [c2]; decide
          refine xr_go 1 (pc' := 487) (ls' := [some (.inr (some (99, 0))), some (.inr (some (0, 0))), some (.inr (some (36, 0))), some (.inl l3)]) (st' := [.inr (some (0, 0))]) (s' := μ) rfl ?_
          refine xr_cl (y' := 11) (as := [.inr (some (0, 0))]) (r := []) rfl rfl ?_
          refine tf_11 (d := d + 2) (μ := μ)  (hi.2.2.2.2.2.2.2.2.2.2.2.2.2.2.2.2.2.2.2.2.2.2.2.2.2.2.2.2.2.2.2.2.2.2.2.2.2.2.2.2.2.2.2.2.2.2.2.2.2.2.1 c1 c2) ?_
          show xr_t (tm_I L xs) (d + 8) 176 490 [some (.inr (some (99, 0))), some (.inr (some (0, 0))), some (.inr (some (36, 0))), some (.inl l3)] [.inl (cv_11 μ)] (cs_11 μ) Q
          generalize gv39 : (cv_11 μ) = v39 at h hi ⊢
          generalize gμ40 : (cs_11 μ) = μ40 at h hi ⊢
          refine xr_go 1 (pc' := 491) (ls' := [some (.inr (some (99, 0))), some (.inr (some (0, 0))), some (.inr (some (36, 0))), some (.inl l3)]) (st' := [.inr (some (36, 0)), .inl v39]) (s' := μ40) rfl ?_
          refine xr_cl (y' := 171) (as := [.inr (some (36, 0))]) (r := [.inl v39]) rfl rfl ?_
          refine tf_171 (d := d + 2) (μ := μ40)  (hi.2.2.2.2.2.2.2.2.2.2.2.2.2.2.2.2.2.2.2.2.2.2.2.2.2.2.2.2.2.2.2.2.2.2.2.2.2.2.2.2.2.2.2.2.2.2.2.2.2.2.2.1 c1 c2) ?_
          show xr_t (tm_I L xs) (d + 8) 176 494 [some (.inr (some (99, 0))), some (.inr (some (0, 0))), some (.inr (some (36, 0))), some (.inl l3)] [.inl (cv_171 μ40), .inl v39] (cs_171 μ40) Q
          generalize gv41 : (cv_171 μ40) = v41 at h hi ⊢
          generalize gμ42 : (cs_171 μ40) = μ42 at h hi ⊢
          refine xr_br 1 (c := v39 = v41) inferInstance (a := 657) (b := 497) (ls' := [some (.inr (some (99, 0))), some (.inr (some (0, 0))), some (.inr (some (36, 0))), some (.inl l3)]) (st' := []) (s' := μ42) rfl (fun c17 => ?_) (fun c17 => ?_)
          · skip
            refine xr_go 2 (pc' := 48) (ls' := [some (.inr (some (99, 0))), some (.inr (some (0, 0))), some (.inr (some (36, 0))), some (.inl (l3 + 4))]) (st' := []) (s' := μ42) rfl ?_
            try simp only [if_neg c1, if_neg c2_0, if_neg c2_1, if_neg c2_2, if_neg c2_3, if_neg c2_4, if_neg c2_5, if_neg c2_6, if_neg c2_7, if_neg c2_8, if_neg c2_9, if_pos c2, if_pos c17] at h
            exact ih (l3 + 4) μ42 (hi.2.2.2.2.2.2.2.2.2.2.2.2.2.2.2.2.2.2.2.2.2.2.2.2.2.2.2.2.2.2.2.2.2.2.2.2.2.2.2.2.2.2.2.2.2.2.2.2.2.2.2.2.1 c1 c2 c17) hQ h
          · skip
            refine xr_go 1 (pc' := 498) (ls' := [some (.inr (some (99, 0))), some (.inr (some (0, 0))), some (.inr (some (36, 0))), some (.inl l3)]) (st' := [.inl 0]) (s' := μ42) rfl ?_
            try simp only [if_neg c1, if_neg c2_0, if_neg c2_1, if_neg c2_2, if_neg c2_3, if_neg c2_4, if_neg c2_5, if_neg c2_6, if_neg c2_7, if_neg c2_8, if_neg c2_9, if_pos c2, if_neg c17] at h
            exact absurd h (by decide)
        | 11, _, c2 =>
          replace c2 : (((xs ((l3).toNatClampNeg)) &&& 31) : Int32) = 11 := c2
          show xr_t _ _ _ 499 _ _ _ _
          have c2_0 : ¬ ((((xs ((l3).toNatClampNeg)) &&& 31) : Int32) = 0) := by rw [c2]; decide
          have c2_1 : ¬ ((((xs ((l3).toNatClampNeg)) &&& 31) : Int32) = 1) := by rw [c2]; decide
          have c2_2 : ¬ ((((xs ((l3).toNatClampNeg)) &&& 31) : Int32) = 2) := by rw [c2]; decide
          have c2_3 : ¬ ((((xs ((l3).toNatClampNeg)) &&& 31) : Int32) = 3) := by rw [c2]; decide
          have c2_4 : ¬ ((((xs ((l3).toNatClampNeg)) &&& 31) : Int32) = 4) := by rw [c2]; decide
          have c2_5 : ¬ ((((xs ((l3).toNatClampNeg)) &&& 31) : Int32) = 5) := by rw [c2]; decide
          have c2_6 : ¬ ((((xs ((l3).toNatClampNeg)) &&& 31) : Int32) = 6) := by rw [c2]; decide
          have c2_7 : ¬ ((((xs ((l3).toNatClampNeg)) &&& 31) : Int32) = 7) := by rw [c2]; decide
          have c2_8 : ¬ ((((xs ((l3).toNatClampNeg)) &&& 31) : Int32) = 8) := by rw [c2]; decide
          have c2_9 : ¬ ((((xs ((l3).toNatClampNeg)) &&& 31) : Int32) = 9) := by rw [c2]; decide
          have c2_10 : ¬ ((((xs ((l3).toNatClampNeg)) &&& 31) : Int32) = 10) := by rw [c2]; decide
          refine xr_go 1 (pc' := 500) (ls' := [some (.inr (some (99, 0))), some (.inr (some (0, 0))), some (.inr (some (36, 0))), some (.inl l3)]) (st' := [.inr (some (0, 0))]) (s' := μ) rfl ?_
          refine xr_cl (y' := 12) (as := [.inr (some (0, 0))]) (r := []) rfl rfl ?_
          refine tf_12 (d := d + 4) (μ := μ)  (hi.2.2.2.2.2.2.2.2.2.2.2.2.2.2.2.2.2.2.2.2.2.2.2.2.2.2.2.2.2.2.2.2.2.2.2.2.2.2.2.2.2.2.2.2.2.2.2.2.2.2.2.2.2.1 c1 c2) ?_
          show xr_t (tm_I L xs) (d + 8) 176 503 [some (.inr (some (99, 0))), some (.inr (some (0, 0))), some (.inr (some (36, 0))), some (.inl l3)] [.inl (cv_12 μ)] (cs_12 μ) Q
          generalize gv43 : (cv_12 μ) = v43 at h hi ⊢
          generalize gμ44 : (cs_12 μ) = μ44 at h hi ⊢
          refine xr_go 1 (pc' := 504) (ls' := [some (.inr (some (99, 0))), some (.inr (some (0, 0))), some (.inr (some (36, 0))), some (.inl l3)]) (st' := [.inr (some (36, 0)), .inl v43]) (s' := μ44) rfl ?_
          refine xr_cl (y' := 153) (as := [.inr (some (36, 0))]) (r := [.inl v43]) rfl rfl ?_
          refine tf_153 (d := d + 7) (μ := μ44)  (hi.2.2.2.2.2.2.2.2.2.2.2.2.2.2.2.2.2.2.2.2.2.2.2.2.2.2.2.2.2.2.2.2.2.2.2.2.2.2.2.2.2.2.2.2.2.2.2.2.2.2.2.2.2.2.1 c1 c2) ?_
          show xr_t (tm_I L xs) (d + 8) 176 507 [some (.inr (some (99, 0))), some (.inr (some (0, 0))), some (.inr (some (36, 0))), some (.inl l3)] [.inl (cv_153 μ44), .inl v43] (cs_153 μ44) Q
          generalize gv45 : (cv_153 μ44) = v45 at h hi ⊢
          generalize gμ46 : (cs_153 μ44) = μ46 at h hi ⊢
          refine xr_br 1 (c := v43 = v45) inferInstance (a := 657) (b := 510) (ls' := [some (.inr (some (99, 0))), some (.inr (some (0, 0))), some (.inr (some (36, 0))), some (.inl l3)]) (st' := []) (s' := μ46) rfl (fun c18 => ?_) (fun c18 => ?_)
          · skip
            refine xr_go 2 (pc' := 48) (ls' := [some (.inr (some (99, 0))), some (.inr (some (0, 0))), some (.inr (some (36, 0))), some (.inl (l3 + 4))]) (st' := []) (s' := μ46) rfl ?_
            try simp only [if_neg c1, if_neg c2_0, if_neg c2_1, if_neg c2_2, if_neg c2_3, if_neg c2_4, if_neg c2_5, if_neg c2_6, if_neg c2_7, if_neg c2_8, if_neg c2_9, if_neg c2_10, if_pos c2, if_pos c18] at h
            exact ih (l3 + 4) μ46 (hi.2.2.2.2.2.2.2.2.2.2.2.2.2.2.2.2.2.2.2.2.2.2.2.2.2.2.2.2.2.2.2.2.2.2.2.2.2.2.2.2.2.2.2.2.2.2.2.2.2.2.2.2.2.2.2.1 c1 c2 c18) hQ h
          · skip
            refine xr_go 1 (pc' := 511) (ls' := [some (.inr (some (99, 0))), some (.inr (some (0, 0))), some (.inr (some (36, 0))), some (.inl l3)]) (st' := [.inl 0]) (s' := μ46) rfl ?_
            try simp only [if_neg c1, if_neg c2_0, if_neg c2_1, if_neg c2_2, if_neg c2_3, if_neg c2_4, if_neg c2_5, if_neg c2_6, if_neg c2_7, if_neg c2_8, if_neg c2_9, if_neg c2_10, if_pos c2, if_neg c18] at h
            exact absurd h (by decide)
        | 12, _, c2 =>
          replace c2 : (((xs ((l3).toNatClampNeg)) &&& 31) : Int32) = 12 := c2
          show xr_t _ _ _ 512 _ _ _ _
          have c2_0 : ¬ ((((xs ((l3).toNatClampNeg)) &&& 31) : Int32) = 0) := by rw [c2]; decide
          have c2_1 : ¬ ((((xs ((l3).toNatClampNeg)) &&& 31) : Int32) = 1) := by rw [c2]; decide
          have c2_2 : ¬ ((((xs ((l3).toNatClampNeg)) &&& 31) : Int32) = 2) := by rw [c2]; decide
          have c2_3 : ¬ ((((xs ((l3).toNatClampNeg)) &&& 31) : Int32) = 3) := by rw [c2]; decide
          have c2_4 : ¬ ((((xs ((l3).toNatClampNeg)) &&& 31) : Int32) = 4) := by rw [c2]; decide
          have c2_5 : ¬ ((((xs ((l3).toNatClampNeg)) &&& 31) : Int32) = 5) := by rw [c2]; decide
          have c2_6 : ¬ ((((xs ((l3).toNatClampNeg)) &&& 31) : Int32) = 6) := by rw [c2]; decide
          have c2_7 : ¬ ((((xs ((l3).toNatClampNeg)) &&& 31) : Int32) = 7) := by rw [c2]; decide
          have c2_8 : ¬ ((((xs ((l3).toNatClampNeg)) &&& 31) : Int32) = 8) := by rw [c2]; decide
          have c2_9 : ¬ ((((xs ((l3).toNatClampNeg)) &&& 31) : Int32) = 9) := by rw [c2]; decide
          have c2_10 : ¬ ((((xs ((l3).toNatClampNeg)) &&& 31) : Int32) = 10) := by rw [c2]; decide
          have c2_11 : ¬ ((((xs ((l3).toNatClampNeg)) &&& 31) : Int32) = 11) := by rw [c2]; decide
          refine xr_go 5 (pc' := 517) (ls' := [some (.inr (some (99, 0))), some (.inr (some (0, 0))), some (.inr (some (36, 0))), some (.inl l3)]) (st' := [.inl (l3 + 1), .inr (some (99, 0)), .inr (some (0, 0))]) (s' := μ) rfl ?_
          refine xr_scr rfl (hi.2.2.2.2.2.2.2.2.2.2.2.2.2.2.2.2.2.2.2.2.2.2.2.2.2.2.2.2.2.2.2.2.2.2.2.2.2.2.2.2.2.2.2.2.2.2.2.2.2.2.2.2.2.2.2.2.1 c1 c2) ?_
          refine xr_go 4 (pc' := 522) (ls' := [some (.inr (some (99, 0))), some (.inr (some (0, 0))), some (.inr (some (36, 0))), some (.inl l3)]) (st' := [.inl (l3 + 2), .inr (some (99, 0)), .inl (xs (((l3 + 1) : Int32).toNatClampNeg)), .inr (some (0, 0))]) (s' := μ) rfl ?_
          refine xr_scr rfl (hi.2.2.2.2.2.2.2.2.2.2.2.2.2.2.2.2.2.2.2.2.2.2.2.2.2.2.2.2.2.2.2.2.2.2.2.2.2.2.2.2.2.2.2.2.2.2.2.2.2.2.2.2.2.2.2.2.2.1 c1 c2) ?_
          refine xr_cl (y' := 13) (as := [.inr (some (0, 0)), .inl (xs (((l3 + 1) : Int32).toNatClampNeg)), .inl (xs (((l3 + 2) : Int32).toNatClampNeg))]) (r := []) rfl rfl ?_
          refine tf_13 (d := d + 6) (μ := μ) (a1 := (xs (((l3 + 1) : Int32).toNatClampNeg))) (a2 := (xs (((l3 + 2) : Int32).toNatClampNeg))) (hi.2.2.2.2.2.2.2.2.2.2.2.2.2.2.2.2.2.2.2.2.2.2.2.2.2.2.2.2.2.2.2.2.2.2.2.2.2.2.2.2.2.2.2.2.2.2.2.2.2.2.2.2.2.2.2.2.2.2.1 c1 c2) ?_
          show xr_t (tm_I L xs) (d + 8) 176 526 [some (.inr (some (99, 0))), some (.inr (some (0, 0))), some (.inr (some (36, 0))), some (.inl l3)] [.inl (cv_13 (xs (((l3 + 1) : Int32).toNatClampNeg)) (xs (((l3 + 2) : Int32).toNatClampNeg)) μ)] μ Q
          generalize gv47 : (cv_13 (xs (((l3 + 1) : Int32).toNatClampNeg)) (xs (((l3 + 2) : Int32).toNatClampNeg)) μ) = v47 at h hi ⊢
          refine xr_go 5 (pc' := 531) (ls' := [some (.inr (some (99, 0))), some (.inr (some (0, 0))), some (.inr (some (36, 0))), some (.inl l3)]) (st' := [.inl (l3 + 1), .inr (some (99, 0)), .inr (some (36, 0)), .inl v47]) (s' := μ) rfl ?_
          refine xr_scr rfl (hi.2.2.2.2.2.2.2.2.2.2.2.2.2.2.2.2.2.2.2.2.2.2.2.2.2.2.2.2.2.2.2.2.2.2.2.2.2.2.2.2.2.2.2.2.2.2.2.2.2.2.2.2.2.2.2.2.1 c1 c2) ?_
          refine xr_go 4 (pc' := 536) (ls' := [some (.inr (some (99, 0))), some (.inr (some (0, 0))), some (.inr (some (36, 0))), some (.inl l3)]) (st' := [.inl (l3 + 2), .inr (some (99, 0)), .inl (xs (((l3 + 1) : Int32).toNatClampNeg)), .inr (some (36, 0)), .inl v47]) (s' := μ) rfl ?_
          refine xr_scr rfl (hi.2.2.2.2.2.2.2.2.2.2.2.2.2.2.2.2.2.2.2.2.2.2.2.2.2.2.2.2.2.2.2.2.2.2.2.2.2.2.2.2.2.2.2.2.2.2.2.2.2.2.2.2.2.2.2.2.2.1 c1 c2) ?_
          refine xr_cl (y' := 141) (as := [.inr (some (36, 0)), .inl (xs (((l3 + 1) : Int32).toNatClampNeg)), .inl (xs (((l3 + 2) : Int32).toNatClampNeg))]) (r := [.inl v47]) rfl rfl ?_
          refine tf_141 (d := d + 7) (μ := μ) (a1 := (xs (((l3 + 1) : Int32).toNatClampNeg))) (a2 := (xs (((l3 + 2) : Int32).toNatClampNeg))) (hi.2.2.2.2.2.2.2.2.2.2.2.2.2.2.2.2.2.2.2.2.2.2.2.2.2.2.2.2.2.2.2.2.2.2.2.2.2.2.2.2.2.2.2.2.2.2.2.2.2.2.2.2.2.2.2.2.2.2.2.1 c1 c2) ?_
          show xr_t (tm_I L xs) (d + 8) 176 540 [some (.inr (some (99, 0))), some (.inr (some (0, 0))), some (.inr (some (36, 0))), some (.inl l3)] [.inl (cv_141 (xs (((l3 + 1) : Int32).toNatClampNeg)) (xs (((l3 + 2) : Int32).toNatClampNeg)) μ), .inl v47] μ Q
          generalize gv48 : (cv_141 (xs (((l3 + 1) : Int32).toNatClampNeg)) (xs (((l3 + 2) : Int32).toNatClampNeg)) μ) = v48 at h hi ⊢
          refine xr_br 1 (c := v47 = v48) inferInstance (a := 657) (b := 543) (ls' := [some (.inr (some (99, 0))), some (.inr (some (0, 0))), some (.inr (some (36, 0))), some (.inl l3)]) (st' := []) (s' := μ) rfl (fun c19 => ?_) (fun c19 => ?_)
          · skip
            refine xr_go 2 (pc' := 48) (ls' := [some (.inr (some (99, 0))), some (.inr (some (0, 0))), some (.inr (some (36, 0))), some (.inl (l3 + 4))]) (st' := []) (s' := μ) rfl ?_
            try simp only [if_neg c1, if_neg c2_0, if_neg c2_1, if_neg c2_2, if_neg c2_3, if_neg c2_4, if_neg c2_5, if_neg c2_6, if_neg c2_7, if_neg c2_8, if_neg c2_9, if_neg c2_10, if_neg c2_11, if_pos c2, if_pos c19] at h
            exact ih (l3 + 4) μ (hi.2.2.2.2.2.2.2.2.2.2.2.2.2.2.2.2.2.2.2.2.2.2.2.2.2.2.2.2.2.2.2.2.2.2.2.2.2.2.2.2.2.2.2.2.2.2.2.2.2.2.2.2.2.2.2.2.2.2.2.2.1 c1 c2 c19) hQ h
          · skip
            refine xr_go 1 (pc' := 544) (ls' := [some (.inr (some (99, 0))), some (.inr (some (0, 0))), some (.inr (some (36, 0))), some (.inl l3)]) (st' := [.inl 0]) (s' := μ) rfl ?_
            try simp only [if_neg c1, if_neg c2_0, if_neg c2_1, if_neg c2_2, if_neg c2_3, if_neg c2_4, if_neg c2_5, if_neg c2_6, if_neg c2_7, if_neg c2_8, if_neg c2_9, if_neg c2_10, if_neg c2_11, if_pos c2, if_neg c19] at h
            exact absurd h (by decide)
        | 13, _, c2 =>
          replace c2 : (((xs ((l3).toNatClampNeg)) &&& 31) : Int32) = 13 := c2
          show xr_t _ _ _ 545 _ _ _ _
          have c2_0 : ¬ ((((xs ((l3).toNatClampNeg)) &&& 31) : Int32) = 0) := by rw [c2]; decide
          have c2_1 : ¬ ((((xs ((l3).toNatClampNeg)) &&& 31) : Int32) = 1) := by rw [c2]; decide
          have c2_2 : ¬ ((((xs ((l3).toNatClampNeg)) &&& 31) : Int32) = 2) := by rw [c2]; decide
          have c2_3 : ¬ ((((xs ((l3).toNatClampNeg)) &&& 31) : Int32) = 3) := by rw [c2]; decide
          have c2_4 : ¬ ((((xs ((l3).toNatClampNeg)) &&& 31) : Int32) = 4) := by rw [c2]; decide
          have c2_5 : ¬ ((((xs ((l3).toNatClampNeg)) &&& 31) : Int32) = 5) := by rw [c2]; decide
          have c2_6 : ¬ ((((xs ((l3).toNatClampNeg)) &&& 31) : Int32) = 6) := by rw [c2]; decide
          have c2_7 : ¬ ((((xs ((l3).toNatClampNeg)) &&& 31) : Int32) = 7) := by rw [c2]; decide
          have c2_8 : ¬ ((((xs ((l3).toNatClampNeg)) &&& 31) : Int32) = 8) := by rw [c2]; decide
          have c2_9 : ¬ ((((xs ((l3).toNatClampNeg)) &&& 31) : Int32) = 9) := by rw [c2]; decide
          have c2_10 : ¬ ((((xs ((l3).toNatClampNeg)) &&& 31) : Int32) = 10) := by rw [c2]; decide
          have c2_11 : ¬ ((((xs ((l3).toNatClampNeg)) &&& 31) : Int32) = 11) := by rw [c2]; decide
          have c2_12 : ¬ ((((xs ((l3).toNatClampNeg)) &&& 31) : Int32) = 12) := by rw [c2]; decide
          refine xr_go 5 (pc' := 550) (ls' := [some (.inr (some (99, 0))), some (.inr (some (0, 0))), some (.inr (some (36, 0))), some (.inl l3)]) (st' := [.inl (l3 + 1), .inr (some (99, 0)), .inr (some (0, 0))]) (s' := μ) rfl ?_
          refine xr_scr rfl (hi.2.2.2.2.2.2.2.2.2.2.2.2.2.2.2.2.2.2.2.2.2.2.2.2.2.2.2.2.2.2.2.2.2.2.2.2.2.2.2.2.2.2.2.2.2.2.2.2.2.2.2.2.2.2.2.2.2.2.2.2.2.1 c1 c2) ?_
          refine xr_go 4 (pc' := 555) (ls' := [some (.inr (some (99, 0))), some (.inr (some (0, 0))), some (.inr (some (36, 0))), some (.inl l3)]) (st' := [.inl (l3 + 2), .inr (some (99, 0)), .inl (xs (((l3 + 1) : Int32).toNatClampNeg)), .inr (some (0, 0))]) (s' := μ) rfl ?_
          refine xr_scr rfl (hi.2.2.2.2.2.2.2.2.2.2.2.2.2.2.2.2.2.2.2.2.2.2.2.2.2.2.2.2.2.2.2.2.2.2.2.2.2.2.2.2.2.2.2.2.2.2.2.2.2.2.2.2.2.2.2.2.2.2.2.2.2.2.1 c1 c2) ?_
          refine xr_cl (y' := 14) (as := [.inr (some (0, 0)), .inl (xs (((l3 + 1) : Int32).toNatClampNeg)), .inl (xs (((l3 + 2) : Int32).toNatClampNeg))]) (r := []) rfl rfl ?_
          refine tf_14 (d := d + 5) (μ := μ) (a1 := (xs (((l3 + 1) : Int32).toNatClampNeg))) (a2 := (xs (((l3 + 2) : Int32).toNatClampNeg))) (hi.2.2.2.2.2.2.2.2.2.2.2.2.2.2.2.2.2.2.2.2.2.2.2.2.2.2.2.2.2.2.2.2.2.2.2.2.2.2.2.2.2.2.2.2.2.2.2.2.2.2.2.2.2.2.2.2.2.2.2.2.2.2.2.1 c1 c2) ?_
          show xr_t (tm_I L xs) (d + 8) 176 559 [some (.inr (some (99, 0))), some (.inr (some (0, 0))), some (.inr (some (36, 0))), some (.inl l3)] [.inl (cv_14 (xs (((l3 + 1) : Int32).toNatClampNeg)) (xs (((l3 + 2) : Int32).toNatClampNeg)) μ)] μ Q
          generalize gv49 : (cv_14 (xs (((l3 + 1) : Int32).toNatClampNeg)) (xs (((l3 + 2) : Int32).toNatClampNeg)) μ) = v49 at h hi ⊢
          refine xr_go 5 (pc' := 564) (ls' := [some (.inr (some (99, 0))), some (.inr (some (0, 0))), some (.inr (some (36, 0))), some (.inl l3)]) (st' := [.inl (l3 + 1), .inr (some (99, 0)), .inr (some (36, 0)), .inl v49]) (s' := μ) rfl ?_
          refine xr_scr rfl (hi.2.2.2.2.2.2.2.2.2.2.2.2.2.2.2.2.2.2.2.2.2.2.2.2.2.2.2.2.2.2.2.2.2.2.2.2.2.2.2.2.2.2.2.2.2.2.2.2.2.2.2.2.2.2.2.2.2.2.2.2.2.1 c1 c2) ?_
          refine xr_go 4 (pc' := 569) (ls' := [some (.inr (some (99, 0))), some (.inr (some (0, 0))), some (.inr (some (36, 0))), some (.inl l3)]) (st' := [.inl (l3 + 2), .inr (some (99, 0)), .inl (xs (((l3 + 1) : Int32).toNatClampNeg)), .inr (some (36, 0)), .inl v49]) (s' := μ) rfl ?_
          refine xr_scr rfl (hi.2.2.2.2.2.2.2.2.2.2.2.2.2.2.2.2.2.2.2.2.2.2.2.2.2.2.2.2.2.2.2.2.2.2.2.2.2.2.2.2.2.2.2.2.2.2.2.2.2.2.2.2.2.2.2.2.2.2.2.2.2.2.1 c1 c2) ?_
          refine xr_cl (y' := 172) (as := [.inr (some (36, 0)), .inl (xs (((l3 + 1) : Int32).toNatClampNeg)), .inl (xs (((l3 + 2) : Int32).toNatClampNeg))]) (r := [.inl v49]) rfl rfl ?_
          refine tf_172 (d := d + 6) (μ := μ) (a1 := (xs (((l3 + 1) : Int32).toNatClampNeg))) (a2 := (xs (((l3 + 2) : Int32).toNatClampNeg))) (hi.2.2.2.2.2.2.2.2.2.2.2.2.2.2.2.2.2.2.2.2.2.2.2.2.2.2.2.2.2.2.2.2.2.2.2.2.2.2.2.2.2.2.2.2.2.2.2.2.2.2.2.2.2.2.2.2.2.2.2.2.2.2.2.2.1 c1 c2) ?_
          show xr_t (tm_I L xs) (d + 8) 176 573 [some (.inr (some (99, 0))), some (.inr (some (0, 0))), some (.inr (some (36, 0))), some (.inl l3)] [.inl (cv_172 (xs (((l3 + 1) : Int32).toNatClampNeg)) (xs (((l3 + 2) : Int32).toNatClampNeg)) μ), .inl v49] μ Q
          generalize gv50 : (cv_172 (xs (((l3 + 1) : Int32).toNatClampNeg)) (xs (((l3 + 2) : Int32).toNatClampNeg)) μ) = v50 at h hi ⊢
          refine xr_br 1 (c := v49 = v50) inferInstance (a := 657) (b := 576) (ls' := [some (.inr (some (99, 0))), some (.inr (some (0, 0))), some (.inr (some (36, 0))), some (.inl l3)]) (st' := []) (s' := μ) rfl (fun c20 => ?_) (fun c20 => ?_)
          · skip
            refine xr_go 2 (pc' := 48) (ls' := [some (.inr (some (99, 0))), some (.inr (some (0, 0))), some (.inr (some (36, 0))), some (.inl (l3 + 4))]) (st' := []) (s' := μ) rfl ?_
            try simp only [if_neg c1, if_neg c2_0, if_neg c2_1, if_neg c2_2, if_neg c2_3, if_neg c2_4, if_neg c2_5, if_neg c2_6, if_neg c2_7, if_neg c2_8, if_neg c2_9, if_neg c2_10, if_neg c2_11, if_neg c2_12, if_pos c2, if_pos c20] at h
            exact ih (l3 + 4) μ (hi.2.2.2.2.2.2.2.2.2.2.2.2.2.2.2.2.2.2.2.2.2.2.2.2.2.2.2.2.2.2.2.2.2.2.2.2.2.2.2.2.2.2.2.2.2.2.2.2.2.2.2.2.2.2.2.2.2.2.2.2.2.2.2.2.2.1 c1 c2 c20) hQ h
          · skip
            refine xr_go 1 (pc' := 577) (ls' := [some (.inr (some (99, 0))), some (.inr (some (0, 0))), some (.inr (some (36, 0))), some (.inl l3)]) (st' := [.inl 0]) (s' := μ) rfl ?_
            try simp only [if_neg c1, if_neg c2_0, if_neg c2_1, if_neg c2_2, if_neg c2_3, if_neg c2_4, if_neg c2_5, if_neg c2_6, if_neg c2_7, if_neg c2_8, if_neg c2_9, if_neg c2_10, if_neg c2_11, if_neg c2_12, if_pos c2, if_neg c20] at h
            exact absurd h (by decide)
        | 14, _, c2 =>
          replace c2 : (((xs ((l3).toNatClampNeg)) &&& 31) : Int32) = 14 := c2
          show xr_t _ _ _ 578 _ _ _ _
          have c2_0 : ¬ ((((xs ((l3).toNatClampNeg)) &&& 31) : Int32) = 0) := by rw [c2]; decide
          have c2_1 : ¬ ((((xs ((l3).toNatClampNeg)) &&& 31) : Int32) = 1) := by rw [c2]; decide
          have c2_2 : ¬ ((((xs ((l3).toNatClampNeg)) &&& 31) : Int32) = 2) := by rw [c2]; decide
          have c2_3 : ¬ ((((xs ((l3).toNatClampNeg)) &&& 31) : Int32) = 3) := by rw [c2]; decide
          have c2_4 : ¬ ((((xs ((l3).toNatClampNeg)) &&& 31) : Int32) = 4) := by rw [c2]; decide
          have c2_5 : ¬ ((((xs ((l3).toNatClampNeg)) &&& 31) : Int32) = 5) := by rw [c2]; decide
          have c2_6 : ¬ ((((xs ((l3).toNatClampNeg)) &&& 31) : Int32) = 6) := by rw [c2]; decide
          have c2_7 : ¬ ((((xs ((l3).toNatClampNeg)) &&& 31) : Int32) = 7) := by rw [c2]; decide
          have c2_8 : ¬ ((((xs ((l3).toNatClampNeg)) &&& 31) : Int32) = 8) := by rw [c2]; decide
          have c2_9 : ¬ ((((xs ((l3).toNatClampNeg)) &&& 31) : Int32) = 9) := by rw [c2]; decide
          have c2_10 : ¬ ((((xs ((l3).toNatClampNeg)) &&& 31) : Int32) = 10) := by rw [c2]; decide
          have c2_11 : ¬ ((((xs ((l3).toNatClampNeg)) &&& 31) : Int32) = 11) := by rw [c2]; decide
          have c2_12 : ¬ ((((xs ((l3).toNatClampNeg)) &&& 31) : Int32) = 12) := by rw [c2]; decide
          have c2_13 : ¬ ((((xs ((l3).toNatClampNeg)) &&& 31) : Int32) = 13) := by rw [c2]; decide
          refine xr_go 5 (pc' := 583) (ls' := [some (.inr (some (99, 0))), some (.inr (some (0, 0))), some (.inr (some (36, 0))), some (.inl l3)]) (st' := [.inl (l3 + 1), .inr (some (99, 0)), .inr (some (0, 0))]) (s' := μ) rfl ?_
          refine xr_scr rfl (hi.2.2.2.2.2.2.2.2.2.2.2.2.2.2.2.2.2.2.2.2.2.2.2.2.2.2.2.2.2.2.2.2.2.2.2.2.2.2.2.2.2.2.2.2.2.2.2.2.2.2.2.2.2.2.2.2.2.2.2.2.2.2.2.2.2.2.1 c1 c2) ?_
          refine xr_go 4 (pc' := 588) (ls' := [some (.inr (some (99, 0))), some (.inr (some (0, 0))), some (.inr (some (36, 0))), some (.inl l3)]) (st' := [.inl (l3 + 2), .inr (some (99, 0)), .inl (xs (((l3 + 1) : Int32).toNatClampNeg)), .inr (some (0, 0))]) (s' := μ) rfl ?_
          refine xr_scr rfl (hi.2.2.2.2.2.2.2.2.2.2.2.2.2.2.2.2.2.2.2.2.2.2.2.2.2.2.2.2.2.2.2.2.2.2.2.2.2.2.2.2.2.2.2.2.2.2.2.2.2.2.2.2.2.2.2.2.2.2.2.2.2.2.2.2.2.2.2.1 c1 c2) ?_
          refine xr_cl (y' := 15) (as := [.inr (some (0, 0)), .inl (xs (((l3 + 1) : Int32).toNatClampNeg)), .inl (xs (((l3 + 2) : Int32).toNatClampNeg))]) (r := []) rfl rfl ?_
          refine tf_15 (d := d + 6) (μ := μ) (a1 := (xs (((l3 + 1) : Int32).toNatClampNeg))) (a2 := (xs (((l3 + 2) : Int32).toNatClampNeg))) (hi.2.2.2.2.2.2.2.2.2.2.2.2.2.2.2.2.2.2.2.2.2.2.2.2.2.2.2.2.2.2.2.2.2.2.2.2.2.2.2.2.2.2.2.2.2.2.2.2.2.2.2.2.2.2.2.2.2.2.2.2.2.2.2.2.2.2.2.2.1 c1 c2) ?_
          show xr_t (tm_I L xs) (d + 8) 176 592 [some (.inr (some (99, 0))), some (.inr (some (0, 0))), some (.inr (some (36, 0))), some (.inl l3)] [.inl (cv_15 (xs (((l3 + 1) : Int32).toNatClampNeg)) (xs (((l3 + 2) : Int32).toNatClampNeg)) μ)] μ Q
          generalize gv51 : (cv_15 (xs (((l3 + 1) : Int32).toNatClampNeg)) (xs (((l3 + 2) : Int32).toNatClampNeg)) μ) = v51 at h hi ⊢
          refine xr_go 5 (pc' := 597) (ls' := [some (.inr (some (99, 0))), some (.inr (some (0, 0))), some (.inr (some (36, 0))), some (.inl l3)]) (st' := [.inl (l3 + 1), .inr (some (99, 0)), .inr (some (36, 0)), .inl v51]) (s' := μ) rfl ?_
          refine xr_scr rfl (hi.2.2.2.2.2.2.2.2.2.2.2.2.2.2.2.2.2.2.2.2.2.2.2.2.2.2.2.2.2.2.2.2.2.2.2.2.2.2.2.2.2.2.2.2.2.2.2.2.2.2.2.2.2.2.2.2.2.2.2.2.2.2.2.2.2.2.1 c1 c2) ?_
          refine xr_go 4 (pc' := 602) (ls' := [some (.inr (some (99, 0))), some (.inr (some (0, 0))), some (.inr (some (36, 0))), some (.inl l3)]) (st' := [.inl (l3 + 2), .inr (some (99, 0)), .inl (xs (((l3 + 1) : Int32).toNatClampNeg)), .inr (some (36, 0)), .inl v51]) (s' := μ) rfl ?_
          refine xr_scr rfl (hi.2.2.2.2.2.2.2.2.2.2.2.2.2.2.2.2.2.2.2.2.2.2.2.2.2.2.2.2.2.2.2.2.2.2.2.2.2.2.2.2.2.2.2.2.2.2.2.2.2.2.2.2.2.2.2.2.2.2.2.2.2.2.2.2.2.2.2.1 c1 c2) ?_
          refine xr_cl (y' := 173) (as := [.inr (some (36, 0)), .inl (xs (((l3 + 1) : Int32).toNatClampNeg)), .inl (xs (((l3 + 2) : Int32).toNatClampNeg))]) (r := [.inl v51]) rfl rfl ?_
          refine tf_173 (d := d + 6) (μ := μ) (a1 := (xs (((l3 + 1) : Int32).toNatClampNeg))) (a2 := (xs (((l3 + 2) : Int32).toNatClampNeg))) (hi.2.2.2.2.2.2.2.2.2.2.2.2.2.2.2.2.2.2.2.2.2.2.2.2.2.2.2.2.2.2.2.2.2.2.2.2.2.2.2.2.2.2.2.2.2.2.2.2.2.2.2.2.2.2.2.2.2.2.2.2.2.2.2.2.2.2.2.2.2.1 c1 c2) ?_
          show xr_t (tm_I L xs) (d + 8) 176 606 [some (.inr (some (99, 0))), some (.inr (some (0, 0))), some (.inr (some (36, 0))), some (.inl l3)] [.inl (cv_173 (xs (((l3 + 1) : Int32).toNatClampNeg)) (xs (((l3 + 2) : Int32).toNatClampNeg)) μ), .inl v51] μ Q
          generalize gv52 : (cv_173 (xs (((l3 + 1) : Int32).toNatClampNeg)) (xs (((l3 + 2) : Int32).toNatClampNeg)) μ) = v52 at h hi ⊢
          refine xr_br 1 (c := v51 = v52) inferInstance (a := 657) (b := 609) (ls' := [some (.inr (some (99, 0))), some (.inr (some (0, 0))), some (.inr (some (36, 0))), some (.inl l3)]) (st' := []) (s' := μ) rfl (fun c21 => ?_) (fun c21 => ?_)
          · skip
            refine xr_go 2 (pc' := 48) (ls' := [some (.inr (some (99, 0))), some (.inr (some (0, 0))), some (.inr (some (36, 0))), some (.inl (l3 + 4))]) (st' := []) (s' := μ) rfl ?_
            try simp only [if_neg c1, if_neg c2_0, if_neg c2_1, if_neg c2_2, if_neg c2_3, if_neg c2_4, if_neg c2_5, if_neg c2_6, if_neg c2_7, if_neg c2_8, if_neg c2_9, if_neg c2_10, if_neg c2_11, if_neg c2_12, if_neg c2_13, if_pos c2, if_pos c21] at h
            exact ih (l3 + 4) μ (hi.2.2.2.2.2.2.2.2.2.2.2.2.2.2.2.2.2.2.2.2.2.2.2.2.2.2.2.2.2.2.2.2.2.2.2.2.2.2.2.2.2.2.2.2.2.2.2.2.2.2.2.2.2.2.2.2.2.2.2.2.2.2.2.2.2.2.2.2.2.2.1 c1 c2 c21) hQ h
          · skip
            refine xr_go 1 (pc' := 610) (ls' := [some (.inr (some (99, 0))), some (.inr (some (0, 0))), some (.inr (some (36, 0))), some (.inl l3)]) (st' := [.inl 0]) (s' := μ) rfl ?_
            try simp only [if_neg c1, if_neg c2_0, if_neg c2_1, if_neg c2_2, if_neg c2_3, if_neg c2_4, if_neg c2_5, if_neg c2_6, if_neg c2_7, if_neg c2_8, if_neg c2_9, if_neg c2_10, if_neg c2_11, if_neg c2_12, if_neg c2_13, if_pos c2, if_neg c21] at h
            exact absurd h (by decide)
        | 15, _, c2 =>
          replace c2 : (((xs ((l3).toNatClampNeg)) &&& 31) : Int32) = 15 := c2
          show xr_t _ _ _ 611 _ _ _ _
          have c2_0 : ¬ ((((xs ((l3).toNatClampNeg)) &&& 31) : Int32) = 0) := by rw [c2]; decide
          have c2_1 : ¬ ((((xs ((l3).toNatClampNeg)) &&& 31) : Int32) = 1) := by rw [c2]; decide
          have c2_2 : ¬ ((((xs ((l3).toNatClampNeg)) &&& 31) : Int32) = 2) := by rw [c2]; decide
          have c2_3 : ¬ ((((xs ((l3).toNatClampNeg)) &&& 31) : Int32) = 3) := by rw [c2]; decide
          have c2_4 : ¬ ((((xs ((l3).toNatClampNeg)) &&& 31) : Int32) = 4) := by rw [c2]; decide
          have c2_5 : ¬ ((((xs ((l3).toNatClampNeg)) &&& 31) : Int32) = 5) := by rw [c2]; decide
          have c2_6 : ¬ ((((xs ((l3).toNatClampNeg)) &&& 31) : Int32) = 6) := by rw [c2]; decide
          have c2_7 : ¬ ((((xs ((l3).toNatClampNeg)) &&& 31) : Int32) = 7) := by rw [c2]; decide
          have c2_8 : ¬ ((((xs ((l3).toNatClampNeg)) &&& 31) : Int32) = 8) := by rw [c2]; decide
          have c2_9 : ¬ ((((xs ((l3).toNatClampNeg)) &&& 31) : Int32) = 9) := by rw [c2]; decide
          have c2_10 : ¬ ((((xs ((l3).toNatClampNeg)) &&& 31) : Int32) = 10) := by rw [c2]; decide
          have c2_11 : ¬ ((((xs ((l3).toNatClampNeg)) &&& 31) : Int32) = 11) := by rw [c2]; decide
          have c2_12 : ¬ ((((xs ((l3).toNatClampNeg)) &&& 31) : Int32) = 12) := by rw [c2]; decide
          have c2_13 : ¬ ((((xs ((l3).toNatClampNeg)) &&& 31) : Int32) = 13) := by rw [c2]; decide
          have c2_14 : ¬ ((((xs ((l3).toNatClampNeg)) &&& 31) : Int32) = 14) := by rw [c2]; decide
          refine xr_go 5 (pc' := 616) (ls' := [some (.inr (some (99, 0))), some (.inr (some (0, 0))), some (.inr (some (36, 0))), some (.inl l3)]) (st' := [.inl (l3 + 1), .inr (some (99, 0)), .inr (some (0, 0))]) (s' := μ) rfl ?_
          refine xr_scr rfl (hi.2.2.2.2.2.2.2.2.2.2.2.2.2.2.2.2.2.2.2.2.2.2.2.2.2.2.2.2.2.2.2.2.2.2.2.2.2.2.2.2.2.2.2.2.2.2.2.2.2.2.2.2.2.2.2.2.2.2.2.2.2.2.2.2.2.2.2.2.2.2.2.1 c1 c2) ?_
          refine xr_go 4 (pc' := 621) (ls' := [some (.inr (some (99, 0))), some (.inr (some (0, 0))), some (.inr (some (36, 0))), some (.inl l3)]) (st' := [.inl (l3 + 2), .inr (some (99, 0)), .inl (xs (((l3 + 1) : Int32).toNatClampNeg)), .inr (some (0, 0))]) (s' := μ) rfl ?_
          refine xr_scr rfl (hi.2.2.2.2.2.2.2.2.2.2.2.2.2.2.2.2.2.2.2.2.2.2.2.2.2.2.2.2.2.2.2.2.2.2.2.2.2.2.2.2.2.2.2.2.2.2.2.2.2.2.2.2.2.2.2.2.2.2.2.2.2.2.2.2.2.2.2.2.2.2.2.2.1 c1 c2) ?_
          refine xr_cl (y' := 16) (as := [.inr (some (0, 0)), .inl (xs (((l3 + 1) : Int32).toNatClampNeg)), .inl (xs (((l3 + 2) : Int32).toNatClampNeg))]) (r := []) rfl rfl ?_
          refine tf_16 (d := d + 5) (μ := μ) (a1 := (xs (((l3 + 1) : Int32).toNatClampNeg))) (a2 := (xs (((l3 + 2) : Int32).toNatClampNeg))) (hi.2.2.2.2.2.2.2.2.2.2.2.2.2.2.2.2.2.2.2.2.2.2.2.2.2.2.2.2.2.2.2.2.2.2.2.2.2.2.2.2.2.2.2.2.2.2.2.2.2.2.2.2.2.2.2.2.2.2.2.2.2.2.2.2.2.2.2.2.2.2.2.2.2.1 c1 c2) ?_
          show xr_t (tm_I L xs) (d + 8) 176 625 [some (.inr (some (99, 0))), some (.inr (some (0, 0))), some (.inr (some (36, 0))), some (.inl l3)] [.inl (cv_16 (xs (((l3 + 1) : Int32).toNatClampNeg)) (xs (((l3 + 2) : Int32).toNatClampNeg)) μ)] μ Q
          generalize gv53 : (cv_16 (xs (((l3 + 1) : Int32).toNatClampNeg)) (xs (((l3 + 2) : Int32).toNatClampNeg)) μ) = v53 at h hi ⊢
          refine xr_go 5 (pc' := 630) (ls' := [some (.inr (some (99, 0))), some (.inr (some (0, 0))), some (.inr (some (36, 0))), some (.inl l3)]) (st' := [.inl (l3 + 1), .inr (some (99, 0)), .inr (some (36, 0)), .inl v53]) (s' := μ) rfl ?_
          refine xr_scr rfl (hi.2.2.2.2.2.2.2.2.2.2.2.2.2.2.2.2.2.2.2.2.2.2.2.2.2.2.2.2.2.2.2.2.2.2.2.2.2.2.2.2.2.2.2.2.2.2.2.2.2.2.2.2.2.2.2.2.2.2.2.2.2.2.2.2.2.2.2.2.2.2.2.1 c1 c2) ?_
          refine xr_go 4 (pc' := 635) (ls' := [some (.inr (some (99, 0))), some (.inr (some (0, 0))), some (.inr (some (36, 0))), some (.inl l3)]) (st' := [.inl (l3 + 2), .inr (some (99, 0)), .inl (xs (((l3 + 1) : Int32).toNatClampNeg)), .inr (some (36, 0)), .inl v53]) (s' := μ) rfl ?_
          refine xr_scr rfl (hi.2.2.2.2.2.2.2.2.2.2.2.2.2.2.2.2.2.2.2.2.2.2.2.2.2.2.2.2.2.2.2.2.2.2.2.2.2.2.2.2.2.2.2.2.2.2.2.2.2.2.2.2.2.2.2.2.2.2.2.2.2.2.2.2.2.2.2.2.2.2.2.2.1 c1 c2) ?_
          refine xr_cl (y' := 154) (as := [.inr (some (36, 0)), .inl (xs (((l3 + 1) : Int32).toNatClampNeg)), .inl (xs (((l3 + 2) : Int32).toNatClampNeg))]) (r := [.inl v53]) rfl rfl ?_
          refine tf_154 (d := d + 6) (μ := μ) (a1 := (xs (((l3 + 1) : Int32).toNatClampNeg))) (a2 := (xs (((l3 + 2) : Int32).toNatClampNeg))) (hi.2.2.2.2.2.2.2.2.2.2.2.2.2.2.2.2.2.2.2.2.2.2.2.2.2.2.2.2.2.2.2.2.2.2.2.2.2.2.2.2.2.2.2.2.2.2.2.2.2.2.2.2.2.2.2.2.2.2.2.2.2.2.2.2.2.2.2.2.2.2.2.2.2.2.1 c1 c2) ?_
          show xr_t (tm_I L xs) (d + 8) 176 639 [some (.inr (some (99, 0))), some (.inr (some (0, 0))), some (.inr (some (36, 0))), some (.inl l3)] [.inl (cv_154 (xs (((l3 + 1) : Int32).toNatClampNeg)) (xs (((l3 + 2) : Int32).toNatClampNeg)) μ), .inl v53] μ Q
          generalize gv54 : (cv_154 (xs (((l3 + 1) : Int32).toNatClampNeg)) (xs (((l3 + 2) : Int32).toNatClampNeg)) μ) = v54 at h hi ⊢
          refine xr_br 1 (c := v53 = v54) inferInstance (a := 657) (b := 642) (ls' := [some (.inr (some (99, 0))), some (.inr (some (0, 0))), some (.inr (some (36, 0))), some (.inl l3)]) (st' := []) (s' := μ) rfl (fun c22 => ?_) (fun c22 => ?_)
          · skip
            refine xr_go 2 (pc' := 48) (ls' := [some (.inr (some (99, 0))), some (.inr (some (0, 0))), some (.inr (some (36, 0))), some (.inl (l3 + 4))]) (st' := []) (s' := μ) rfl ?_
            try simp only [if_neg c1, if_neg c2_0, if_neg c2_1, if_neg c2_2, if_neg c2_3, if_neg c2_4, if_neg c2_5, if_neg c2_6, if_neg c2_7, if_neg c2_8, if_neg c2_9, if_neg c2_10, if_neg c2_11, if_neg c2_12, if_neg c2_13, if_neg c2_14, if_pos c2, if_pos c22] at h
            exact ih (l3 + 4) μ (hi.2.2.2.2.2.2.2.2.2.2.2.2.2.2.2.2.2.2.2.2.2.2.2.2.2.2.2.2.2.2.2.2.2.2.2.2.2.2.2.2.2.2.2.2.2.2.2.2.2.2.2.2.2.2.2.2.2.2.2.2.2.2.2.2.2.2.2.2.2.2.2.2.2.2.2.1 c1 c2 c22) hQ h
          · skip
            refine xr_go 1 (pc' := 643) (ls' := [some (.inr (some (99, 0))), some (.inr (some (0, 0))), some (.inr (some (36, 0))), some (.inl l3)]) (st' := [.inl 0]) (s' := μ) rfl ?_
            try simp only [if_neg c1, if_neg c2_0, if_neg c2_1, if_neg c2_2, if_neg c2_3, if_neg c2_4, if_neg c2_5, if_neg c2_6, if_neg c2_7, if_neg c2_8, if_neg c2_9, if_neg c2_10, if_neg c2_11, if_neg c2_12, if_neg c2_13, if_neg c2_14, if_pos c2, if_neg c22] at h
            exact absurd h (by decide)
        | 16, _, c2 =>
          replace c2 : (((xs ((l3).toNatClampNeg)) &&& 31) : Int32) = 16 := c2
          show xr_t _ _ _ 644 _ _ _ _
          have c2_0 : ¬ ((((xs ((l3).toNatClampNeg)) &&& 31) : Int32) = 0) := by rw [c2]; decide
          have c2_1 : ¬ ((((xs ((l3).toNatClampNeg)) &&& 31) : Int32) = 1) := by rw [c2]; decide
          have c2_2 : ¬ ((((xs ((l3).toNatClampNeg)) &&& 31) : Int32) = 2) := by rw [c2]; decide
          have c2_3 : ¬ ((((xs ((l3).toNatClampNeg)) &&& 31) : Int32) = 3) := by rw [c2]; decide
          have c2_4 : ¬ ((((xs ((l3).toNatClampNeg)) &&& 31) : Int32) = 4) := by rw [c2]; decide
          have c2_5 : ¬ ((((xs ((l3).toNatClampNeg)) &&& 31) : Int32) = 5) := by rw [c2]; decide
          have c2_6 : ¬ ((((xs ((l3).toNatClampNeg)) &&& 31) : Int32) = 6) := by rw [c2]; decide
          have c2_7 : ¬ ((((xs ((l3).toNatClampNeg)) &&& 31) : Int32) = 7) := by rw [c2]; decide
          have c2_8 : ¬ ((((xs ((l3).toNatClampNeg)) &&& 31) : Int32) = 8) := by rw [c2]; decide
          have c2_9 : ¬ ((((xs ((l3).toNatClampNeg)) &&& 31) : Int32) = 9) := by rw [c2]; decide
          have c2_10 : ¬ ((((xs ((l3).toNatClampNeg)) &&& 31) : Int32) = 10) := by rw [c2]; decide
          have c2_11 : ¬ ((((xs ((l3).toNatClampNeg)) &&& 31) : Int32) = 11) := by rw [c2]; decide
          have c2_12 : ¬ ((((xs ((l3).toNatClampNeg)) &&& 31) : Int32) = 12) := by rw [c2]; decide
          have c2_13 : ¬ ((((xs ((l3).toNatClampNeg)) &&& 31) : Int32) = 13) := by rw [c2]; decide
          have c2_14 : ¬ ((((xs ((l3).toNatClampNeg)) &&& 31) : Int32) = 14) := by rw [c2]; decide
          have c2_15 : ¬ ((((xs ((l3).toNatClampNeg)) &&& 31) : Int32) = 15) := by rw [c2]; decide
          refine xr_go 1 (pc' := 645) (ls' := [some (.inr (some (99, 0))), some (.inr (some (0, 0))), some (.inr (some (36, 0))), some (.inl l3)]) (st' := [.inr (some (0, 0))]) (s' := μ) rfl ?_
          refine xr_cl (y' := 17) (as := [.inr (some (0, 0))]) (r := []) rfl rfl ?_
          refine tf_17 (d := d + 7) (μ := μ)  ?_
          show xr_t (tm_I L xs) (d + 8) 176 648 [some (.inr (some (99, 0))), some (.inr (some (0, 0))), some (.inr (some (36, 0))), some (.inl l3)] [.inl (cv_17 μ)] μ Q
          generalize gv55 : (cv_17 μ) = v55 at h hi ⊢
          refine xr_go 1 (pc' := 649) (ls' := [some (.inr (some (99, 0))), some (.inr (some (0, 0))), some (.inr (some (36, 0))), some (.inl l3)]) (st' := [.inr (some (36, 0)), .inl v55]) (s' := μ) rfl ?_
          refine xr_cl (y' := 155) (as := [.inr (some (36, 0))]) (r := [.inl v55]) rfl rfl ?_
          refine tf_155 (d := d + 7) (μ := μ)  ?_
          show xr_t (tm_I L xs) (d + 8) 176 652 [some (.inr (some (99, 0))), some (.inr (some (0, 0))), some (.inr (some (36, 0))), some (.inl l3)] [.inl (cv_155 μ), .inl v55] μ Q
          generalize gv56 : (cv_155 μ) = v56 at h hi ⊢
          refine xr_br 1 (c := v55 = v56) inferInstance (a := 657) (b := 655) (ls' := [some (.inr (some (99, 0))), some (.inr (some (0, 0))), some (.inr (some (36, 0))), some (.inl l3)]) (st' := []) (s' := μ) rfl (fun c23 => ?_) (fun c23 => ?_)
          · skip
            refine xr_go 2 (pc' := 48) (ls' := [some (.inr (some (99, 0))), some (.inr (some (0, 0))), some (.inr (some (36, 0))), some (.inl (l3 + 4))]) (st' := []) (s' := μ) rfl ?_
            try simp only [if_neg c1, if_neg c2_0, if_neg c2_1, if_neg c2_2, if_neg c2_3, if_neg c2_4, if_neg c2_5, if_neg c2_6, if_neg c2_7, if_neg c2_8, if_neg c2_9, if_neg c2_10, if_neg c2_11, if_neg c2_12, if_neg c2_13, if_neg c2_14, if_neg c2_15, if_pos c2, if_pos c23] at h
            exact ih (l3 + 4) μ (hi.2.2.2.2.2.2.2.2.2.2.2.2.2.2.2.2.2.2.2.2.2.2.2.2.2.2.2.2.2.2.2.2.2.2.2.2.2.2.2.2.2.2.2.2.2.2.2.2.2.2.2.2.2.2.2.2.2.2.2.2.2.2.2.2.2.2.2.2.2.2.2.2.2.2.2.2 c1 c2 c23) hQ h
          · skip
            refine xr_go 1 (pc' := 656) (ls' := [some (.inr (some (99, 0))), some (.inr (some (0, 0))), some (.inr (some (36, 0))), some (.inl l3)]) (st' := [.inl 0]) (s' := μ) rfl ?_
            try simp only [if_neg c1, if_neg c2_0, if_neg c2_1, if_neg c2_2, if_neg c2_3, if_neg c2_4, if_neg c2_5, if_neg c2_6, if_neg c2_7, if_neg c2_8, if_neg c2_9, if_neg c2_10, if_neg c2_11, if_neg c2_12, if_neg c2_13, if_neg c2_14, if_neg c2_15, if_pos c2, if_neg c23] at h
            exact absurd h (by decide)
end TW
