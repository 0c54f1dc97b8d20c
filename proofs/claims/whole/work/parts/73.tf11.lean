/-! Methods of the reference as functions. Written by prog/gen_tf.py. -/
section TF
variable {L : Nat} {xs : Nat → Int32} {d : Nat} {μ : tm_M} {Q : Option (xm_V tm_R) → tm_M → Prop}
-- BootNetModel.live(I)V
def cs_170 (a1 : Int32) (μ : tm_M) : tm_M := (if ((cv_156 a1 μ) = 0) ∨ ((μ 36 0 3) < (μ 72 0 ((a1).toNatClampNeg))) then (if (μ 68 0 ((a1).toNatClampNeg)) = 1 then (if (μ 36 0 3) < (μ 73 0 ((a1).toNatClampNeg)) then (if (¬ ((μ 68 0 ((a1).toNatClampNeg)) = 4)) ∨ ((2 * ((μ 36 0 3) - (μ 71 0 ((a1).toNatClampNeg)))) < (μ 36 0 0)) then (if (¬ ((μ 68 0 ((a1).toNatClampNeg)) = 5)) ∨ ((8 * ((μ 36 0 3) - ((μ 72 0 ((a1).toNatClampNeg)) - (μ 36 0 0)))) < (7 * (μ 36 0 0))) then (if ((cv_156 a1 μ) = 0) ∨ ((¬ ((μ 76 0 ((a1).toNatClampNeg)) = 1)) ∨ ((μ 36 0 3) < (μ 80 0 ((a1).toNatClampNeg)))) then μ else (cs_169 a1 μ)) else (cs_159 a1 (tm_wr μ 68 0 ((a1).toNatClampNeg) 6))) else (cs_159 a1 (tm_wr μ 68 0 ((a1).toNatClampNeg) 5))) else (cs_167 a1 μ)) else (if (¬ ((μ 68 0 ((a1).toNatClampNeg)) = 2)) ∨ ((μ 36 0 3) < (μ 73 0 ((a1).toNatClampNeg))) then (if (¬ ((μ 68 0 ((a1).toNatClampNeg)) = 3)) ∨ ((μ 36 0 3) < (μ 73 0 ((a1).toNatClampNeg))) then (if (¬ ((μ 68 0 ((a1).toNatClampNeg)) = 4)) ∨ ((2 * ((μ 36 0 3) - (μ 71 0 ((a1).toNatClampNeg)))) < (μ 36 0 0)) then (if (¬ ((μ 68 0 ((a1).toNatClampNeg)) = 5)) ∨ ((8 * ((μ 36 0 3) - ((μ 72 0 ((a1).toNatClampNeg)) - (μ 36 0 0)))) < (7 * (μ 36 0 0))) then (if (((if (μ 68 0 ((a1).toNatClampNeg)) = 5 then 1 else ((if (μ 68 0 ((a1).toNatClampNeg)) = 6 then 1 else 0) : Int32)) : Int32) = 0) ∨ ((μ 36 0 3) < (μ 73 0 ((a1).toNatClampNeg))) then (if ((cv_156 a1 μ) = 0) ∨ ((¬ ((μ 76 0 ((a1).toNatClampNeg)) = 1)) ∨ ((μ 36 0 3) < (μ 80 0 ((a1).toNatClampNeg)))) then μ else (cs_169 a1 μ)) else (cs_159 a1 μ)) else (cs_159 a1 (tm_wr μ 68 0 ((a1).toNatClampNeg) 6))) else (cs_159 a1 (tm_wr μ 68 0 ((a1).toNatClampNeg) 5))) else (cs_168 a1 μ)) else (cs_167 a1 μ))) else (cs_158 a1 μ))
def ci_170 (a1 : Int32) (μ : tm_M) : Prop := (tm_ix a1 6 = true) ∧ (ci_156 a1 μ) ∧ ((((cv_156 a1 μ) = 0) ∨ ((μ 36 0 3) < (μ 72 0 ((a1).toNatClampNeg)))) → ((μ 68 0 ((a1).toNatClampNeg)) = 1) → ((μ 36 0 3) < (μ 73 0 ((a1).toNatClampNeg))) → ((μ 68 0 ((a1).toNatClampNeg)) = 3) → ((¬ ((μ 68 0 ((a1).toNatClampNeg)) = 4)) ∨ ((2 * ((μ 36 0 3) - (μ 71 0 ((a1).toNatClampNeg)))) < (μ 36 0 0))) → ((¬ ((μ 68 0 ((a1).toNatClampNeg)) = 5)) ∨ ((8 * ((μ 36 0 3) - ((μ 72 0 ((a1).toNatClampNeg)) - (μ 36 0 0)))) < (7 * (μ 36 0 0)))) → (((if (μ 68 0 ((a1).toNatClampNeg)) = 5 then 1 else ((if (μ 68 0 ((a1).toNatClampNeg)) = 6 then 1 else 0) : Int32)) : Int32) = 0) → ci_156 a1 μ) ∧ ((((cv_156 a1 μ) = 0) ∨ ((μ 36 0 3) < (μ 72 0 ((a1).toNatClampNeg)))) → ((μ 68 0 ((a1).toNatClampNeg)) = 1) → ((μ 36 0 3) < (μ 73 0 ((a1).toNatClampNeg))) → ((μ 68 0 ((a1).toNatClampNeg)) = 3) → ((¬ ((μ 68 0 ((a1).toNatClampNeg)) = 4)) ∨ ((2 * ((μ 36 0 3) - (μ 71 0 ((a1).toNatClampNeg)))) < (μ 36 0 0))) → ((¬ ((μ 68 0 ((a1).toNatClampNeg)) = 5)) ∨ ((8 * ((μ 36 0 3) - ((μ 72 0 ((a1).toNatClampNeg)) - (μ 36 0 0)))) < (7 * (μ 36 0 0)))) → (((if (μ 68 0 ((a1).toNatClampNeg)) = 5 then 1 else ((if (μ 68 0 ((a1).toNatClampNeg)) = 6 then 1 else 0) : Int32)) : Int32) = 0) → (¬ (((cv_156 a1 μ) = 0) ∨ ((¬ ((μ 76 0 ((a1).toNatClampNeg)) = 1)) ∨ ((μ 36 0 3) < (μ 80 0 ((a1).toNatClampNeg)))))) → ci_169 a1 μ) ∧ ((((cv_156 a1 μ) = 0) ∨ ((μ 36 0 3) < (μ 72 0 ((a1).toNatClampNeg)))) → ((μ 68 0 ((a1).toNatClampNeg)) = 1) → ((μ 36 0 3) < (μ 73 0 ((a1).toNatClampNeg))) → ((μ 68 0 ((a1).toNatClampNeg)) = 3) → ((¬ ((μ 68 0 ((a1).toNatClampNeg)) = 4)) ∨ ((2 * ((μ 36 0 3) - (μ 71 0 ((a1).toNatClampNeg)))) < (μ 36 0 0))) → ((¬ ((μ 68 0 ((a1).toNatClampNeg)) = 5)) ∨ ((8 * ((μ 36 0 3) - ((μ 72 0 ((a1).toNatClampNeg)) - (μ 36 0 0)))) < (7 * (μ 36 0 0)))) → (¬ (((if (μ 68 0 ((a1).toNatClampNeg)) = 5 then 1 else ((if (μ 68 0 ((a1).toNatClampNeg)) = 6 then 1 else 0) : Int32)) : Int32) = 0)) → ci_156 a1 μ) ∧ ((((cv_156 a1 μ) = 0) ∨ ((μ 36 0 3) < (μ 72 0 ((a1).toNatClampNeg)))) → ((μ 68 0 ((a1).toNatClampNeg)) = 1) → ((μ 36 0 3) < (μ 73 0 ((a1).toNatClampNeg))) → ((μ 68 0 ((a1).toNatClampNeg)) = 3) → ((¬ ((μ 68 0 ((a1).toNatClampNeg)) = 4)) ∨ ((2 * ((μ 36 0 3) - (μ 71 0 ((a1).toNatClampNeg)))) < (μ 36 0 0))) → ((¬ ((μ 68 0 ((a1).toNatClampNeg)) = 5)) ∨ ((8 * ((μ 36 0 3) - ((μ 72 0 ((a1).toNatClampNeg)) - (μ 36 0 0)))) < (7 * (μ 36 0 0)))) → (¬ (((if (μ 68 0 ((a1).toNatClampNeg)) = 5 then 1 else ((if (μ 68 0 ((a1).toNatClampNeg)) = 6 then 1 else 0) : Int32)) : Int32) = 0)) → (¬ (((cv_156 a1 μ) = 0) ∨ ((¬ ((μ 76 0 ((a1).toNatClampNeg)) = 1)) ∨ ((μ 36 0 3) < (μ 80 0 ((a1).toNatClampNeg)))))) → ci_169 a1 μ) ∧ ((((cv_156 a1 μ) = 0) ∨ ((μ 36 0 3) < (μ 72 0 ((a1).toNatClampNeg)))) → ((μ 68 0 ((a1).toNatClampNeg)) = 1) → ((μ 36 0 3) < (μ 73 0 ((a1).toNatClampNeg))) → ((μ 68 0 ((a1).toNatClampNeg)) = 3) → ((¬ ((μ 68 0 ((a1).toNatClampNeg)) = 4)) ∨ ((2 * ((μ 36 0 3) - (μ 71 0 ((a1).toNatClampNeg)))) < (μ 36 0 0))) → (¬ ((¬ ((μ 68 0 ((a1).toNatClampNeg)) = 5)) ∨ ((8 * ((μ 36 0 3) - ((μ 72 0 ((a1).toNatClampNeg)) - (μ 36 0 0)))) < (7 * (μ 36 0 0))))) → ci_159 a1 (tm_wr μ 68 0 ((a1).toNatClampNeg) 6)) ∧ ((((cv_156 a1 μ) = 0) ∨ ((μ 36 0 3) < (μ 72 0 ((a1).toNatClampNeg)))) → ((μ 68 0 ((a1).toNatClampNeg)) = 1) → ((μ 36 0 3) < (μ 73 0 ((a1).toNatClampNeg))) → ((μ 68 0 ((a1).toNatClampNeg)) = 3) → (¬ ((¬ ((μ 68 0 ((a1).toNatClampNeg)) = 4)) ∨ ((2 * ((μ 36 0 3) - (μ 71 0 ((a1).toNatClampNeg)))) < (μ 36 0 0)))) → ci_159 a1 (tm_wr μ 68 0 ((a1).toNatClampNeg) 5)) ∧ ((((cv_156 a1 μ) = 0) ∨ ((μ 36 0 3) < (μ 72 0 ((a1).toNatClampNeg)))) → ((μ 68 0 ((a1).toNatClampNeg)) = 1) → ((μ 36 0 3) < (μ 73 0 ((a1).toNatClampNeg))) → (¬ ((μ 68 0 ((a1).toNatClampNeg)) = 3)) → ((¬ ((μ 68 0 ((a1).toNatClampNeg)) = 4)) ∨ ((2 * ((μ 36 0 3) - (μ 71 0 ((a1).toNatClampNeg)))) < (μ 36 0 0))) → ((¬ ((μ 68 0 ((a1).toNatClampNeg)) = 5)) ∨ ((8 * ((μ 36 0 3) - ((μ 72 0 ((a1).toNatClampNeg)) - (μ 36 0 0)))) < (7 * (μ 36 0 0)))) → (((if (μ 68 0 ((a1).toNatClampNeg)) = 5 then 1 else ((if (μ 68 0 ((a1).toNatClampNeg)) = 6 then 1 else 0) : Int32)) : Int32) = 0) → ci_156 a1 μ) ∧ ((((cv_156 a1 μ) = 0) ∨ ((μ 36 0 3) < (μ 72 0 ((a1).toNatClampNeg)))) → ((μ 68 0 ((a1).toNatClampNeg)) = 1) → ((μ 36 0 3) < (μ 73 0 ((a1).toNatClampNeg))) → (¬ ((μ 68 0 ((a1).toNatClampNeg)) = 3)) → ((¬ ((μ 68 0 ((a1).toNatClampNeg)) = 4)) ∨ ((2 * ((μ 36 0 3) - (μ 71 0 ((a1).toNatClampNeg)))) < (μ 36 0 0))) → ((¬ ((μ 68 0 ((a1).toNatClampNeg)) = 5)) ∨ ((8 * ((μ 36 0 3) - ((μ 72 0 ((a1).toNatClampNeg)) - (μ 36 0 0)))) < (7 * (μ 36 0 0)))) → (((if (μ 68 0 ((a1).toNatClampNeg)) = 5 then 1 else ((if (μ 68 0 ((a1).toNatClampNeg)) = 6 then 1 else 0) : Int32)) : Int32) = 0) → (¬ (((cv_156 a1 μ) = 0) ∨ ((¬ ((μ 76 0 ((a1).toNatClampNeg)) = 1)) ∨ ((μ 36 0 3) < (μ 80 0 ((a1).toNatClampNeg)))))) → ci_169 a1 μ) ∧ ((((cv_156 a1 μ) = 0) ∨ ((μ 36 0 3) < (μ 72 0 ((a1).toNatClampNeg)))) → ((μ 68 0 ((a1).toNatClampNeg)) = 1) → ((μ 36 0 3) < (μ 73 0 ((a1).toNatClampNeg))) → (¬ ((μ 68 0 ((a1).toNatClampNeg)) = 3)) → ((¬ ((μ 68 0 ((a1).toNatClampNeg)) = 4)) ∨ ((2 * ((μ 36 0 3) - (μ 71 0 ((a1).toNatClampNeg)))) < (μ 36 0 0))) → ((¬ ((μ 68 0 ((a1).toNatClampNeg)) = 5)) ∨ ((8 * ((μ 36 0 3) - ((μ 72 0 ((a1).toNatClampNeg)) - (μ 36 0 0)))) < (7 * (μ 36 0 0)))) → (¬ (((if (μ 68 0 ((a1).toNatClampNeg)) = 5 then 1 else ((if (μ 68 0 ((a1).toNatClampNeg)) = 6 then 1 else 0) : Int32)) : Int32) = 0)) → ci_156 a1 μ) ∧ ((((cv_156 a1 μ) = 0) ∨ ((μ 36 0 3) < (μ 72 0 ((a1).toNatClampNeg)))) → ((μ 68 0 ((a1).toNatClampNeg)) = 1) → ((μ 36 0 3) < (μ 73 0 ((a1).toNatClampNeg))) → (¬ ((μ 68 0 ((a1).toNatClampNeg)) = 3)) → ((¬ ((μ 68 0 ((a1).toNatClampNeg)) = 4)) ∨ ((2 * ((μ 36 0 3) - (μ 71 0 ((a1).toNatClampNeg)))) < (μ 36 0 0))) → ((¬ ((μ 68 0 ((a1).toNatClampNeg)) = 5)) ∨ ((8 * ((μ 36 0 3) - ((μ 72 0 ((a1).toNatClampNeg)) - (μ 36 0 0)))) < (7 * (μ 36 0 0)))) → (¬ (((if (μ 68 0 ((a1).toNatClampNeg)) = 5 then 1 else ((if (μ 68 0 ((a1).toNatClampNeg)) = 6 then 1 else 0) : Int32)) : Int32) = 0)) → (¬ (((cv_156 a1 μ) = 0) ∨ ((¬ ((μ 76 0 ((a1).toNatClampNeg)) = 1)) ∨ ((μ 36 0 3) < (μ 80 0 ((a1).toNatClampNeg)))))) → ci_169 a1 μ) ∧ ((((cv_156 a1 μ) = 0) ∨ ((μ 36 0 3) < (μ 72 0 ((a1).toNatClampNeg)))) → ((μ 68 0 ((a1).toNatClampNeg)) = 1) → ((μ 36 0 3) < (μ 73 0 ((a1).toNatClampNeg))) → (¬ ((μ 68 0 ((a1).toNatClampNeg)) = 3)) → ((¬ ((μ 68 0 ((a1).toNatClampNeg)) = 4)) ∨ ((2 * ((μ 36 0 3) - (μ 71 0 ((a1).toNatClampNeg)))) < (μ 36 0 0))) → (¬ ((¬ ((μ 68 0 ((a1).toNatClampNeg)) = 5)) ∨ ((8 * ((μ 36 0 3) - ((μ 72 0 ((a1).toNatClampNeg)) - (μ 36 0 0)))) < (7 * (μ 36 0 0))))) → ci_159 a1 (tm_wr μ 68 0 ((a1).toNatClampNeg) 6)) ∧ ((((cv_156 a1 μ) = 0) ∨ ((μ 36 0 3) < (μ 72 0 ((a1).toNatClampNeg)))) → ((μ 68 0 ((a1).toNatClampNeg)) = 1) → ((μ 36 0 3) < (μ 73 0 ((a1).toNatClampNeg))) → (¬ ((μ 68 0 ((a1).toNatClampNeg)) = 3)) → (¬ ((¬ ((μ 68 0 ((a1).toNatClampNeg)) = 4)) ∨ ((2 * ((μ 36 0 3) - (μ 71 0 ((a1).toNatClampNeg)))) < (μ 36 0 0)))) → ci_159 a1 (tm_wr μ 68 0 ((a1).toNatClampNeg) 5)) ∧ ((((cv_156 a1 μ) = 0) ∨ ((μ 36 0 3) < (μ 72 0 ((a1).toNatClampNeg)))) → ((μ 68 0 ((a1).toNatClampNeg)) = 1) → (¬ ((μ 36 0 3) < (μ 73 0 ((a1).toNatClampNeg)))) → ci_167 a1 μ) ∧ ((((cv_156 a1 μ) = 0) ∨ ((μ 36 0 3) < (μ 72 0 ((a1).toNatClampNeg)))) → (¬ ((μ 68 0 ((a1).toNatClampNeg)) = 1)) → ((¬ ((μ 68 0 ((a1).toNatClampNeg)) = 2)) ∨ ((μ 36 0 3) < (μ 73 0 ((a1).toNatClampNeg)))) → ((¬ ((μ 68 0 ((a1).toNatClampNeg)) = 3)) ∨ ((μ 36 0 3) < (μ 73 0 ((a1).toNatClampNeg)))) → ((¬ ((μ 68 0 ((a1).toNatClampNeg)) = 4)) ∨ ((2 * ((μ 36 0 3) - (μ 71 0 ((a1).toNatClampNeg)))) < (μ 36 0 0))) → ((¬ ((μ 68 0 ((a1).toNatClampNeg)) = 5)) ∨ ((8 * ((μ 36 0 3) - ((μ 72 0 ((a1).toNatClampNeg)) - (μ 36 0 0)))) < (7 * (μ 36 0 0)))) → ((((if (μ 68 0 ((a1).toNatClampNeg)) = 5 then 1 else ((if (μ 68 0 ((a1).toNatClampNeg)) = 6 then 1 else 0) : Int32)) : Int32) = 0) ∨ ((μ 36 0 3) < (μ 73 0 ((a1).toNatClampNeg)))) → ci_156 a1 μ) ∧ ((((cv_156 a1 μ) = 0) ∨ ((μ 36 0 3) < (μ 72 0 ((a1).toNatClampNeg)))) → (¬ ((μ 68 0 ((a1).toNatClampNeg)) = 1)) → ((¬ ((μ 68 0 ((a1).toNatClampNeg)) = 2)) ∨ ((μ 36 0 3) < (μ 73 0 ((a1).toNatClampNeg)))) → ((¬ ((μ 68 0 ((a1).toNatClampNeg)) = 3)) ∨ ((μ 36 0 3) < (μ 73 0 ((a1).toNatClampNeg)))) → ((¬ ((μ 68 0 ((a1).toNatClampNeg)) = 4)) ∨ ((2 * ((μ 36 0 3) - (μ 71 0 ((a1).toNatClampNeg)))) < (μ 36 0 0))) → ((¬ ((μ 68 0 ((a1).toNatClampNeg)) = 5)) ∨ ((8 * ((μ 36 0 3) - ((μ 72 0 ((a1).toNatClampNeg)) - (μ 36 0 0)))) < (7 * (μ 36 0 0)))) → ((((if (μ 68 0 ((a1).toNatClampNeg)) = 5 then 1 else ((if (μ 68 0 ((a1).toNatClampNeg)) = 6 then 1 else 0) : Int32)) : Int32) = 0) ∨ ((μ 36 0 3) < (μ 73 0 ((a1).toNatClampNeg)))) → (¬ (((cv_156 a1 μ) = 0) ∨ ((¬ ((μ 76 0 ((a1).toNatClampNeg)) = 1)) ∨ ((μ 36 0 3) < (μ 80 0 ((a1).toNatClampNeg)))))) → ci_169 a1 μ) ∧ ((((cv_156 a1 μ) = 0) ∨ ((μ 36 0 3) < (μ 72 0 ((a1).toNatClampNeg)))) → (¬ ((μ 68 0 ((a1).toNatClampNeg)) = 1)) → ((¬ ((μ 68 0 ((a1).toNatClampNeg)) = 2)) ∨ ((μ 36 0 3) < (μ 73 0 ((a1).toNatClampNeg)))) → ((¬ ((μ 68 0 ((a1).toNatClampNeg)) = 3)) ∨ ((μ 36 0 3) < (μ 73 0 ((a1).toNatClampNeg)))) → ((¬ ((μ 68 0 ((a1).toNatClampNeg)) = 4)) ∨ ((2 * ((μ 36 0 3) - (μ 71 0 ((a1).toNatClampNeg)))) < (μ 36 0 0))) → ((¬ ((μ 68 0 ((a1).toNatClampNeg)) = 5)) ∨ ((8 * ((μ 36 0 3) - ((μ 72 0 ((a1).toNatClampNeg)) - (μ 36 0 0)))) < (7 * (μ 36 0 0)))) → (¬ ((((if (μ 68 0 ((a1).toNatClampNeg)) = 5 then 1 else ((if (μ 68 0 ((a1).toNatClampNeg)) = 6 then 1 else 0) : Int32)) : Int32) = 0) ∨ ((μ 36 0 3) < (μ 73 0 ((a1).toNatClampNeg))))) → ci_159 a1 μ) ∧ ((((cv_156 a1 μ) = 0) ∨ ((μ 36 0 3) < (μ 72 0 ((a1).toNatClampNeg)))) → (¬ ((μ 68 0 ((a1).toNatClampNeg)) = 1)) → ((¬ ((μ 68 0 ((a1).toNatClampNeg)) = 2)) ∨ ((μ 36 0 3) < (μ 73 0 ((a1).toNatClampNeg)))) → ((¬ ((μ 68 0 ((a1).toNatClampNeg)) = 3)) ∨ ((μ 36 0 3) < (μ 73 0 ((a1).toNatClampNeg)))) → ((¬ ((μ 68 0 ((a1).toNatClampNeg)) = 4)) ∨ ((2 * ((μ 36 0 3) - (μ 71 0 ((a1).toNatClampNeg)))) < (μ 36 0 0))) → (¬ ((¬ ((μ 68 0 ((a1).toNatClampNeg)) = 5)) ∨ ((8 * ((μ 36 0 3) - ((μ 72 0 ((a1).toNatClampNeg)) - (μ 36 0 0)))) < (7 * (μ 36 0 0))))) → ci_159 a1 (tm_wr μ 68 0 ((a1).toNatClampNeg) 6)) ∧ ((((cv_156 a1 μ) = 0) ∨ ((μ 36 0 3) < (μ 72 0 ((a1).toNatClampNeg)))) → (¬ ((μ 68 0 ((a1).toNatClampNeg)) = 1)) → ((¬ ((μ 68 0 ((a1).toNatClampNeg)) = 2)) ∨ ((μ 36 0 3) < (μ 73 0 ((a1).toNatClampNeg)))) → ((¬ ((μ 68 0 ((a1).toNatClampNeg)) = 3)) ∨ ((μ 36 0 3) < (μ 73 0 ((a1).toNatClampNeg)))) → (¬ ((¬ ((μ 68 0 ((a1).toNatClampNeg)) = 4)) ∨ ((2 * ((μ 36 0 3) - (μ 71 0 ((a1).toNatClampNeg)))) < (μ 36 0 0)))) → ci_159 a1 (tm_wr μ 68 0 ((a1).toNatClampNeg) 5)) ∧ ((((cv_156 a1 μ) = 0) ∨ ((μ 36 0 3) < (μ 72 0 ((a1).toNatClampNeg)))) → (¬ ((μ 68 0 ((a1).toNatClampNeg)) = 1)) → ((¬ ((μ 68 0 ((a1).toNatClampNeg)) = 2)) ∨ ((μ 36 0 3) < (μ 73 0 ((a1).toNatClampNeg)))) → (¬ ((¬ ((μ 68 0 ((a1).toNatClampNeg)) = 3)) ∨ ((μ 36 0 3) < (μ 73 0 ((a1).toNatClampNeg))))) → ci_168 a1 μ) ∧ ((((cv_156 a1 μ) = 0) ∨ ((μ 36 0 3) < (μ 72 0 ((a1).toNatClampNeg)))) → (¬ ((μ 68 0 ((a1).toNatClampNeg)) = 1)) → (¬ ((¬ ((μ 68 0 ((a1).toNatClampNeg)) = 2)) ∨ ((μ 36 0 3) < (μ 73 0 ((a1).toNatClampNeg))))) → ci_167 a1 μ) ∧ ((¬ (((cv_156 a1 μ) = 0) ∨ ((μ 36 0 3) < (μ 72 0 ((a1).toNatClampNeg))))) → ci_158 a1 μ)
set_option maxHeartbeats 4000000 in
set_option maxRecDepth 10000 in
theorem tf_170 {a1 : Int32} (hi : ci_170 a1 μ) (h : Q none (cs_170 a1 μ)) : xm_MW (tm_I L xs) (d + 5) 170 [.inr (some (36, 0)), .inl a1] μ Q := by
  refine xr_in2 [some (.inr (some (36, 0))), some (.inl a1), none] rfl rfl ?_
  unfold cs_170 at h
  unfold ci_170 at hi
  refine xr_go 3 (pc' := 5) (ls' := [some (.inr (some (36, 0))), some (.inl a1), none]) (st' := [.inl a1, .inr (some (68, 0))]) (s' := μ) rfl ?_
  refine xr_ial (n := 6) rfl rfl (hi.1) ?_
  suffices hj1 : xr_t (tm_I L xs) (d + 4) 170 26 [some (.inr (some (36, 0))), some (.inl a1), none] [.inl ((if (μ 68 0 ((a1).toNatClampNeg)) = 5 then 1 else ((if (μ 68 0 ((a1).toNatClampNeg)) = 6 then 1 else 0) : Int32)) : Int32)] μ Q by
    refine xr_br 2 (c := (μ 68 0 ((a1).toNatClampNeg)) = 5) inferInstance (a := 21) (b := 10) (ls' := [some (.inr (some (36, 0))), some (.inl a1), none]) (st' := []) (s' := μ) rfl (fun c1 => ?_) (fun c1 => ?_)
    · skip
      refine xr_go 2 (pc' := 26) (ls' := [some (.inr (some (36, 0))), some (.inl a1), none]) (st' := [.inl 1]) (s' := μ) rfl ?_
      have ehj1 : ((if (μ 68 0 ((a1).toNatClampNeg)) = 5 then 1 else ((if (μ 68 0 ((a1).toNatClampNeg)) = 6 then 1 else 0) : Int32)) : Int32) = 1 := by first | rfl | simp only [if_pos c1]
      rw [ehj1] at hj1
      exact hj1
    · skip
      refine xr_go 3 (pc' := 15) (ls' := [some (.inr (some (36, 0))), some (.inl a1), none]) (st' := [.inl a1, .inr (some (68, 0))]) (s' := μ) rfl ?_
      refine xr_ial (n := 6) rfl rfl (hi.1) ?_
      suffices hj2 : xr_t (tm_I L xs) (d + 4) 170 26 [some (.inr (some (36, 0))), some (.inl a1), none] [.inl ((if (μ 68 0 ((a1).toNatClampNeg)) = 6 then 1 else 0) : Int32)] μ Q by
        refine xr_br 2 (c := (μ 68 0 ((a1).toNatClampNeg)) = 6) inferInstance (a := 21) (b := 25) (ls' := [some (.inr (some (36, 0))), some (.inl a1), none]) (st' := []) (s' := μ) rfl (fun c2 => ?_) (fun c2 => ?_)
        · skip
          refine xr_go 2 (pc' := 26) (ls' := [some (.inr (some (36, 0))), some (.inl a1), none]) (st' := [.inl 1]) (s' := μ) rfl ?_
          have ehj2 : ((if (μ 68 0 ((a1).toNatClampNeg)) = 6 then 1 else 0) : Int32) = 1 := by first | rfl | simp only [if_pos c2]
          rw [ehj2] at hj2
          exact hj2
        · skip
          refine xr_go 1 (pc' := 26) (ls' := [some (.inr (some (36, 0))), some (.inl a1), none]) (st' := [.inl 0]) (s' := μ) rfl ?_
          have ehj2 : ((if (μ 68 0 ((a1).toNatClampNeg)) = 6 then 1 else 0) : Int32) = 0 := by first | rfl | simp only [if_neg c2]
          rw [ehj2] at hj2
          exact hj2
      have ehj1 : ((if (μ 68 0 ((a1).toNatClampNeg)) = 5 then 1 else ((if (μ 68 0 ((a1).toNatClampNeg)) = 6 then 1 else 0) : Int32)) : Int32) = ((if (μ 68 0 ((a1).toNatClampNeg)) = 6 then 1 else 0) : Int32) := by first | rfl | simp only [if_neg c1]
      rw [ehj1] at hj1
      exact hj1
  refine xr_go 3 (pc' := 29) (ls' := [some (.inr (some (36, 0))), some (.inl a1), some (.inl ((if (μ 68 0 ((a1).toNatClampNeg)) = 5 then 1 else ((if (μ 68 0 ((a1).toNatClampNeg)) = 6 then 1 else 0) : Int32)) : Int32))]) (st' := [.inl a1, .inr (some (36, 0))]) (s' := μ) rfl ?_
  refine xr_cl (y' := 156) (as := [.inr (some (36, 0)), .inl a1]) (r := []) rfl rfl ?_
  refine tf_156 (d := d + 3) (μ := μ) (a1 := a1) (hi.2.1) ?_
  show xr_t (tm_I L xs) (d + 4) 170 32 [some (.inr (some (36, 0))), some (.inl a1), some (.inl ((if (μ 68 0 ((a1).toNatClampNeg)) = 5 then 1 else ((if (μ 68 0 ((a1).toNatClampNeg)) = 6 then 1 else 0) : Int32)) : Int32))] [.inl (cv_156 a1 μ)] μ Q
  have z1 : (cv_156 a1 μ) = 0 ∨ (cv_156 a1 μ) = 1 := cz_156
  generalize gv1 : (cv_156 a1 μ) = v1 at h hi z1 ⊢
  suffices hE3 : (((v1 = 0) ∨ ((μ 36 0 3) < (μ 72 0 ((a1).toNatClampNeg)))) → xr_t (tm_I L xs) (d + 4) 170 56 [some (.inr (some (36, 0))), some (.inl a1), some (.inl ((if (μ 68 0 ((a1).toNatClampNeg)) = 5 then 1 else ((if (μ 68 0 ((a1).toNatClampNeg)) = 6 then 1 else 0) : Int32)) : Int32))] [] μ Q) ∧ (¬ ((v1 = 0) ∨ ((μ 36 0 3) < (μ 72 0 ((a1).toNatClampNeg)))) → xr_t (tm_I L xs) (d + 4) 170 48 [some (.inr (some (36, 0))), some (.inl a1), some (.inl ((if (μ 68 0 ((a1).toNatClampNeg)) = 5 then 1 else ((if (μ 68 0 ((a1).toNatClampNeg)) = 6 then 1 else 0) : Int32)) : Int32))] [] μ Q) by
    refine xr_br 1 (c := v1 = 0) inferInstance (a := 56) (b := 35) (ls' := [some (.inr (some (36, 0))), some (.inl a1), some (.inl ((if (μ 68 0 ((a1).toNatClampNeg)) = 5 then 1 else ((if (μ 68 0 ((a1).toNatClampNeg)) = 6 then 1 else 0) : Int32)) : Int32))]) (st' := []) (s' := μ) rfl (fun c3 => ?_) (fun c3 => ?_)
    · skip
      exact hE3.1 (Or.inl c3)
    · skip
      refine xr_go 5 (pc' := 44) (ls' := [some (.inr (some (36, 0))), some (.inl a1), some (.inl ((if (μ 68 0 ((a1).toNatClampNeg)) = 5 then 1 else ((if (μ 68 0 ((a1).toNatClampNeg)) = 6 then 1 else 0) : Int32)) : Int32))]) (st' := [.inl a1, .inr (some (72, 0)), .inl (μ 36 0 3)]) (s' := μ) rfl ?_
      refine xr_ial (n := 6) rfl rfl (hi.1) ?_
      refine xr_br 1 (c := (μ 36 0 3) < (μ 72 0 ((a1).toNatClampNeg))) inferInstance (a := 56) (b := 48) (ls' := [some (.inr (some (36, 0))), some (.inl a1), some (.inl ((if (μ 68 0 ((a1).toNatClampNeg)) = 5 then 1 else ((if (μ 68 0 ((a1).toNatClampNeg)) = 6 then 1 else 0) : Int32)) : Int32))]) (st' := []) (s' := μ) rfl (fun c4 => ?_) (fun c4 => ?_)
      · skip
        exact hE3.1 (Or.inr c4)
      · skip
        exact hE3.2 (fun z => z.elim c3 c4)
  refine ⟨fun c5 => ?_, fun c5 => ?_⟩
  · skip
    refine xr_go 3 (pc' := 61) (ls' := [some (.inr (some (36, 0))), some (.inl a1), some (.inl ((if (μ 68 0 ((a1).toNatClampNeg)) = 5 then 1 else ((if (μ 68 0 ((a1).toNatClampNeg)) = 6 then 1 else 0) : Int32)) : Int32))]) (st' := [.inl a1, .inr (some (68, 0))]) (s' := μ) rfl ?_
    refine xr_ial (n := 6) rfl rfl (hi.1) ?_
    refine xr_br 2 (c := (μ 68 0 ((a1).toNatClampNeg)) = 1) inferInstance (a := 76) (b := 66) (ls' := [some (.inr (some (36, 0))), some (.inl a1), some (.inl ((if (μ 68 0 ((a1).toNatClampNeg)) = 5 then 1 else ((if (μ 68 0 ((a1).toNatClampNeg)) = 6 then 1 else 0) : Int32)) : Int32))]) (st' := []) (s' := μ) rfl (fun c6 => ?_) (fun c6 => ?_)
    · skip
      refine xr_go 5 (pc' := 85) (ls' := [some (.inr (some (36, 0))), some (.inl a1), some (.inl ((if (μ 68 0 ((a1).toNatClampNeg)) = 5 then 1 else ((if (μ 68 0 ((a1).toNatClampNeg)) = 6 then 1 else 0) : Int32)) : Int32))]) (st' := [.inl a1, .inr (some (73, 0)), .inl (μ 36 0 3)]) (s' := μ) rfl ?_
      refine xr_ial (n := 6) rfl rfl (hi.1) ?_
      refine xr_br 1 (c := (μ 36 0 3) < (μ 73 0 ((a1).toNatClampNeg))) inferInstance (a := 97) (b := 89) (ls' := [some (.inr (some (36, 0))), some (.inl a1), some (.inl ((if (μ 68 0 ((a1).toNatClampNeg)) = 5 then 1 else ((if (μ 68 0 ((a1).toNatClampNeg)) = 6 then 1 else 0) : Int32)) : Int32))]) (st' := []) (s' := μ) rfl (fun c7 => ?_) (fun c7 => ?_)
      · skip
        refine xr_go 3 (pc' := 102) (ls' := [some (.inr (some (36, 0))), some (.inl a1), some (.inl ((if (μ 68 0 ((a1).toNatClampNeg)) = 5 then 1 else ((if (μ 68 0 ((a1).toNatClampNeg)) = 6 then 1 else 0) : Int32)) : Int32))]) (st' := [.inl a1, .inr (some (68, 0))]) (s' := μ) rfl ?_
        refine xr_ial (n := 6) rfl rfl (hi.1) ?_
        refine xr_br 2 (c := (μ 68 0 ((a1).toNatClampNeg)) = 3) inferInstance (a := 107) (b := 128) (ls' := [some (.inr (some (36, 0))), some (.inl a1), some (.inl ((if (μ 68 0 ((a1).toNatClampNeg)) = 5 then 1 else ((if (μ 68 0 ((a1).toNatClampNeg)) = 6 then 1 else 0) : Int32)) : Int32))]) (st' := []) (s' := μ) rfl (fun c8 => ?_) (fun c8 => ?_)
        · skip
          refine xr_go 5 (pc' := 116) (ls' := [some (.inr (some (36, 0))), some (.inl a1), some (.inl ((if (μ 68 0 ((a1).toNatClampNeg)) = 5 then 1 else ((if (μ 68 0 ((a1).toNatClampNeg)) = 6 then 1 else 0) : Int32)) : Int32))]) (st' := [.inl a1, .inr (some (73, 0)), .inl (μ 36 0 3)]) (s' := μ) rfl ?_
          refine xr_ial (n := 6) rfl rfl (hi.1) ?_
          refine xr_br 1 (c := (μ 36 0 3) < (μ 73 0 ((a1).toNatClampNeg))) inferInstance (a := 128) (b := 120) (ls' := [some (.inr (some (36, 0))), some (.inl a1), some (.inl ((if (μ 68 0 ((a1).toNatClampNeg)) = 5 then 1 else ((if (μ 68 0 ((a1).toNatClampNeg)) = 6 then 1 else 0) : Int32)) : Int32))]) (st' := []) (s' := μ) rfl (fun cx => ?_) (fun cx => ?_)
          rotate_left
          · exact absurd c7 cx
          refine xr_go 3 (pc' := 133) (ls' := [some (.inr (some (36, 0))), some (.inl a1), some (.inl ((if (μ 68 0 ((a1).toNatClampNeg)) = 5 then 1 else ((if (μ 68 0 ((a1).toNatClampNeg)) = 6 then 1 else 0) : Int32)) : Int32))]) (st' := [.inl a1, .inr (some (68, 0))]) (s' := μ) rfl ?_
          refine xr_ial (n := 6) rfl rfl (hi.1) ?_
          suffices hE9 : (((¬ ((μ 68 0 ((a1).toNatClampNeg)) = 4)) ∨ ((2 * ((μ 36 0 3) - (μ 71 0 ((a1).toNatClampNeg)))) < (μ 36 0 0))) → xr_t (tm_I L xs) (d + 4) 170 173 [some (.inr (some (36, 0))), some (.inl a1), some (.inl ((if (μ 68 0 ((a1).toNatClampNeg)) = 5 then 1 else ((if (μ 68 0 ((a1).toNatClampNeg)) = 6 then 1 else 0) : Int32)) : Int32))] [] μ Q) ∧ (¬ ((¬ ((μ 68 0 ((a1).toNatClampNeg)) = 4)) ∨ ((2 * ((μ 36 0 3) - (μ 71 0 ((a1).toNatClampNeg)))) < (μ 36 0 0))) → xr_t (tm_I L xs) (d + 4) 170 158 [some (.inr (some (36, 0))), some (.inl a1), some (.inl ((if (μ 68 0 ((a1).toNatClampNeg)) = 5 then 1 else ((if (μ 68 0 ((a1).toNatClampNeg)) = 6 then 1 else 0) : Int32)) : Int32))] [] μ Q) by
            refine xr_br 2 (c := (μ 68 0 ((a1).toNatClampNeg)) = 4) inferInstance (a := 138) (b := 173) (ls' := [some (.inr (some (36, 0))), some (.inl a1), some (.inl ((if (μ 68 0 ((a1).toNatClampNeg)) = 5 then 1 else ((if (μ 68 0 ((a1).toNatClampNeg)) = 6 then 1 else 0) : Int32)) : Int32))]) (st' := []) (s' := μ) rfl (fun c9 => ?_) (fun c9 => ?_)
            · skip
              refine xr_go 6 (pc' := 148) (ls' := [some (.inr (some (36, 0))), some (.inl a1), some (.inl ((if (μ 68 0 ((a1).toNatClampNeg)) = 5 then 1 else ((if (μ 68 0 ((a1).toNatClampNeg)) = 6 then 1 else 0) : Int32)) : Int32))]) (st' := [.inl a1, .inr (some (71, 0)), .inl (μ 36 0 3), .inl 2]) (s' := μ) rfl ?_
              refine xr_ial (n := 6) rfl rfl (hi.1) ?_
              refine xr_br 5 (c := (2 * ((μ 36 0 3) - (μ 71 0 ((a1).toNatClampNeg)))) < (μ 36 0 0)) inferInstance (a := 173) (b := 158) (ls' := [some (.inr (some (36, 0))), some (.inl a1), some (.inl ((if (μ 68 0 ((a1).toNatClampNeg)) = 5 then 1 else ((if (μ 68 0 ((a1).toNatClampNeg)) = 6 then 1 else 0) : Int32)) : Int32))]) (st' := []) (s' := μ) rfl (fun c10 => ?_) (fun c10 => ?_)
              · skip
                exact hE9.1 (Or.inr c10)
              · skip
                exact hE9.2 (fun z => z.elim (fun w => w c9) c10)
            · skip
              exact hE9.1 (Or.inl c9)
          refine ⟨fun c11 => ?_, fun c11 => ?_⟩
          · skip
            refine xr_go 3 (pc' := 178) (ls' := [some (.inr (some (36, 0))), some (.inl a1), some (.inl ((if (μ 68 0 ((a1).toNatClampNeg)) = 5 then 1 else ((if (μ 68 0 ((a1).toNatClampNeg)) = 6 then 1 else 0) : Int32)) : Int32))]) (st' := [.inl a1, .inr (some (68, 0))]) (s' := μ) rfl ?_
            refine xr_ial (n := 6) rfl rfl (hi.1) ?_
            suffices hE12 : (((¬ ((μ 68 0 ((a1).toNatClampNeg)) = 5)) ∨ ((8 * ((μ 36 0 3) - ((μ 72 0 ((a1).toNatClampNeg)) - (μ 36 0 0)))) < (7 * (μ 36 0 0)))) → xr_t (tm_I L xs) (d + 4) 170 228 [some (.inr (some (36, 0))), some (.inl a1), some (.inl ((if (μ 68 0 ((a1).toNatClampNeg)) = 5 then 1 else ((if (μ 68 0 ((a1).toNatClampNeg)) = 6 then 1 else 0) : Int32)) : Int32))] [] μ Q) ∧ (¬ ((¬ ((μ 68 0 ((a1).toNatClampNeg)) = 5)) ∨ ((8 * ((μ 36 0 3) - ((μ 72 0 ((a1).toNatClampNeg)) - (μ 36 0 0)))) < (7 * (μ 36 0 0)))) → xr_t (tm_I L xs) (d + 4) 170 212 [some (.inr (some (36, 0))), some (.inl a1), some (.inl ((if (μ 68 0 ((a1).toNatClampNeg)) = 5 then 1 else ((if (μ 68 0 ((a1).toNatClampNeg)) = 6 then 1 else 0) : Int32)) : Int32))] [] μ Q) by
              refine xr_br 2 (c := (μ 68 0 ((a1).toNatClampNeg)) = 5) inferInstance (a := 183) (b := 228) (ls' := [some (.inr (some (36, 0))), some (.inl a1), some (.inl ((if (μ 68 0 ((a1).toNatClampNeg)) = 5 then 1 else ((if (μ 68 0 ((a1).toNatClampNeg)) = 6 then 1 else 0) : Int32)) : Int32))]) (st' := []) (s' := μ) rfl (fun c12 => ?_) (fun c12 => ?_)
              · skip
                refine xr_go 6 (pc' := 194) (ls' := [some (.inr (some (36, 0))), some (.inl a1), some (.inl ((if (μ 68 0 ((a1).toNatClampNeg)) = 5 then 1 else ((if (μ 68 0 ((a1).toNatClampNeg)) = 6 then 1 else 0) : Int32)) : Int32))]) (st' := [.inl a1, .inr (some (72, 0)), .inl (μ 36 0 3), .inl 8]) (s' := μ) rfl ?_
                refine xr_ial (n := 6) rfl rfl (hi.1) ?_
                refine xr_br 10 (c := (8 * ((μ 36 0 3) - ((μ 72 0 ((a1).toNatClampNeg)) - (μ 36 0 0)))) < (7 * (μ 36 0 0))) inferInstance (a := 228) (b := 212) (ls' := [some (.inr (some (36, 0))), some (.inl a1), some (.inl ((if (μ 68 0 ((a1).toNatClampNeg)) = 5 then 1 else ((if (μ 68 0 ((a1).toNatClampNeg)) = 6 then 1 else 0) : Int32)) : Int32))]) (st' := []) (s' := μ) rfl (fun c13 => ?_) (fun c13 => ?_)
                · skip
                  exact hE12.1 (Or.inr c13)
                · skip
                  exact hE12.2 (fun z => z.elim (fun w => w c12) c13)
              · skip
                exact hE12.1 (Or.inl c12)
            refine ⟨fun c14 => ?_, fun c14 => ?_⟩
            · skip
              refine xr_br 2 (c := ((if (μ 68 0 ((a1).toNatClampNeg)) = 5 then 1 else ((if (μ 68 0 ((a1).toNatClampNeg)) = 6 then 1 else 0) : Int32)) : Int32) = 0) inferInstance (a := 253) (b := 232) (ls' := [some (.inr (some (36, 0))), some (.inl a1), some (.inl ((if (μ 68 0 ((a1).toNatClampNeg)) = 5 then 1 else ((if (μ 68 0 ((a1).toNatClampNeg)) = 6 then 1 else 0) : Int32)) : Int32))]) (st' := []) (s' := μ) rfl (fun c15 => ?_) (fun c15 => ?_)
              · skip
                refine xr_go 2 (pc' := 255) (ls' := [some (.inr (some (36, 0))), some (.inl a1), some (.inl ((if (μ 68 0 ((a1).toNatClampNeg)) = 5 then 1 else ((if (μ 68 0 ((a1).toNatClampNeg)) = 6 then 1 else 0) : Int32)) : Int32))]) (st' := [.inl a1, .inr (some (36, 0))]) (s' := μ) rfl ?_
                refine xr_cl (y' := 156) (as := [.inr (some (36, 0)), .inl a1]) (r := []) rfl rfl ?_
                refine tf_156 (d := d + 3) (μ := μ) (a1 := a1) (hi.2.2.1 c5 c6 c7 c8 c11 c14 c15) ?_
                rw [gv1]
                show xr_t (tm_I L xs) (d + 4) 170 258 [some (.inr (some (36, 0))), some (.inl a1), some (.inl ((if (μ 68 0 ((a1).toNatClampNeg)) = 5 then 1 else ((if (μ 68 0 ((a1).toNatClampNeg)) = 6 then 1 else 0) : Int32)) : Int32))] [.inl v1] μ Q
                suffices hE16 : (((v1 = 0) ∨ ((¬ ((μ 76 0 ((a1).toNatClampNeg)) = 1)) ∨ ((μ 36 0 3) < (μ 80 0 ((a1).toNatClampNeg))))) → xr_t (tm_I L xs) (d + 4) 170 289 [some (.inr (some (36, 0))), some (.inl a1), some (.inl ((if (μ 68 0 ((a1).toNatClampNeg)) = 5 then 1 else ((if (μ 68 0 ((a1).toNatClampNeg)) = 6 then 1 else 0) : Int32)) : Int32))] [] μ Q) ∧ (¬ ((v1 = 0) ∨ ((¬ ((μ 76 0 ((a1).toNatClampNeg)) = 1)) ∨ ((μ 36 0 3) < (μ 80 0 ((a1).toNatClampNeg))))) → xr_t (tm_I L xs) (d + 4) 170 284 [some (.inr (some (36, 0))), some (.inl a1), some (.inl ((if (μ 68 0 ((a1).toNatClampNeg)) = 5 then 1 else ((if (μ 68 0 ((a1).toNatClampNeg)) = 6 then 1 else 0) : Int32)) : Int32))] [] μ Q) by
                  refine xr_br 1 (c := v1 = 0) inferInstance (a := 289) (b := 261) (ls' := [some (.inr (some (36, 0))), some (.inl a1), some (.inl ((if (μ 68 0 ((a1).toNatClampNeg)) = 5 then 1 else ((if (μ 68 0 ((a1).toNatClampNeg)) = 6 then 1 else 0) : Int32)) : Int32))]) (st' := []) (s' := μ) rfl (fun c16 => ?_) (fun c16 => ?_)
                  · skip
                    exact hE16.1 (Or.inl c16)
                  · skip
                    refine xr_go 3 (pc' := 266) (ls' := [some (.inr (some (36, 0))), some (.inl a1), some (.inl ((if (μ 68 0 ((a1).toNatClampNeg)) = 5 then 1 else ((if (μ 68 0 ((a1).toNatClampNeg)) = 6 then 1 else 0) : Int32)) : Int32))]) (st' := [.inl a1, .inr (some (76, 0))]) (s' := μ) rfl ?_
                    refine xr_ial (n := 6) rfl rfl (hi.1) ?_
                    refine xr_br 2 (c := (μ 76 0 ((a1).toNatClampNeg)) = 1) inferInstance (a := 271) (b := 289) (ls' := [some (.inr (some (36, 0))), some (.inl a1), some (.inl ((if (μ 68 0 ((a1).toNatClampNeg)) = 5 then 1 else ((if (μ 68 0 ((a1).toNatClampNeg)) = 6 then 1 else 0) : Int32)) : Int32))]) (st' := []) (s' := μ) rfl (fun c17 => ?_) (fun c17 => ?_)
                    · skip
                      refine xr_go 5 (pc' := 280) (ls' := [some (.inr (some (36, 0))), some (.inl a1), some (.inl ((if (μ 68 0 ((a1).toNatClampNeg)) = 5 then 1 else ((if (μ 68 0 ((a1).toNatClampNeg)) = 6 then 1 else 0) : Int32)) : Int32))]) (st' := [.inl a1, .inr (some (80, 0)), .inl (μ 36 0 3)]) (s' := μ) rfl ?_
                      refine xr_ial (n := 6) rfl rfl (hi.1) ?_
                      refine xr_br 1 (c := (μ 36 0 3) < (μ 80 0 ((a1).toNatClampNeg))) inferInstance (a := 289) (b := 284) (ls' := [some (.inr (some (36, 0))), some (.inl a1), some (.inl ((if (μ 68 0 ((a1).toNatClampNeg)) = 5 then 1 else ((if (μ 68 0 ((a1).toNatClampNeg)) = 6 then 1 else 0) : Int32)) : Int32))]) (st' := []) (s' := μ) rfl (fun c18 => ?_) (fun c18 => ?_)
                      · skip
                        exact hE16.1 (Or.inr (Or.inr c18))
                      · skip
                        exact hE16.2 (fun z => z.elim c16 (fun z => z.elim (fun w => w c17) c18))
                    · skip
                      exact hE16.1 (Or.inr (Or.inl c17))
                refine ⟨fun c19 => ?_, fun c19 => ?_⟩
                · skip
                  try simp only [if_pos c5, if_pos c6, if_pos c7, if_pos c8, if_pos c11, if_pos c14, if_pos c15, if_pos c19] at h
                  exact xr_rt (v := none) rfl h
                · skip
                  refine xr_go 2 (pc' := 286) (ls' := [some (.inr (some (36, 0))), some (.inl a1), some (.inl ((if (μ 68 0 ((a1).toNatClampNeg)) = 5 then 1 else ((if (μ 68 0 ((a1).toNatClampNeg)) = 6 then 1 else 0) : Int32)) : Int32))]) (st' := [.inl a1, .inr (some (36, 0))]) (s' := μ) rfl ?_
                  refine xr_cl (y' := 169) (as := [.inr (some (36, 0)), .inl a1]) (r := []) rfl rfl ?_
                  refine tf_169 (d := d + 1) (μ := μ) (a1 := a1) (hi.2.2.2.1 c5 c6 c7 c8 c11 c14 c15 c19) ?_
                  show xr_t (tm_I L xs) (d + 4) 170 289 [some (.inr (some (36, 0))), some (.inl a1), some (.inl ((if (μ 68 0 ((a1).toNatClampNeg)) = 5 then 1 else ((if (μ 68 0 ((a1).toNatClampNeg)) = 6 then 1 else 0) : Int32)) : Int32))] [] (cs_169 a1 μ) Q
                  generalize gμ2 : (cs_169 a1 μ) = μ2 at h hi ⊢
                  try simp only [if_pos c5, if_pos c6, if_pos c7, if_pos c8, if_pos c11, if_pos c14, if_pos c15, if_neg c19] at h
                  exact xr_rt (v := none) rfl h
              · skip
                refine xr_go 5 (pc' := 241) (ls' := [some (.inr (some (36, 0))), some (.inl a1), some (.inl ((if (μ 68 0 ((a1).toNatClampNeg)) = 5 then 1 else ((if (μ 68 0 ((a1).toNatClampNeg)) = 6 then 1 else 0) : Int32)) : Int32))]) (st' := [.inl a1, .inr (some (73, 0)), .inl (μ 36 0 3)]) (s' := μ) rfl ?_
                refine xr_ial (n := 6) rfl rfl (hi.1) ?_
                refine xr_br 1 (c := (μ 36 0 3) < (μ 73 0 ((a1).toNatClampNeg))) inferInstance (a := 253) (b := 245) (ls' := [some (.inr (some (36, 0))), some (.inl a1), some (.inl ((if (μ 68 0 ((a1).toNatClampNeg)) = 5 then 1 else ((if (μ 68 0 ((a1).toNatClampNeg)) = 6 then 1 else 0) : Int32)) : Int32))]) (st' := []) (s' := μ) rfl (fun cx => ?_) (fun cx => ?_)
                rotate_left
                · exact absurd c7 cx
                refine xr_go 2 (pc' := 255) (ls' := [some (.inr (some (36, 0))), some (.inl a1), some (.inl ((if (μ 68 0 ((a1).toNatClampNeg)) = 5 then 1 else ((if (μ 68 0 ((a1).toNatClampNeg)) = 6 then 1 else 0) : Int32)) : Int32))]) (st' := [.inl a1, .inr (some (36, 0))]) (s' := μ) rfl ?_
                refine xr_cl (y' := 156) (as := [.inr (some (36, 0)), .inl a1]) (r := []) rfl rfl ?_
                refine tf_156 (d := d + 3) (μ := μ) (a1 := a1) (hi.2.2.2.2.1 c5 c6 c7 c8 c11 c14 c15) ?_
                rw [gv1]
                show xr_t (tm_I L xs) (d + 4) 170 258 [some (.inr (some (36, 0))), some (.inl a1), some (.inl ((if (μ 68 0 ((a1).toNatClampNeg)) = 5 then 1 else ((if (μ 68 0 ((a1).toNatClampNeg)) = 6 then 1 else 0) : Int32)) : Int32))] [.inl v1] μ Q
                suffices hE20 : (((v1 = 0) ∨ ((¬ ((μ 76 0 ((a1).toNatClampNeg)) = 1)) ∨ ((μ 36 0 3) < (μ 80 0 ((a1).toNatClampNeg))))) → xr_t (tm_I L xs) (d + 4) 170 289 [some (.inr (some (36, 0))), some (.inl a1), some (.inl ((if (μ 68 0 ((a1).toNatClampNeg)) = 5 then 1 else ((if (μ 68 0 ((a1).toNatClampNeg)) = 6 then 1 else 0) : Int32)) : Int32))] [] μ Q) ∧ (¬ ((v1 = 0) ∨ ((¬ ((μ 76 0 ((a1).toNatClampNeg)) = 1)) ∨ ((μ 36 0 3) < (μ 80 0 ((a1).toNatClampNeg))))) → xr_t (tm_I L xs) (d + 4) 170 284 [some (.inr (some (36, 0))), some (.inl a1), some (.inl ((if (μ 68 0 ((a1).toNatClampNeg)) = 5 then 1 else ((if (μ 68 0 ((a1).toNatClampNeg)) = 6 then 1 else 0) : Int32)) : Int32))] [] μ Q) by
                  refine xr_br 1 (c := v1 = 0) inferInstance (a := 289) (b := 261) (ls' := [some (.inr (some (36, 0))), some (.inl a1), some (.inl ((if (μ 68 0 ((a1).toNatClampNeg)) = 5 then 1 else ((if (μ 68 0 ((a1).toNatClampNeg)) = 6 then 1 else 0) : Int32)) : Int32))]) (st' := []) (s' := μ) rfl (fun c20 => ?_) (fun c20 => ?_)
                  · skip
                    exact hE20.1 (Or.inl c20)
                  · skip
                    refine xr_go 3 (pc' := 266) (ls' := [some (.inr (some (36, 0))), some (.inl a1), some (.inl ((if (μ 68 0 ((a1).toNatClampNeg)) = 5 then 1 else ((if (μ 68 0 ((a1).toNatClampNeg)) = 6 then 1 else 0) : Int32)) : Int32))]) (st' := [.inl a1, .inr (some (76, 0))]) (s' := μ) rfl ?_
                    refine xr_ial (n := 6) rfl rfl (hi.1) ?_
                    refine xr_br 2 (c := (μ 76 0 ((a1).toNatClampNeg)) = 1) inferInstance (a := 271) (b := 289) (ls' := [some (.inr (some (36, 0))), some (.inl a1), some (.inl ((if (μ 68 0 ((a1).toNatClampNeg)) = 5 then 1 else ((if (μ 68 0 ((a1).toNatClampNeg)) = 6 then 1 else 0) : Int32)) : Int32))]) (st' := []) (s' := μ) rfl (fun c21 => ?_) (fun c21 => ?_)
                    · skip
                      refine xr_go 5 (pc' := 280) (ls' := [some (.inr (some (36, 0))), some (.inl a1), some (.inl ((if (μ 68 0 ((a1).toNatClampNeg)) = 5 then 1 else ((if (μ 68 0 ((a1).toNatClampNeg)) = 6 then 1 else 0) : Int32)) : Int32))]) (st' := [.inl a1, .inr (some (80, 0)), .inl (μ 36 0 3)]) (s' := μ) rfl ?_
                      refine xr_ial (n := 6) rfl rfl (hi.1) ?_
                      refine xr_br 1 (c := (μ 36 0 3) < (μ 80 0 ((a1).toNatClampNeg))) inferInstance (a := 289) (b := 284) (ls' := [some (.inr (some (36, 0))), some (.inl a1), some (.inl ((if (μ 68 0 ((a1).toNatClampNeg)) = 5 then 1 else ((if (μ 68 0 ((a1).toNatClampNeg)) = 6 then 1 else 0) : Int32)) : Int32))]) (st' := []) (s' := μ) rfl (fun c22 => ?_) (fun c22 => ?_)
                      · skip
                        exact hE20.1 (Or.inr (Or.inr c22))
                      · skip
                        exact hE20.2 (fun z => z.elim c20 (fun z => z.elim (fun w => w c21) c22))
                    · skip
                      exact hE20.1 (Or.inr (Or.inl c21))
                refine ⟨fun c23 => ?_, fun c23 => ?_⟩
                · skip
                  try simp only [if_pos c5, if_pos c6, if_pos c7, if_pos c8, if_pos c11, if_pos c14, if_neg c15, if_pos c23] at h
                  exact xr_rt (v := none) rfl h
                · skip
                  refine xr_go 2 (pc' := 286) (ls' := [some (.inr (some (36, 0))), some (.inl a1), some (.inl ((if (μ 68 0 ((a1).toNatClampNeg)) = 5 then 1 else ((if (μ 68 0 ((a1).toNatClampNeg)) = 6 then 1 else 0) : Int32)) : Int32))]) (st' := [.inl a1, .inr (some (36, 0))]) (s' := μ) rfl ?_
                  refine xr_cl (y' := 169) (as := [.inr (some (36, 0)), .inl a1]) (r := []) rfl rfl ?_
                  refine tf_169 (d := d + 1) (μ := μ) (a1 := a1) (hi.2.2.2.2.2.1 c5 c6 c7 c8 c11 c14 c15 c23) ?_
                  show xr_t (tm_I L xs) (d + 4) 170 289 [some (.inr (some (36, 0))), some (.inl a1), some (.inl ((if (μ 68 0 ((a1).toNatClampNeg)) = 5 then 1 else ((if (μ 68 0 ((a1).toNatClampNeg)) = 6 then 1 else 0) : Int32)) : Int32))] [] (cs_169 a1 μ) Q
                  generalize gμ3 : (cs_169 a1 μ) = μ3 at h hi ⊢
                  try simp only [if_pos c5, if_pos c6, if_pos c7, if_pos c8, if_pos c11, if_pos c14, if_neg c15, if_neg c23] at h
                  exact xr_rt (v := none) rfl h
            · skip
              refine xr_go 4 (pc' := 219) (ls' := [some (.inr (some (36, 0))), some (.inl a1), some (.inl ((if (μ 68 0 ((a1).toNatClampNeg)) = 5 then 1 else ((if (μ 68 0 ((a1).toNatClampNeg)) = 6 then 1 else 0) : Int32)) : Int32))]) (st' := [.inl 6, .inl a1, .inr (some (68, 0))]) (s' := μ) rfl ?_
              refine xr_ias (n := 6) rfl rfl (hi.1) ?_
              refine xr_go 2 (pc' := 222) (ls' := [some (.inr (some (36, 0))), some (.inl a1), some (.inl ((if (μ 68 0 ((a1).toNatClampNeg)) = 5 then 1 else ((if (μ 68 0 ((a1).toNatClampNeg)) = 6 then 1 else 0) : Int32)) : Int32))]) (st' := [.inl a1, .inr (some (36, 0))]) (s' := (tm_wr μ 68 0 ((a1).toNatClampNeg) 6)) rfl ?_
              refine xr_cl (y' := 159) (as := [.inr (some (36, 0)), .inl a1]) (r := []) rfl rfl ?_
              refine tf_159 (d := d + 1) (μ := (tm_wr μ 68 0 ((a1).toNatClampNeg) 6)) (a1 := a1) (hi.2.2.2.2.2.2.1 c5 c6 c7 c8 c11 c14) ?_
              show xr_t (tm_I L xs) (d + 4) 170 225 [some (.inr (some (36, 0))), some (.inl a1), some (.inl ((if (μ 68 0 ((a1).toNatClampNeg)) = 5 then 1 else ((if (μ 68 0 ((a1).toNatClampNeg)) = 6 then 1 else 0) : Int32)) : Int32))] [] (cs_159 a1 (tm_wr μ 68 0 ((a1).toNatClampNeg) 6)) Q
              generalize gμ4 : (cs_159 a1 (tm_wr μ 68 0 ((a1).toNatClampNeg) 6)) = μ4 at h hi ⊢
              refine xr_go 1 (pc' := 289) (ls' := [some (.inr (some (36, 0))), some (.inl a1), some (.inl ((if (μ 68 0 ((a1).toNatClampNeg)) = 5 then 1 else ((if (μ 68 0 ((a1).toNatClampNeg)) = 6 then 1 else 0) : Int32)) : Int32))]) (st' := []) (s' := μ4) rfl ?_
              try simp only [if_pos c5, if_pos c6, if_pos c7, if_pos c8, if_pos c11, if_neg c14] at h
              exact xr_rt (v := none) rfl h
          · skip
            refine xr_go 4 (pc' := 164) (ls' := [some (.inr (some (36, 0))), some (.inl a1), some (.inl ((if (μ 68 0 ((a1).toNatClampNeg)) = 5 then 1 else ((if (μ 68 0 ((a1).toNatClampNeg)) = 6 then 1 else 0) : Int32)) : Int32))]) (st' := [.inl 5, .inl a1, .inr (some (68, 0))]) (s' := μ) rfl ?_
            refine xr_ias (n := 6) rfl rfl (hi.1) ?_
            refine xr_go 2 (pc' := 167) (ls' := [some (.inr (some (36, 0))), some (.inl a1), some (.inl ((if (μ 68 0 ((a1).toNatClampNeg)) = 5 then 1 else ((if (μ 68 0 ((a1).toNatClampNeg)) = 6 then 1 else 0) : Int32)) : Int32))]) (st' := [.inl a1, .inr (some (36, 0))]) (s' := (tm_wr μ 68 0 ((a1).toNatClampNeg) 5)) rfl ?_
            refine xr_cl (y' := 159) (as := [.inr (some (36, 0)), .inl a1]) (r := []) rfl rfl ?_
            refine tf_159 (d := d + 1) (μ := (tm_wr μ 68 0 ((a1).toNatClampNeg) 5)) (a1 := a1) (hi.2.2.2.2.2.2.2.1 c5 c6 c7 c8 c11) ?_
            show xr_t (tm_I L xs) (d + 4) 170 170 [some (.inr (some (36, 0))), some (.inl a1), some (.inl ((if (μ 68 0 ((a1).toNatClampNeg)) = 5 then 1 else ((if (μ 68 0 ((a1).toNatClampNeg)) = 6 then 1 else 0) : Int32)) : Int32))] [] (cs_159 a1 (tm_wr μ 68 0 ((a1).toNatClampNeg) 5)) Q
            generalize gμ5 : (cs_159 a1 (tm_wr μ 68 0 ((a1).toNatClampNeg) 5)) = μ5 at h hi ⊢
            refine xr_go 1 (pc' := 289) (ls' := [some (.inr (some (36, 0))), some (.inl a1), some (.inl ((if (μ 68 0 ((a1).toNatClampNeg)) = 5 then 1 else ((if (μ 68 0 ((a1).toNatClampNeg)) = 6 then 1 else 0) : Int32)) : Int32))]) (st' := []) (s' := μ5) rfl ?_
            try simp only [if_pos c5, if_pos c6, if_pos c7, if_pos c8, if_neg c11] at h
            exact xr_rt (v := none) rfl h
        · skip
          refine xr_go 3 (pc' := 133) (ls' := [some (.inr (some (36, 0))), some (.inl a1), some (.inl ((if (μ 68 0 ((a1).toNatClampNeg)) = 5 then 1 else ((if (μ 68 0 ((a1).toNatClampNeg)) = 6 then 1 else 0) : Int32)) : Int32))]) (st' := [.inl a1, .inr (some (68, 0))]) (s' := μ) rfl ?_
          refine xr_ial (n := 6) rfl rfl (hi.1) ?_
          suffices hE24 : (((¬ ((μ 68 0 ((a1).toNatClampNeg)) = 4)) ∨ ((2 * ((μ 36 0 3) - (μ 71 0 ((a1).toNatClampNeg)))) < (μ 36 0 0))) → xr_t (tm_I L xs) (d + 4) 170 173 [some (.inr (some (36, 0))), some (.inl a1), some (.inl ((if (μ 68 0 ((a1).toNatClampNeg)) = 5 then 1 else ((if (μ 68 0 ((a1).toNatClampNeg)) = 6 then 1 else 0) : Int32)) : Int32))] [] μ Q) ∧ (¬ ((¬ ((μ 68 0 ((a1).toNatClampNeg)) = 4)) ∨ ((2 * ((μ 36 0 3) - (μ 71 0 ((a1).toNatClampNeg)))) < (μ 36 0 0))) → xr_t (tm_I L xs) (d + 4) 170 158 [some (.inr (some (36, 0))), some (.inl a1), some (.inl ((if (μ 68 0 ((a1).toNatClampNeg)) = 5 then 1 else ((if (μ 68 0 ((a1).toNatClampNeg)) = 6 then 1 else 0) : Int32)) : Int32))] [] μ Q) by
            refine xr_br 2 (c := (μ 68 0 ((a1).toNatClampNeg)) = 4) inferInstance (a := 138) (b := 173) (ls' := [some (.inr (some (36, 0))), some (.inl a1), some (.inl ((if (μ 68 0 ((a1).toNatClampNeg)) = 5 then 1 else ((if (μ 68 0 ((a1).toNatClampNeg)) = 6 then 1 else 0) : Int32)) : Int32))]) (st' := []) (s' := μ) rfl (fun c24 => ?_) (fun c24 => ?_)
            · skip
              refine xr_go 6 (pc' := 148) (ls' := [some (.inr (some (36, 0))), some (.inl a1), some (.inl ((if (μ 68 0 ((a1).toNatClampNeg)) = 5 then 1 else ((if (μ 68 0 ((a1).toNatClampNeg)) = 6 then 1 else 0) : Int32)) : Int32))]) (st' := [.inl a1, .inr (some (71, 0)), .inl (μ 36 0 3), .inl 2]) (s' := μ) rfl ?_
              refine xr_ial (n := 6) rfl rfl (hi.1) ?_
              refine xr_br 5 (c := (2 * ((μ 36 0 3) - (μ 71 0 ((a1).toNatClampNeg)))) < (μ 36 0 0)) inferInstance (a := 173) (b := 158) (ls' := [some (.inr (some (36, 0))), some (.inl a1), some (.inl ((if (μ 68 0 ((a1).toNatClampNeg)) = 5 then 1 else ((if (μ 68 0 ((a1).toNatClampNeg)) = 6 then 1 else 0) : Int32)) : Int32))]) (st' := []) (s' := μ) rfl (fun c25 => ?_) (fun c25 => ?_)
              · skip
                exact hE24.1 (Or.inr c25)
              · skip
                exact hE24.2 (fun z => z.elim (fun w => w c24) c25)
            · skip
              exact hE24.1 (Or.inl c24)
          refine ⟨fun c26 => ?_, fun c26 => ?_⟩
          · skip
            refine xr_go 3 (pc' := 178) (ls' := [some (.inr (some (36, 0))), some (.inl a1), some (.inl ((if (μ 68 0 ((a1).toNatClampNeg)) = 5 then 1 else ((if (μ 68 0 ((a1).toNatClampNeg)) = 6 then 1 else 0) : Int32)) : Int32))]) (st' := [.inl a1, .inr (some (68, 0))]) (s' := μ) rfl ?_
            refine xr_ial (n := 6) rfl rfl (hi.1) ?_
            suffices hE27 : (((¬ ((μ 68 0 ((a1).toNatClampNeg)) = 5)) ∨ ((8 * ((μ 36 0 3) - ((μ 72 0 ((a1).toNatClampNeg)) - (μ 36 0 0)))) < (7 * (μ 36 0 0)))) → xr_t (tm_I L xs) (d + 4) 170 228 [some (.inr (some (36, 0))), some (.inl a1), some (.inl ((if (μ 68 0 ((a1).toNatClampNeg)) = 5 then 1 else ((if (μ 68 0 ((a1).toNatClampNeg)) = 6 then 1 else 0) : Int32)) : Int32))] [] μ Q) ∧ (¬ ((¬ ((μ 68 0 ((a1).toNatClampNeg)) = 5)) ∨ ((8 * ((μ 36 0 3) - ((μ 72 0 ((a1).toNatClampNeg)) - (μ 36 0 0)))) < (7 * (μ 36 0 0)))) → xr_t (tm_I L xs) (d + 4) 170 212 [some (.inr (some (36, 0))), some (.inl a1), some (.inl ((if (μ 68 0 ((a1).toNatClampNeg)) = 5 then 1 else ((if (μ 68 0 ((a1).toNatClampNeg)) = 6 then 1 else 0) : Int32)) : Int32))] [] μ Q) by
              refine xr_br 2 (c := (μ 68 0 ((a1).toNatClampNeg)) = 5) inferInstance (a := 183) (b := 228) (ls' := [some (.inr (some (36, 0))), some (.inl a1), some (.inl ((if (μ 68 0 ((a1).toNatClampNeg)) = 5 then 1 else ((if (μ 68 0 ((a1).toNatClampNeg)) = 6 then 1 else 0) : Int32)) : Int32))]) (st' := []) (s' := μ) rfl (fun c27 => ?_) (fun c27 => ?_)
              · skip
                refine xr_go 6 (pc' := 194) (ls' := [some (.inr (some (36, 0))), some (.inl a1), some (.inl ((if (μ 68 0 ((a1).toNatClampNeg)) = 5 then 1 else ((if (μ 68 0 ((a1).toNatClampNeg)) = 6 then 1 else 0) : Int32)) : Int32))]) (st' := [.inl a1, .inr (some (72, 0)), .inl (μ 36 0 3), .inl 8]) (s' := μ) rfl ?_
                refine xr_ial (n := 6) rfl rfl (hi.1) ?_
                refine xr_br 10 (c := (8 * ((μ 36 0 3) - ((μ 72 0 ((a1).toNatClampNeg)) - (μ 36 0 0)))) < (7 * (μ 36 0 0))) inferInstance (a := 228) (b := 212) (ls' := [some (.inr (some (36, 0))), some (.inl a1), some (.inl ((if (μ 68 0 ((a1).toNatClampNeg)) = 5 then 1 else ((if (μ 68 0 ((a1).toNatClampNeg)) = 6 then 1 else 0) : Int32)) : Int32))]) (st' := []) (s' := μ) rfl (fun c28 => ?_) (fun c28 => ?_)
                · skip
                  exact hE27.1 (Or.inr c28)
                · skip
                  exact hE27.2 (fun z => z.elim (fun w => w c27) c28)
              · skip
                exact hE27.1 (Or.inl c27)
            refine ⟨fun c29 => ?_, fun c29 => ?_⟩
            · skip
              refine xr_br 2 (c := ((if (μ 68 0 ((a1).toNatClampNeg)) = 5 then 1 else ((if (μ 68 0 ((a1).toNatClampNeg)) = 6 then 1 else 0) : Int32)) : Int32) = 0) inferInstance (a := 253) (b := 232) (ls' := [some (.inr (some (36, 0))), some (.inl a1), some (.inl ((if (μ 68 0 ((a1).toNatClampNeg)) = 5 then 1 else ((if (μ 68 0 ((a1).toNatClampNeg)) = 6 then 1 else 0) : Int32)) : Int32))]) (st' := []) (s' := μ) rfl (fun c30 => ?_) (fun c30 => ?_)
              · skip
                refine xr_go 2 (pc' := 255) (ls' := [some (.inr (some (36, 0))), some (.inl a1), some (.inl ((if (μ 68 0 ((a1).toNatClampNeg)) = 5 then 1 else ((if (μ 68 0 ((a1).toNatClampNeg)) = 6 then 1 else 0) : Int32)) : Int32))]) (st' := [.inl a1, .inr (some (36, 0))]) (s' := μ) rfl ?_
                refine xr_cl (y' := 156) (as := [.inr (some (36, 0)), .inl a1]) (r := []) rfl rfl ?_
                refine tf_156 (d := d + 3) (μ := μ) (a1 := a1) (hi.2.2.2.2.2.2.2.2.1 c5 c6 c7 c8 c26 c29 c30) ?_
                rw [gv1]
                show xr_t (tm_I L xs) (d + 4) 170 258 [some (.inr (some (36, 0))), some (.inl a1), some (.inl ((if (μ 68 0 ((a1).toNatClampNeg)) = 5 then 1 else ((if (μ 68 0 ((a1).toNatClampNeg)) = 6 then 1 else 0) : Int32)) : Int32))] [.inl v1] μ Q
                suffices hE31 : (((v1 = 0) ∨ ((¬ ((μ 76 0 ((a1).toNatClampNeg)) = 1)) ∨ ((μ 36 0 3) < (μ 80 0 ((a1).toNatClampNeg))))) → xr_t (tm_I L xs) (d + 4) 170 289 [some (.inr (some (36, 0))), some (.inl a1), some (.inl ((if (μ 68 0 ((a1).toNatClampNeg)) = 5 then 1 else ((if (μ 68 0 ((a1).toNatClampNeg)) = 6 then 1 else 0) : Int32)) : Int32))] [] μ Q) ∧ (¬ ((v1 = 0) ∨ ((¬ ((μ 76 0 ((a1).toNatClampNeg)) = 1)) ∨ ((μ 36 0 3) < (μ 80 0 ((a1).toNatClampNeg))))) → xr_t (tm_I L xs) (d + 4) 170 284 [some (.inr (some (36, 0))), some (.inl a1), some (.inl ((if (μ 68 0 ((a1).toNatClampNeg)) = 5 then 1 else ((if (μ 68 0 ((a1).toNatClampNeg)) = 6 then 1 else 0) : Int32)) : Int32))] [] μ Q) by
                  refine xr_br 1 (c := v1 = 0) inferInstance (a := 289) (b := 261) (ls' := [some (.inr (some (36, 0))), some (.inl a1), some (.inl ((if (μ 68 0 ((a1).toNatClampNeg)) = 5 then 1 else ((if (μ 68 0 ((a1).toNatClampNeg)) = 6 then 1 else 0) : Int32)) : Int32))]) (st' := []) (s' := μ) rfl (fun c31 => ?_) (fun c31 => ?_)
                  · skip
                    exact hE31.1 (Or.inl c31)
                  · skip
                    refine xr_go 3 (pc' := 266) (ls' := [some (.inr (some (36, 0))), some (.inl a1), some (.inl ((if (μ 68 0 ((a1).toNatClampNeg)) = 5 then 1 else ((if (μ 68 0 ((a1).toNatClampNeg)) = 6 then 1 else 0) : Int32)) : Int32))]) (st' := [.inl a1, .inr (some (76, 0))]) (s' := μ) rfl ?_
                    refine xr_ial (n := 6) rfl rfl (hi.1) ?_
                    refine xr_br 2 (c := (μ 76 0 ((a1).toNatClampNeg)) = 1) inferInstance (a := 271) (b := 289) (ls' := [some (.inr (some (36, 0))), some (.inl a1), some (.inl ((if (μ 68 0 ((a1).toNatClampNeg)) = 5 then 1 else ((if (μ 68 0 ((a1).toNatClampNeg)) = 6 then 1 else 0) : Int32)) : Int32))]) (st' := []) (s' := μ) rfl (fun c32 => ?_) (fun c32 => ?_)
                    · skip
                      refine xr_go 5 (pc' := 280) (ls' := [some (.inr (some (36, 0))), some (.inl a1), some (.inl ((if (μ 68 0 ((a1).toNatClampNeg)) = 5 then 1 else ((if (μ 68 0 ((a1).toNatClampNeg)) = 6 then 1 else 0) : Int32)) : Int32))]) (st' := [.inl a1, .inr (some (80, 0)), .inl (μ 36 0 3)]) (s' := μ) rfl ?_
                      refine xr_ial (n := 6) rfl rfl (hi.1) ?_
                      refine xr_br 1 (c := (μ 36 0 3) < (μ 80 0 ((a1).toNatClampNeg))) inferInstance (a := 289) (b := 284) (ls' := [some (.inr (some (36, 0))), some (.inl a1), some (.inl ((if (μ 68 0 ((a1).toNatClampNeg)) = 5 then 1 else ((if (μ 68 0 ((a1).toNatClampNeg)) = 6 then 1 else 0) : Int32)) : Int32))]) (st' := []) (s' := μ) rfl (fun c33 => ?_) (fun c33 => ?_)
                      · skip
                        exact hE31.1 (Or.inr (Or.inr c33))
                      · skip
                        exact hE31.2 (fun z => z.elim c31 (fun z => z.elim (fun w => w c32) c33))
                    · skip
                      exact hE31.1 (Or.inr (Or.inl c32))
                refine ⟨fun c34 => ?_, fun c34 => ?_⟩
                · skip
                  try simp only [if_pos c5, if_pos c6, if_pos c7, if_neg c8, if_pos c26, if_pos c29, if_pos c30, if_pos c34] at h
                  exact xr_rt (v := none) rfl h
                · skip
                  refine xr_go 2 (pc' := 286) (ls' := [some (.inr (some (36, 0))), some (.inl a1), some (.inl ((if (μ 68 0 ((a1).toNatClampNeg)) = 5 then 1 else ((if (μ 68 0 ((a1).toNatClampNeg)) = 6 then 1 else 0) : Int32)) : Int32))]) (st' := [.inl a1, .inr (some (36, 0))]) (s' := μ) rfl ?_
                  refine xr_cl (y' := 169) (as := [.inr (some (36, 0)), .inl a1]) (r := []) rfl rfl ?_
                  refine tf_169 (d := d + 1) (μ := μ) (a1 := a1) (hi.2.2.2.2.2.2.2.2.2.1 c5 c6 c7 c8 c26 c29 c30 c34) ?_
                  show xr_t (tm_I L xs) (d + 4) 170 289 [some (.inr (some (36, 0))), some (.inl a1), some (.inl ((if (μ 68 0 ((a1).toNatClampNeg)) = 5 then 1 else ((if (μ 68 0 ((a1).toNatClampNeg)) = 6 then 1 else 0) : Int32)) : Int32))] [] (cs_169 a1 μ) Q
                  generalize gμ6 : (cs_169 a1 μ) = μ6 at h hi ⊢
                  try simp only [if_pos c5, if_pos c6, if_pos c7, if_neg c8, if_pos c26, if_pos c29, if_pos c30, if_neg c34] at h
                  exact xr_rt (v := none) rfl h
              · skip
                refine xr_go 5 (pc' := 241) (ls' := [some (.inr (some (36, 0))), some (.inl a1), some (.inl ((if (μ 68 0 ((a1).toNatClampNeg)) = 5 then 1 else ((if (μ 68 0 ((a1).toNatClampNeg)) = 6 then 1 else 0) : Int32)) : Int32))]) (st' := [.inl a1, .inr (some (73, 0)), .inl (μ 36 0 3)]) (s' := μ) rfl ?_
                refine xr_ial (n := 6) rfl rfl (hi.1) ?_
                refine xr_br 1 (c := (μ 36 0 3) < (μ 73 0 ((a1).toNatClampNeg))) inferInstance (a := 253) (b := 245) (ls' := [some (.inr (some (36, 0))), some (.inl a1), some (.inl ((if (μ 68 0 ((a1).toNatClampNeg)) = 5 then 1 else ((if (μ 68 0 ((a1).toNatClampNeg)) = 6 then 1 else 0) : Int32)) : Int32))]) (st' := []) (s' := μ) rfl (fun cx => ?_) (fun cx => ?_)
                rotate_left
                · exact absurd c7 cx
                refine xr_go 2 (pc' := 255) (ls' := [some (.inr (some (36, 0))), some (.inl a1), some (.inl ((if (μ 68 0 ((a1).toNatClampNeg)) = 5 then 1 else ((if (μ 68 0 ((a1).toNatClampNeg)) = 6 then 1 else 0) : Int32)) : Int32))]) (st' := [.inl a1, .inr (some (36, 0))]) (s' := μ) rfl ?_
                refine xr_cl (y' := 156) (as := [.inr (some (36, 0)), .inl a1]) (r := []) rfl rfl ?_
                refine tf_156 (d := d + 3) (μ := μ) (a1 := a1) (hi.2.2.2.2.2.2.2.2.2.2.1 c5 c6 c7 c8 c26 c29 c30) ?_
                rw [gv1]
                show xr_t (tm_I L xs) (d + 4) 170 258 [some (.inr (some (36, 0))), some (.inl a1), some (.inl ((if (μ 68 0 ((a1).toNatClampNeg)) = 5 then 1 else ((if (μ 68 0 ((a1).toNatClampNeg)) = 6 then 1 else 0) : Int32)) : Int32))] [.inl v1] μ Q
                suffices hE35 : (((v1 = 0) ∨ ((¬ ((μ 76 0 ((a1).toNatClampNeg)) = 1)) ∨ ((μ 36 0 3) < (μ 80 0 ((a1).toNatClampNeg))))) → xr_t (tm_I L xs) (d + 4) 170 289 [some (.inr (some (36, 0))), some (.inl a1), some (.inl ((if (μ 68 0 ((a1).toNatClampNeg)) = 5 then 1 else ((if (μ 68 0 ((a1).toNatClampNeg)) = 6 then 1 else 0) : Int32)) : Int32))] [] μ Q) ∧ (¬ ((v1 = 0) ∨ ((¬ ((μ 76 0 ((a1).toNatClampNeg)) = 1)) ∨ ((μ 36 0 3) < (μ 80 0 ((a1).toNatClampNeg))))) → xr_t (tm_I L xs) (d + 4) 170 284 [some (.inr (some (36, 0))), some (.inl a1), some (.inl ((if (μ 68 0 ((a1).toNatClampNeg)) = 5 then 1 else ((if (μ 68 0 ((a1).toNatClampNeg)) = 6 then 1 else 0) : Int32)) : Int32))] [] μ Q) by
                  refine xr_br 1 (c := v1 = 0) inferInstance (a := 289) (b := 261) (ls' := [some (.inr (some (36, 0))), some (.inl a1), some (.inl ((if (μ 68 0 ((a1).toNatClampNeg)) = 5 then 1 else ((if (μ 68 0 ((a1).toNatClampNeg)) = 6 then 1 else 0) : Int32)) : Int32))]) (st' := []) (s' := μ) rfl (fun c35 => ?_) (fun c35 => ?_)
                  · skip
                    exact hE35.1 (Or.inl c35)
                  · skip
                    refine xr_go 3 (pc' := 266) (ls' := [some (.inr (some (36, 0))), some (.inl a1), some (.inl ((if (μ 68 0 ((a1).toNatClampNeg)) = 5 then 1 else ((if (μ 68 0 ((a1).toNatClampNeg)) = 6 then 1 else 0) : Int32)) : Int32))]) (st' := [.inl a1, .inr (some (76, 0))]) (s' := μ) rfl ?_
                    refine xr_ial (n := 6) rfl rfl (hi.1) ?_
                    refine xr_br 2 (c := (μ 76 0 ((a1).toNatClampNeg)) = 1) inferInstance (a := 271) (b := 289) (ls' := [some (.inr (some (36, 0))), some (.inl a1), some (.inl ((if (μ 68 0 ((a1).toNatClampNeg)) = 5 then 1 else ((if (μ 68 0 ((a1).toNatClampNeg)) = 6 then 1 else 0) : Int32)) : Int32))]) (st' := []) (s' := μ) rfl (fun c36 => ?_) (fun c36 => ?_)
                    · skip
                      refine xr_go 5 (pc' := 280) (ls' := [some (.inr (some (36, 0))), some (.inl a1), some (.inl ((if (μ 68 0 ((a1).toNatClampNeg)) = 5 then 1 else ((if (μ 68 0 ((a1).toNatClampNeg)) = 6 then 1 else 0) : Int32)) : Int32))]) (st' := [.inl a1, .inr (some (80, 0)), .inl (μ 36 0 3)]) (s' := μ) rfl ?_
                      refine xr_ial (n := 6) rfl rfl (hi.1) ?_
                      refine xr_br 1 (c := (μ 36 0 3) < (μ 80 0 ((a1).toNatClampNeg))) inferInstance (a := 289) (b := 284) (ls' := [some (.inr (some (36, 0))), some (.inl a1), some (.inl ((if (μ 68 0 ((a1).toNatClampNeg)) = 5 then 1 else ((if (μ 68 0 ((a1).toNatClampNeg)) = 6 then 1 else 0) : Int32)) : Int32))]) (st' := []) (s' := μ) rfl (fun c37 => ?_) (fun c37 => ?_)
                      · skip
                        exact hE35.1 (Or.inr (Or.inr c37))
                      · skip
                        exact hE35.2 (fun z => z.elim c35 (fun z => z.elim (fun w => w c36) c37))
                    · skip
                      exact hE35.1 (Or.inr (Or.inl c36))
                refine ⟨fun c38 => ?_, fun c38 => ?_⟩
                · skip
                  try simp only [if_pos c5, if_pos c6, if_pos c7, if_neg c8, if_pos c26, if_pos c29, if_neg c30, if_pos c38] at h
                  exact xr_rt (v := none) rfl h
                · skip
                  refine xr_go 2 (pc' := 286) (ls' := [some (.inr (some (36, 0))), some (.inl a1), some (.inl ((if (μ 68 0 ((a1).toNatClampNeg)) = 5 then 1 else ((if (μ 68 0 ((a1).toNatClampNeg)) = 6 then 1 else 0) : Int32)) : Int32))]) (st' := [.inl a1, .inr (some (36, 0))]) (s' := μ) rfl ?_
                  refine xr_cl (y' := 169) (as := [.inr (some (36, 0)), .inl a1]) (r := []) rfl rfl ?_
                  refine tf_169 (d := d + 1) (μ := μ) (a1 := a1) (hi.2.2.2.2.2.2.2.2.2.2.2.1 c5 c6 c7 c8 c26 c29 c30 c38) ?_
                  show xr_t (tm_I L xs) (d + 4) 170 289 [some (.inr (some (36, 0))), some (.inl a1), some (.inl ((if (μ 68 0 ((a1).toNatClampNeg)) = 5 then 1 else ((if (μ 68 0 ((a1).toNatClampNeg)) = 6 then 1 else 0) : Int32)) : Int32))] [] (cs_169 a1 μ) Q
                  generalize gμ7 : (cs_169 a1 μ) = μ7 at h hi ⊢
                  try simp only [if_pos c5, if_pos c6, if_pos c7, if_neg c8, if_pos c26, if_pos c29, if_neg c30, if_neg c38] at h
                  exact xr_rt (v := none) rfl h
            · skip
              refine xr_go 4 (pc' := 219) (ls' := [some (.inr (some (36, 0))), some (.inl a1), some (.inl ((if (μ 68 0 ((a1).toNatClampNeg)) = 5 then 1 else ((if (μ 68 0 ((a1).toNatClampNeg)) = 6 then 1 else 0) : Int32)) : Int32))]) (st' := [.inl 6, .inl a1, .inr (some (68, 0))]) (s' := μ) rfl ?_
              refine xr_ias (n := 6) rfl rfl (hi.1) ?_
              refine xr_go 2 (pc' := 222) (ls' := [some (.inr (some (36, 0))), some (.inl a1), some (.inl ((if (μ 68 0 ((a1).toNatClampNeg)) = 5 then 1 else ((if (μ 68 0 ((a1).toNatClampNeg)) = 6 then 1 else 0) : Int32)) : Int32))]) (st' := [.inl a1, .inr (some (36, 0))]) (s' := (tm_wr μ 68 0 ((a1).toNatClampNeg) 6)) rfl ?_
              refine xr_cl (y' := 159) (as := [.inr (some (36, 0)), .inl a1]) (r := []) rfl rfl ?_
              refine tf_159 (d := d + 1) (μ := (tm_wr μ 68 0 ((a1).toNatClampNeg) 6)) (a1 := a1) (hi.2.2.2.2.2.2.2.2.2.2.2.2.1 c5 c6 c7 c8 c26 c29) ?_
              show xr_t (tm_I L xs) (d + 4) 170 225 [some (.inr (some (36, 0))), some (.inl a1), some (.inl ((if (μ 68 0 ((a1).toNatClampNeg)) = 5 then 1 else ((if (μ 68 0 ((a1).toNatClampNeg)) = 6 then 1 else 0) : Int32)) : Int32))] [] (cs_159 a1 (tm_wr μ 68 0 ((a1).toNatClampNeg) 6)) Q
              generalize gμ8 : (cs_159 a1 (tm_wr μ 68 0 ((a1).toNatClampNeg) 6)) = μ8 at h hi ⊢
              refine xr_go 1 (pc' := 289) (ls' := [some (.inr (some (36, 0))), some (.inl a1), some (.inl ((if (μ 68 0 ((a1).toNatClampNeg)) = 5 then 1 else ((if (μ 68 0 ((a1).toNatClampNeg)) = 6 then 1 else 0) : Int32)) : Int32))]) (st' := []) (s' := μ8) rfl ?_
              try simp only [if_pos c5, if_pos c6, if_pos c7, if_neg c8, if_pos c26, if_neg c29] at h
              exact xr_rt (v := none) rfl h
          · skip
            refine xr_go 4 (pc' := 164) (ls' := [some (.inr (some (36, 0))), some (.inl a1), some (.inl ((if (μ 68 0 ((a1).toNatClampNeg)) = 5 then 1 else ((if (μ 68 0 ((a1).toNatClampNeg)) = 6 then 1 else 0) : Int32)) : Int32))]) (st' := [.inl 5, .inl a1, .inr (some (68, 0))]) (s' := μ) rfl ?_
            refine xr_ias (n := 6) rfl rfl (hi.1) ?_
            refine xr_go 2 (pc' := 167) (ls' := [some (.inr (some (36, 0))), some (.inl a1), some (.inl ((if (μ 68 0 ((a1).toNatClampNeg)) = 5 then 1 else ((if (μ 68 0 ((a1).toNatClampNeg)) = 6 then 1 else 0) : Int32)) : Int32))]) (st' := [.inl a1, .inr (some (36, 0))]) (s' := (tm_wr μ 68 0 ((a1).toNatClampNeg) 5)) rfl ?_
            refine xr_cl (y' := 159) (as := [.inr (some (36, 0)), .inl a1]) (r := []) rfl rfl ?_
            refine tf_159 (d := d + 1) (μ := (tm_wr μ 68 0 ((a1).toNatClampNeg) 5)) (a1 := a1) (hi.2.2.2.2.2.2.2.2.2.2.2.2.2.1 c5 c6 c7 c8 c26) ?_
            show xr_t (tm_I L xs) (d + 4) 170 170 [some (.inr (some (36, 0))), some (.inl a1), some (.inl ((if (μ 68 0 ((a1).toNatClampNeg)) = 5 then 1 else ((if (μ 68 0 ((a1).toNatClampNeg)) = 6 then 1 else 0) : Int32)) : Int32))] [] (cs_159 a1 (tm_wr μ 68 0 ((a1).toNatClampNeg) 5)) Q
            generalize gμ9 : (cs_159 a1 (tm_wr μ 68 0 ((a1).toNatClampNeg) 5)) = μ9 at h hi ⊢
            refine xr_go 1 (pc' := 289) (ls' := [some (.inr (some (36, 0))), some (.inl a1), some (.inl ((if (μ 68 0 ((a1).toNatClampNeg)) = 5 then 1 else ((if (μ 68 0 ((a1).toNatClampNeg)) = 6 then 1 else 0) : Int32)) : Int32))]) (st' := []) (s' := μ9) rfl ?_
            try simp only [if_pos c5, if_pos c6, if_pos c7, if_neg c8, if_neg c26] at h
            exact xr_rt (v := none) rfl h
      · skip
        refine xr_go 2 (pc' := 91) (ls' := [some (.inr (some (36, 0))), some (.inl a1), some (.inl ((if (μ 68 0 ((a1).toNatClampNeg)) = 5 then 1 else ((if (μ 68 0 ((a1).toNatClampNeg)) = 6 then 1 else 0) : Int32)) : Int32))]) (st' := [.inl a1, .inr (some (36, 0))]) (s' := μ) rfl ?_
        refine xr_cl (y' := 167) (as := [.inr (some (36, 0)), .inl a1]) (r := []) rfl rfl ?_
        refine tf_167 (d := d + 0) (μ := μ) (a1 := a1) (hi.2.2.2.2.2.2.2.2.2.2.2.2.2.2.1 c5 c6 c7) ?_
        show xr_t (tm_I L xs) (d + 4) 170 94 [some (.inr (some (36, 0))), some (.inl a1), some (.inl ((if (μ 68 0 ((a1).toNatClampNeg)) = 5 then 1 else ((if (μ 68 0 ((a1).toNatClampNeg)) = 6 then 1 else 0) : Int32)) : Int32))] [] (cs_167 a1 μ) Q
        generalize gμ10 : (cs_167 a1 μ) = μ10 at h hi ⊢
        refine xr_go 1 (pc' := 289) (ls' := [some (.inr (some (36, 0))), some (.inl a1), some (.inl ((if (μ 68 0 ((a1).toNatClampNeg)) = 5 then 1 else ((if (μ 68 0 ((a1).toNatClampNeg)) = 6 then 1 else 0) : Int32)) : Int32))]) (st' := []) (s' := μ10) rfl ?_
        try simp only [if_pos c5, if_pos c6, if_neg c7] at h
        exact xr_rt (v := none) rfl h
    · skip
      refine xr_go 3 (pc' := 71) (ls' := [some (.inr (some (36, 0))), some (.inl a1), some (.inl ((if (μ 68 0 ((a1).toNatClampNeg)) = 5 then 1 else ((if (μ 68 0 ((a1).toNatClampNeg)) = 6 then 1 else 0) : Int32)) : Int32))]) (st' := [.inl a1, .inr (some (68, 0))]) (s' := μ) rfl ?_
      refine xr_ial (n := 6) rfl rfl (hi.1) ?_
      suffices hE39 : (((¬ ((μ 68 0 ((a1).toNatClampNeg)) = 2)) ∨ ((μ 36 0 3) < (μ 73 0 ((a1).toNatClampNeg)))) → xr_t (tm_I L xs) (d + 4) 170 97 [some (.inr (some (36, 0))), some (.inl a1), some (.inl ((if (μ 68 0 ((a1).toNatClampNeg)) = 5 then 1 else ((if (μ 68 0 ((a1).toNatClampNeg)) = 6 then 1 else 0) : Int32)) : Int32))] [] μ Q) ∧ (¬ ((¬ ((μ 68 0 ((a1).toNatClampNeg)) = 2)) ∨ ((μ 36 0 3) < (μ 73 0 ((a1).toNatClampNeg)))) → xr_t (tm_I L xs) (d + 4) 170 89 [some (.inr (some (36, 0))), some (.inl a1), some (.inl ((if (μ 68 0 ((a1).toNatClampNeg)) = 5 then 1 else ((if (μ 68 0 ((a1).toNatClampNeg)) = 6 then 1 else 0) : Int32)) : Int32))] [] μ Q) by
        refine xr_br 2 (c := (μ 68 0 ((a1).toNatClampNeg)) = 2) inferInstance (a := 76) (b := 97) (ls' := [some (.inr (some (36, 0))), some (.inl a1), some (.inl ((if (μ 68 0 ((a1).toNatClampNeg)) = 5 then 1 else ((if (μ 68 0 ((a1).toNatClampNeg)) = 6 then 1 else 0) : Int32)) : Int32))]) (st' := []) (s' := μ) rfl (fun c39 => ?_) (fun c39 => ?_)
        · skip
          refine xr_go 5 (pc' := 85) (ls' := [some (.inr (some (36, 0))), some (.inl a1), some (.inl ((if (μ 68 0 ((a1).toNatClampNeg)) = 5 then 1 else ((if (μ 68 0 ((a1).toNatClampNeg)) = 6 then 1 else 0) : Int32)) : Int32))]) (st' := [.inl a1, .inr (some (73, 0)), .inl (μ 36 0 3)]) (s' := μ) rfl ?_
          refine xr_ial (n := 6) rfl rfl (hi.1) ?_
          refine xr_br 1 (c := (μ 36 0 3) < (μ 73 0 ((a1).toNatClampNeg))) inferInstance (a := 97) (b := 89) (ls' := [some (.inr (some (36, 0))), some (.inl a1), some (.inl ((if (μ 68 0 ((a1).toNatClampNeg)) = 5 then 1 else ((if (μ 68 0 ((a1).toNatClampNeg)) = 6 then 1 else 0) : Int32)) : Int32))]) (st' := []) (s' := μ) rfl (fun c40 => ?_) (fun c40 => ?_)
          · skip
            exact hE39.1 (Or.inr c40)
          · skip
            exact hE39.2 (fun z => z.elim (fun w => w c39) c40)
        · skip
          exact hE39.1 (Or.inl c39)
      refine ⟨fun c41 => ?_, fun c41 => ?_⟩
      · skip
        refine xr_go 3 (pc' := 102) (ls' := [some (.inr (some (36, 0))), some (.inl a1), some (.inl ((if (μ 68 0 ((a1).toNatClampNeg)) = 5 then 1 else ((if (μ 68 0 ((a1).toNatClampNeg)) = 6 then 1 else 0) : Int32)) : Int32))]) (st' := [.inl a1, .inr (some (68, 0))]) (s' := μ) rfl ?_
        refine xr_ial (n := 6) rfl rfl (hi.1) ?_
        suffices hE42 : (((¬ ((μ 68 0 ((a1).toNatClampNeg)) = 3)) ∨ ((μ 36 0 3) < (μ 73 0 ((a1).toNatClampNeg)))) → xr_t (tm_I L xs) (d + 4) 170 128 [some (.inr (some (36, 0))), some (.inl a1), some (.inl ((if (μ 68 0 ((a1).toNatClampNeg)) = 5 then 1 else ((if (μ 68 0 ((a1).toNatClampNeg)) = 6 then 1 else 0) : Int32)) : Int32))] [] μ Q) ∧ (¬ ((¬ ((μ 68 0 ((a1).toNatClampNeg)) = 3)) ∨ ((μ 36 0 3) < (μ 73 0 ((a1).toNatClampNeg)))) → xr_t (tm_I L xs) (d + 4) 170 120 [some (.inr (some (36, 0))), some (.inl a1), some (.inl ((if (μ 68 0 ((a1).toNatClampNeg)) = 5 then 1 else ((if (μ 68 0 ((a1).toNatClampNeg)) = 6 then 1 else 0) : Int32)) : Int32))] [] μ Q) by
          refine xr_br 2 (c := (μ 68 0 ((a1).toNatClampNeg)) = 3) inferInstance (a := 107) (b := 128) (ls' := [some (.inr (some (36, 0))), some (.inl a1), some (.inl ((if (μ 68 0 ((a1).toNatClampNeg)) = 5 then 1 else ((if (μ 68 0 ((a1).toNatClampNeg)) = 6 then 1 else 0) : Int32)) : Int32))]) (st' := []) (s' := μ) rfl (fun c42 => ?_) (fun c42 => ?_)
          · skip
            refine xr_go 5 (pc' := 116) (ls' := [some (.inr (some (36, 0))), some (.inl a1), some (.inl ((if (μ 68 0 ((a1).toNatClampNeg)) = 5 then 1 else ((if (μ 68 0 ((a1).toNatClampNeg)) = 6 then 1 else 0) : Int32)) : Int32))]) (st' := [.inl a1, .inr (some (73, 0)), .inl (μ 36 0 3)]) (s' := μ) rfl ?_
            refine xr_ial (n := 6) rfl rfl (hi.1) ?_
            refine xr_br 1 (c := (μ 36 0 3) < (μ 73 0 ((a1).toNatClampNeg))) inferInstance (a := 128) (b := 120) (ls' := [some (.inr (some (36, 0))), some (.inl a1), some (.inl ((if (μ 68 0 ((a1).toNatClampNeg)) = 5 then 1 else ((if (μ 68 0 ((a1).toNatClampNeg)) = 6 then 1 else 0) : Int32)) : Int32))]) (st' := []) (s' := μ) rfl (fun c43 => ?_) (fun c43 => ?_)
            · skip
              exact hE42.1 (Or.inr c43)
            · skip
              exact hE42.2 (fun z => z.elim (fun w => w c42) c43)
          · skip
            exact hE42.1 (Or.inl c42)
        refine ⟨fun c44 => ?_, fun c44 => ?_⟩
        · skip
          refine xr_go 3 (pc' := 133) (ls' := [some (.inr (some (36, 0))), some (.inl a1), some (.inl ((if (μ 68 0 ((a1).toNatClampNeg)) = 5 then 1 else ((if (μ 68 0 ((a1).toNatClampNeg)) = 6 then 1 else 0) : Int32)) : Int32))]) (st' := [.inl a1, .inr (some (68, 0))]) (s' := μ) rfl ?_
          refine xr_ial (n := 6) rfl rfl (hi.1) ?_
          suffices hE45 : (((¬ ((μ 68 0 ((a1).toNatClampNeg)) = 4)) ∨ ((2 * ((μ 36 0 3) - (μ 71 0 ((a1).toNatClampNeg)))) < (μ 36 0 0))) → xr_t (tm_I L xs) (d + 4) 170 173 [some (.inr (some (36, 0))), some (.inl a1), some (.inl ((if (μ 68 0 ((a1).toNatClampNeg)) = 5 then 1 else ((if (μ 68 0 ((a1).toNatClampNeg)) = 6 then 1 else 0) : Int32)) : Int32))] [] μ Q) ∧ (¬ ((¬ ((μ 68 0 ((a1).toNatClampNeg)) = 4)) ∨ ((2 * ((μ 36 0 3) - (μ 71 0 ((a1).toNatClampNeg)))) < (μ 36 0 0))) → xr_t (tm_I L xs) (d + 4) 170 158 [some (.inr (some (36, 0))), some (.inl a1), some (.inl ((if (μ 68 0 ((a1).toNatClampNeg)) = 5 then 1 else ((if (μ 68 0 ((a1).toNatClampNeg)) = 6 then 1 else 0) : Int32)) : Int32))] [] μ Q) by
            refine xr_br 2 (c := (μ 68 0 ((a1).toNatClampNeg)) = 4) inferInstance (a := 138) (b := 173) (ls' := [some (.inr (some (36, 0))), some (.inl a1), some (.inl ((if (μ 68 0 ((a1).toNatClampNeg)) = 5 then 1 else ((if (μ 68 0 ((a1).toNatClampNeg)) = 6 then 1 else 0) : Int32)) : Int32))]) (st' := []) (s' := μ) rfl (fun c45 => ?_) (fun c45 => ?_)
            · skip
              refine xr_go 6 (pc' := 148) (ls' := [some (.inr (some (36, 0))), some (.inl a1), some (.inl ((if (μ 68 0 ((a1).toNatClampNeg)) = 5 then 1 else ((if (μ 68 0 ((a1).toNatClampNeg)) = 6 then 1 else 0) : Int32)) : Int32))]) (st' := [.inl a1, .inr (some (71, 0)), .inl (μ 36 0 3), .inl 2]) (s' := μ) rfl ?_
              refine xr_ial (n := 6) rfl rfl (hi.1) ?_
              refine xr_br 5 (c := (2 * ((μ 36 0 3) - (μ 71 0 ((a1).toNatClampNeg)))) < (μ 36 0 0)) inferInstance (a := 173) (b := 158) (ls' := [some (.inr (some (36, 0))), some (.inl a1), some (.inl ((if (μ 68 0 ((a1).toNatClampNeg)) = 5 then 1 else ((if (μ 68 0 ((a1).toNatClampNeg)) = 6 then 1 else 0) : Int32)) : Int32))]) (st' := []) (s' := μ) rfl (fun c46 => ?_) (fun c46 => ?_)
              · skip
                exact hE45.1 (Or.inr c46)
              · skip
                exact hE45.2 (fun z => z.elim (fun w => w c45) c46)
            · skip
              exact hE45.1 (Or.inl c45)
          refine ⟨fun c47 => ?_, fun c47 => ?_⟩
          · skip
            refine xr_go 3 (pc' := 178) (ls' := [some (.inr (some (36, 0))), some (.inl a1), some (.inl ((if (μ 68 0 ((a1).toNatClampNeg)) = 5 then 1 else ((if (μ 68 0 ((a1).toNatClampNeg)) = 6 then 1 else 0) : Int32)) : Int32))]) (st' := [.inl a1, .inr (some (68, 0))]) (s' := μ) rfl ?_
            refine xr_ial (n := 6) rfl rfl (hi.1) ?_
            suffices hE48 : (((¬ ((μ 68 0 ((a1).toNatClampNeg)) = 5)) ∨ ((8 * ((μ 36 0 3) - ((μ 72 0 ((a1).toNatClampNeg)) - (μ 36 0 0)))) < (7 * (μ 36 0 0)))) → xr_t (tm_I L xs) (d + 4) 170 228 [some (.inr (some (36, 0))), some (.inl a1), some (.inl ((if (μ 68 0 ((a1).toNatClampNeg)) = 5 then 1 else ((if (μ 68 0 ((a1).toNatClampNeg)) = 6 then 1 else 0) : Int32)) : Int32))] [] μ Q) ∧ (¬ ((¬ ((μ 68 0 ((a1).toNatClampNeg)) = 5)) ∨ ((8 * ((μ 36 0 3) - ((μ 72 0 ((a1).toNatClampNeg)) - (μ 36 0 0)))) < (7 * (μ 36 0 0)))) → xr_t (tm_I L xs) (d + 4) 170 212 [some (.inr (some (36, 0))), some (.inl a1), some (.inl ((if (μ 68 0 ((a1).toNatClampNeg)) = 5 then 1 else ((if (μ 68 0 ((a1).toNatClampNeg)) = 6 then 1 else 0) : Int32)) : Int32))] [] μ Q) by
              refine xr_br 2 (c := (μ 68 0 ((a1).toNatClampNeg)) = 5) inferInstance (a := 183) (b := 228) (ls' := [some (.inr (some (36, 0))), some (.inl a1), some (.inl ((if (μ 68 0 ((a1).toNatClampNeg)) = 5 then 1 else ((if (μ 68 0 ((a1).toNatClampNeg)) = 6 then 1 else 0) : Int32)) : Int32))]) (st' := []) (s' := μ) rfl (fun c48 => ?_) (fun c48 => ?_)
              · skip
                refine xr_go 6 (pc' := 194) (ls' := [some (.inr (some (36, 0))), some (.inl a1), some (.inl ((if (μ 68 0 ((a1).toNatClampNeg)) = 5 then 1 else ((if (μ 68 0 ((a1).toNatClampNeg)) = 6 then 1 else 0) : Int32)) : Int32))]) (st' := [.inl a1, .inr (some (72, 0)), .inl (μ 36 0 3), .inl 8]) (s' := μ) rfl ?_
                refine xr_ial (n := 6) rfl rfl (hi.1) ?_
                refine xr_br 10 (c := (8 * ((μ 36 0 3) - ((μ 72 0 ((a1).toNatClampNeg)) - (μ 36 0 0)))) < (7 * (μ 36 0 0))) inferInstance (a := 228) (b := 212) (ls' := [some (.inr (some (36, 0))), some (.inl a1), some (.inl ((if (μ 68 0 ((a1).toNatClampNeg)) = 5 then 1 else ((if (μ 68 0 ((a1).toNatClampNeg)) = 6 then 1 else 0) : Int32)) : Int32))]) (st' := []) (s' := μ) rfl (fun c49 => ?_) (fun c49 => ?_)
                · skip
                  exact hE48.1 (Or.inr c49)
                · skip
                  exact hE48.2 (fun z => z.elim (fun w => w c48) c49)
              · skip
                exact hE48.1 (Or.inl c48)
            refine ⟨fun c50 => ?_, fun c50 => ?_⟩
            · skip
              suffices hE51 : (((((if (μ 68 0 ((a1).toNatClampNeg)) = 5 then 1 else ((if (μ 68 0 ((a1).toNatClampNeg)) = 6 then 1 else 0) : Int32)) : Int32) = 0) ∨ ((μ 36 0 3) < (μ 73 0 ((a1).toNatClampNeg)))) → xr_t (tm_I L xs) (d + 4) 170 253 [some (.inr (some (36, 0))), some (.inl a1), some (.inl ((if (μ 68 0 ((a1).toNatClampNeg)) = 5 then 1 else ((if (μ 68 0 ((a1).toNatClampNeg)) = 6 then 1 else 0) : Int32)) : Int32))] [] μ Q) ∧ (¬ ((((if (μ 68 0 ((a1).toNatClampNeg)) = 5 then 1 else ((if (μ 68 0 ((a1).toNatClampNeg)) = 6 then 1 else 0) : Int32)) : Int32) = 0) ∨ ((μ 36 0 3) < (μ 73 0 ((a1).toNatClampNeg)))) → xr_t (tm_I L xs) (d + 4) 170 245 [some (.inr (some (36, 0))), some (.inl a1), some (.inl ((if (μ 68 0 ((a1).toNatClampNeg)) = 5 then 1 else ((if (μ 68 0 ((a1).toNatClampNeg)) = 6 then 1 else 0) : Int32)) : Int32))] [] μ Q) by
                refine xr_br 2 (c := ((if (μ 68 0 ((a1).toNatClampNeg)) = 5 then 1 else ((if (μ 68 0 ((a1).toNatClampNeg)) = 6 then 1 else 0) : Int32)) : Int32) = 0) inferInstance (a := 253) (b := 232) (ls' := [some (.inr (some (36, 0))), some (.inl a1), some (.inl ((if (μ 68 0 ((a1).toNatClampNeg)) = 5 then 1 else ((if (μ 68 0 ((a1).toNatClampNeg)) = 6 then 1 else 0) : Int32)) : Int32))]) (st' := []) (s' := μ) rfl (fun c51 => ?_) (fun c51 => ?_)
                · skip
                  exact hE51.1 (Or.inl c51)
                · skip
                  refine xr_go 5 (pc' := 241) (ls' := [some (.inr (some (36, 0))), some (.inl a1), some (.inl ((if (μ 68 0 ((a1).toNatClampNeg)) = 5 then 1 else ((if (μ 68 0 ((a1).toNatClampNeg)) = 6 then 1 else 0) : Int32)) : Int32))]) (st' := [.inl a1, .inr (some (73, 0)), .inl (μ 36 0 3)]) (s' := μ) rfl ?_
                  refine xr_ial (n := 6) rfl rfl (hi.1) ?_
                  refine xr_br 1 (c := (μ 36 0 3) < (μ 73 0 ((a1).toNatClampNeg))) inferInstance (a := 253) (b := 245) (ls' := [some (.inr (some (36, 0))), some (.inl a1), some (.inl ((if (μ 68 0 ((a1).toNatClampNeg)) = 5 then 1 else ((if (μ 68 0 ((a1).toNatClampNeg)) = 6 then 1 else 0) : Int32)) : Int32))]) (st' := []) (s' := μ) rfl (fun c52 => ?_) (fun c52 => ?_)
                  · skip
                    exact hE51.1 (Or.inr c52)
                  · skip
                    exact hE51.2 (fun z => z.elim c51 c52)
              refine ⟨fun c53 => ?_, fun c53 => ?_⟩
              · skip
                refine xr_go 2 (pc' := 255) (ls' := [some (.inr (some (36, 0))), some (.inl a1), some (.inl ((if (μ 68 0 ((a1).toNatClampNeg)) = 5 then 1 else ((if (μ 68 0 ((a1).toNatClampNeg)) = 6 then 1 else 0) : Int32)) : Int32))]) (st' := [.inl a1, .inr (some (36, 0))]) (s' := μ) rfl ?_
                refine xr_cl (y' := 156) (as := [.inr (some (36, 0)), .inl a1]) (r := []) rfl rfl ?_
                refine tf_156 (d := d + 3) (μ := μ) (a1 := a1) (hi.2.2.2.2.2.2.2.2.2.2.2.2.2.2.2.1 c5 c6 c41 c44 c47 c50 c53) ?_
                rw [gv1]
                show xr_t (tm_I L xs) (d + 4) 170 258 [some (.inr (some (36, 0))), some (.inl a1), some (.inl ((if (μ 68 0 ((a1).toNatClampNeg)) = 5 then 1 else ((if (μ 68 0 ((a1).toNatClampNeg)) = 6 then 1 else 0) : Int32)) : Int32))] [.inl v1] μ Q
                suffices hE54 : (((v1 = 0) ∨ ((¬ ((μ 76 0 ((a1).toNatClampNeg)) = 1)) ∨ ((μ 36 0 3) < (μ 80 0 ((a1).toNatClampNeg))))) → xr_t (tm_I L xs) (d + 4) 170 289 [some (.inr (some (36, 0))), some (.inl a1), some (.inl ((if (μ 68 0 ((a1).toNatClampNeg)) = 5 then 1 else ((if (μ 68 0 ((a1).toNatClampNeg)) = 6 then 1 else 0) : Int32)) : Int32))] [] μ Q) ∧ (¬ ((v1 = 0) ∨ ((¬ ((μ 76 0 ((a1).toNatClampNeg)) = 1)) ∨ ((μ 36 0 3) < (μ 80 0 ((a1).toNatClampNeg))))) → xr_t (tm_I L xs) (d + 4) 170 284 [some (.inr (some (36, 0))), some (.inl a1), some (.inl ((if (μ 68 0 ((a1).toNatClampNeg)) = 5 then 1 else ((if (μ 68 0 ((a1).toNatClampNeg)) = 6 then 1 else 0) : Int32)) : Int32))] [] μ Q) by
                  refine xr_br 1 (c := v1 = 0) inferInstance (a := 289) (b := 261) (ls' := [some (.inr (some (36, 0))), some (.inl a1), some (.inl ((if (μ 68 0 ((a1).toNatClampNeg)) = 5 then 1 else ((if (μ 68 0 ((a1).toNatClampNeg)) = 6 then 1 else 0) : Int32)) : Int32))]) (st' := []) (s' := μ) rfl (fun c54 => ?_) (fun c54 => ?_)
                  · skip
                    exact hE54.1 (Or.inl c54)
                  · skip
                    refine xr_go 3 (pc' := 266) (ls' := [some (.inr (some (36, 0))), some (.inl a1), some (.inl ((if (μ 68 0 ((a1).toNatClampNeg)) = 5 then 1 else ((if (μ 68 0 ((a1).toNatClampNeg)) = 6 then 1 else 0) : Int32)) : Int32))]) (st' := [.inl a1, .inr (some (76, 0))]) (s' := μ) rfl ?_
                    refine xr_ial (n := 6) rfl rfl (hi.1) ?_
                    refine xr_br 2 (c := (μ 76 0 ((a1).toNatClampNeg)) = 1) inferInstance (a := 271) (b := 289) (ls' := [some (.inr (some (36, 0))), some (.inl a1), some (.inl ((if (μ 68 0 ((a1).toNatClampNeg)) = 5 then 1 else ((if (μ 68 0 ((a1).toNatClampNeg)) = 6 then 1 else 0) : Int32)) : Int32))]) (st' := []) (s' := μ) rfl (fun c55 => ?_) (fun c55 => ?_)
                    · skip
                      refine xr_go 5 (pc' := 280) (ls' := [some (.inr (some (36, 0))), some (.inl a1), some (.inl ((if (μ 68 0 ((a1).toNatClampNeg)) = 5 then 1 else ((if (μ 68 0 ((a1).toNatClampNeg)) = 6 then 1 else 0) : Int32)) : Int32))]) (st' := [.inl a1, .inr (some (80, 0)), .inl (μ 36 0 3)]) (s' := μ) rfl ?_
                      refine xr_ial (n := 6) rfl rfl (hi.1) ?_
                      refine xr_br 1 (c := (μ 36 0 3) < (μ 80 0 ((a1).toNatClampNeg))) inferInstance (a := 289) (b := 284) (ls' := [some (.inr (some (36, 0))), some (.inl a1), some (.inl ((if (μ 68 0 ((a1).toNatClampNeg)) = 5 then 1 else ((if (μ 68 0 ((a1).toNatClampNeg)) = 6 then 1 else 0) : Int32)) : Int32))]) (st' := []) (s' := μ) rfl (fun c56 => ?_) (fun c56 => ?_)
                      · skip
                        exact hE54.1 (Or.inr (Or.inr c56))
                      · skip
                        exact hE54.2 (fun z => z.elim c54 (fun z => z.elim (fun w => w c55) c56))
                    · skip
                      exact hE54.1 (Or.inr (Or.inl c55))
                refine ⟨fun c57 => ?_, fun c57 => ?_⟩
                · skip
                  try simp only [if_pos c5, if_neg c6, if_pos c41, if_pos c44, if_pos c47, if_pos c50, if_pos c53, if_pos c57] at h
                  exact xr_rt (v := none) rfl h
                · skip
                  refine xr_go 2 (pc' := 286) (ls' := [some (.inr (some (36, 0))), some (.inl a1), some (.inl ((if (μ 68 0 ((a1).toNatClampNeg)) = 5 then 1 else ((if (μ 68 0 ((a1).toNatClampNeg)) = 6 then 1 else 0) : Int32)) : Int32))]) (st' := [.inl a1, .inr (some (36, 0))]) (s' := μ) rfl ?_
                  refine xr_cl (y' := 169) (as := [.inr (some (36, 0)), .inl a1]) (r := []) rfl rfl ?_
                  refine tf_169 (d := d + 1) (μ := μ) (a1 := a1) (hi.2.2.2.2.2.2.2.2.2.2.2.2.2.2.2.2.1 c5 c6 c41 c44 c47 c50 c53 c57) ?_
                  show xr_t (tm_I L xs) (d + 4) 170 289 [some (.inr (some (36, 0))), some (.inl a1), some (.inl ((if (μ 68 0 ((a1).toNatClampNeg)) = 5 then 1 else ((if (μ 68 0 ((a1).toNatClampNeg)) = 6 then 1 else 0) : Int32)) : Int32))] [] (cs_169 a1 μ) Q
                  generalize gμ11 : (cs_169 a1 μ) = μ11 at h hi ⊢
                  try simp only [if_pos c5, if_neg c6, if_pos c41, if_pos c44, if_pos c47, if_pos c50, if_pos c53, if_neg c57] at h
                  exact xr_rt (v := none) rfl h
              · skip
                refine xr_go 2 (pc' := 247) (ls' := [some (.inr (some (36, 0))), some (.inl a1), some (.inl ((if (μ 68 0 ((a1).toNatClampNeg)) = 5 then 1 else ((if (μ 68 0 ((a1).toNatClampNeg)) = 6 then 1 else 0) : Int32)) : Int32))]) (st' := [.inl a1, .inr (some (36, 0))]) (s' := μ) rfl ?_
                refine xr_cl (y' := 159) (as := [.inr (some (36, 0)), .inl a1]) (r := []) rfl rfl ?_
                refine tf_159 (d := d + 1) (μ := μ) (a1 := a1) (hi.2.2.2.2.2.2.2.2.2.2.2.2.2.2.2.2.2.1 c5 c6 c41 c44 c47 c50 c53) ?_
                show xr_t (tm_I L xs) (d + 4) 170 250 [some (.inr (some (36, 0))), some (.inl a1), some (.inl ((if (μ 68 0 ((a1).toNatClampNeg)) = 5 then 1 else ((if (μ 68 0 ((a1).toNatClampNeg)) = 6 then 1 else 0) : Int32)) : Int32))] [] (cs_159 a1 μ) Q
                generalize gμ12 : (cs_159 a1 μ) = μ12 at h hi ⊢
                refine xr_go 1 (pc' := 289) (ls' := [some (.inr (some (36, 0))), some (.inl a1), some (.inl ((if (μ 68 0 ((a1).toNatClampNeg)) = 5 then 1 else ((if (μ 68 0 ((a1).toNatClampNeg)) = 6 then 1 else 0) : Int32)) : Int32))]) (st' := []) (s' := μ12) rfl ?_
                try simp only [if_pos c5, if_neg c6, if_pos c41, if_pos c44, if_pos c47, if_pos c50, if_neg c53] at h
                exact xr_rt (v := none) rfl h
            · skip
              refine xr_go 4 (pc' := 219) (ls' := [some (.inr (some (36, 0))), some (.inl a1), some (.inl ((if (μ 68 0 ((a1).toNatClampNeg)) = 5 then 1 else ((if (μ 68 0 ((a1).toNatClampNeg)) = 6 then 1 else 0) : Int32)) : Int32))]) (st' := [.inl 6, .inl a1, .inr (some (68, 0))]) (s' := μ) rfl ?_
              refine xr_ias (n := 6) rfl rfl (hi.1) ?_
              refine xr_go 2 (pc' := 222) (ls' := [some (.inr (some (36, 0))), some (.inl a1), some (.inl ((if (μ 68 0 ((a1).toNatClampNeg)) = 5 then 1 else ((if (μ 68 0 ((a1).toNatClampNeg)) = 6 then 1 else 0) : Int32)) : Int32))]) (st' := [.inl a1, .inr (some (36, 0))]) (s' := (tm_wr μ 68 0 ((a1).toNatClampNeg) 6)) rfl ?_
              refine xr_cl (y' := 159) (as := [.inr (some (36, 0)), .inl a1]) (r := []) rfl rfl ?_
              refine tf_159 (d := d + 1) (μ := (tm_wr μ 68 0 ((a1).toNatClampNeg) 6)) (a1 := a1) (hi.2.2.2.2.2.2.2.2.2.2.2.2.2.2.2.2.2.2.1 c5 c6 c41 c44 c47 c50) ?_
              show xr_t (tm_I L xs) (d + 4) 170 225 [some (.inr (some (36, 0))), some (.inl a1), some (.inl ((if (μ 68 0 ((a1).toNatClampNeg)) = 5 then 1 else ((if (μ 68 0 ((a1).toNatClampNeg)) = 6 then 1 else 0) : Int32)) : Int32))] [] (cs_159 a1 (tm_wr μ 68 0 ((a1).toNatClampNeg) 6)) Q
              generalize gμ13 : (cs_159 a1 (tm_wr μ 68 0 ((a1).toNatClampNeg) 6)) = μ13 at h hi ⊢
              refine xr_go 1 (pc' := 289) (ls' := [some (.inr (some (36, 0))), some (.inl a1), some (.inl ((if (μ 68 0 ((a1).toNatClampNeg)) = 5 then 1 else ((if (μ 68 0 ((a1).toNatClampNeg)) = 6 then 1 else 0) : Int32)) : Int32))]) (st' := []) (s' := μ13) rfl ?_
              try simp only [if_pos c5, if_neg c6, if_pos c41, if_pos c44, if_pos c47, if_neg c50] at h
              exact xr_rt (v := none) rfl h
          · skip
            refine xr_go 4 (pc' := 164) (ls' := [some (.inr (some (36, 0))), some (.inl a1), some (.inl ((if (μ 68 0 ((a1).toNatClampNeg)) = 5 then 1 else ((if (μ 68 0 ((a1).toNatClampNeg)) = 6 then 1 else 0) : Int32)) : Int32))]) (st' := [.inl 5, .inl a1, .inr (some (68, 0))]) (s' := μ) rfl ?_
            refine xr_ias (n := 6) rfl rfl (hi.1) ?_
            refine xr_go 2 (pc' := 167) (ls' := [some (.inr (some (36, 0))), some (.inl a1), some (.inl ((if (μ 68 0 ((a1).toNatClampNeg)) = 5 then 1 else ((if (μ 68 0 ((a1).toNatClampNeg)) = 6 then 1 else 0) : Int32)) : Int32))]) (st' := [.inl a1, .inr (some (36, 0))]) (s' := (tm_wr μ 68 0 ((a1).toNatClampNeg) 5)) rfl ?_
            refine xr_cl (y' := 159) (as := [.inr (some (36, 0)), .inl a1]) (r := []) rfl rfl ?_
            refine tf_159 (d := d + 1) (μ := (tm_wr μ 68 0 ((a1).toNatClampNeg) 5)) (a1 := a1) (hi.2.2.2.2.2.2.2.2.2.2.2.2.2.2.2.2.2.2.2.1 c5 c6 c41 c44 c47) ?_
            show xr_t (tm_I L xs) (d + 4) 170 170 [some (.inr (some (36, 0))), some (.inl a1), some (.inl ((if (μ 68 0 ((a1).toNatClampNeg)) = 5 then 1 else ((if (μ 68 0 ((a1).toNatClampNeg)) = 6 then 1 else 0) : Int32)) : Int32))] [] (cs_159 a1 (tm_wr μ 68 0 ((a1).toNatClampNeg) 5)) Q
            generalize gμ14 : (cs_159 a1 (tm_wr μ 68 0 ((a1).toNatClampNeg) 5)) = μ14 at h hi ⊢
            refine xr_go 1 (pc' := 289) (ls' := [some (.inr (some (36, 0))), some (.inl a1), some (.inl ((if (μ 68 0 ((a1).toNatClampNeg)) = 5 then 1 else ((if (μ 68 0 ((a1).toNatClampNeg)) = 6 then 1 else 0) : Int32)) : Int32))]) (st' := []) (s' := μ14) rfl ?_
            try simp only [if_pos c5, if_neg c6, if_pos c41, if_pos c44, if_neg c47] at h
            exact xr_rt (v := none) rfl h
        · skip
          refine xr_go 2 (pc' := 122) (ls' := [some (.inr (some (36, 0))), some (.inl a1), some (.inl ((if (μ 68 0 ((a1).toNatClampNeg)) = 5 then 1 else ((if (μ 68 0 ((a1).toNatClampNeg)) = 6 then 1 else 0) : Int32)) : Int32))]) (st' := [.inl a1, .inr (some (36, 0))]) (s' := μ) rfl ?_
          refine xr_cl (y' := 168) (as := [.inr (some (36, 0)), .inl a1]) (r := []) rfl rfl ?_
          refine tf_168 (d := d + 0) (μ := μ) (a1 := a1) (hi.2.2.2.2.2.2.2.2.2.2.2.2.2.2.2.2.2.2.2.2.1 c5 c6 c41 c44) ?_
          show xr_t (tm_I L xs) (d + 4) 170 125 [some (.inr (some (36, 0))), some (.inl a1), some (.inl ((if (μ 68 0 ((a1).toNatClampNeg)) = 5 then 1 else ((if (μ 68 0 ((a1).toNatClampNeg)) = 6 then 1 else 0) : Int32)) : Int32))] [] (cs_168 a1 μ) Q
          generalize gμ15 : (cs_168 a1 μ) = μ15 at h hi ⊢
          refine xr_go 1 (pc' := 289) (ls' := [some (.inr (some (36, 0))), some (.inl a1), some (.inl ((if (μ 68 0 ((a1).toNatClampNeg)) = 5 then 1 else ((if (μ 68 0 ((a1).toNatClampNeg)) = 6 then 1 else 0) : Int32)) : Int32))]) (st' := []) (s' := μ15) rfl ?_
          try simp only [if_pos c5, if_neg c6, if_pos c41, if_neg c44] at h
          exact xr_rt (v := none) rfl h
      · skip
        refine xr_go 2 (pc' := 91) (ls' := [some (.inr (some (36, 0))), some (.inl a1), some (.inl ((if (μ 68 0 ((a1).toNatClampNeg)) = 5 then 1 else ((if (μ 68 0 ((a1).toNatClampNeg)) = 6 then 1 else 0) : Int32)) : Int32))]) (st' := [.inl a1, .inr (some (36, 0))]) (s' := μ) rfl ?_
        refine xr_cl (y' := 167) (as := [.inr (some (36, 0)), .inl a1]) (r := []) rfl rfl ?_
        refine tf_167 (d := d + 0) (μ := μ) (a1 := a1) (hi.2.2.2.2.2.2.2.2.2.2.2.2.2.2.2.2.2.2.2.2.2.1 c5 c6 c41) ?_
        show xr_t (tm_I L xs) (d + 4) 170 94 [some (.inr (some (36, 0))), some (.inl a1), some (.inl ((if (μ 68 0 ((a1).toNatClampNeg)) = 5 then 1 else ((if (μ 68 0 ((a1).toNatClampNeg)) = 6 then 1 else 0) : Int32)) : Int32))] [] (cs_167 a1 μ) Q
        generalize gμ16 : (cs_167 a1 μ) = μ16 at h hi ⊢
        refine xr_go 1 (pc' := 289) (ls' := [some (.inr (some (36, 0))), some (.inl a1), some (.inl ((if (μ 68 0 ((a1).toNatClampNeg)) = 5 then 1 else ((if (μ 68 0 ((a1).toNatClampNeg)) = 6 then 1 else 0) : Int32)) : Int32))]) (st' := []) (s' := μ16) rfl ?_
        try simp only [if_pos c5, if_neg c6, if_neg c41] at h
        exact xr_rt (v := none) rfl h
  · skip
    refine xr_go 2 (pc' := 50) (ls' := [some (.inr (some (36, 0))), some (.inl a1), some (.inl ((if (μ 68 0 ((a1).toNatClampNeg)) = 5 then 1 else ((if (μ 68 0 ((a1).toNatClampNeg)) = 6 then 1 else 0) : Int32)) : Int32))]) (st' := [.inl a1, .inr (some (36, 0))]) (s' := μ) rfl ?_
    refine xr_cl (y' := 158) (as := [.inr (some (36, 0)), .inl a1]) (r := []) rfl rfl ?_
    refine tf_158 (d := d + 1) (μ := μ) (a1 := a1) (hi.2.2.2.2.2.2.2.2.2.2.2.2.2.2.2.2.2.2.2.2.2.2 c5) ?_
    show xr_t (tm_I L xs) (d + 4) 170 53 [some (.inr (some (36, 0))), some (.inl a1), some (.inl ((if (μ 68 0 ((a1).toNatClampNeg)) = 5 then 1 else ((if (μ 68 0 ((a1).toNatClampNeg)) = 6 then 1 else 0) : Int32)) : Int32))] [] (cs_158 a1 μ) Q
    generalize gμ17 : (cs_158 a1 μ) = μ17 at h hi ⊢
    refine xr_go 1 (pc' := 289) (ls' := [some (.inr (some (36, 0))), some (.inl a1), some (.inl ((if (μ 68 0 ((a1).toNatClampNeg)) = 5 then 1 else ((if (μ 68 0 ((a1).toNatClampNeg)) = 6 then 1 else 0) : Int32)) : Int32))]) (st' := []) (s' := μ17) rfl ?_
    try simp only [if_neg c5] at h
    exact xr_rt (v := none) rfl h
-- BootNetModel.tick()I
def cv_171_33  : Nat → Int32 → tm_M → Int32
  | 0, _, _ => 0
  | n + 1, l1, μ => (if (μ 36 0 38) ≤ l1 then (μ 36 0 9) else (if ((μ 62 0 ((l1).toNatClampNeg)) ≤ 0) ∨ ((μ 36 0 3) < (μ 66 0 ((l1).toNatClampNeg))) then (cv_171_33 n (l1 + 1) μ) else (if (μ 65 0 ((l1).toNatClampNeg)) = (μ 36 0 1) then (cv_171_33 n (l1 + 1) (tm_wr μ 62 0 ((l1).toNatClampNeg) 0)) else (cv_171_33 n (l1 + 1) (cs_152 l1 μ)))))
def cs_171_33  : Nat → Int32 → tm_M → tm_M
  | 0, _, μ => μ
  | n + 1, l1, μ => (if (μ 36 0 38) ≤ l1 then μ else (if ((μ 62 0 ((l1).toNatClampNeg)) ≤ 0) ∨ ((μ 36 0 3) < (μ 66 0 ((l1).toNatClampNeg))) then (cs_171_33 n (l1 + 1) μ) else (if (μ 65 0 ((l1).toNatClampNeg)) = (μ 36 0 1) then (cs_171_33 n (l1 + 1) (tm_wr μ 62 0 ((l1).toNatClampNeg) 0)) else (cs_171_33 n (l1 + 1) (cs_152 l1 μ)))))
def ci_171_33  : Nat → Int32 → tm_M → Prop
  | 0, _, _ => False
  | n + 1, l1, μ => ((¬ ((μ 36 0 38) ≤ l1)) → tm_ix l1 6 = true) ∧ ((¬ ((μ 36 0 38) ≤ l1)) → (((μ 62 0 ((l1).toNatClampNeg)) ≤ 0) ∨ ((μ 36 0 3) < (μ 66 0 ((l1).toNatClampNeg)))) → ci_171_33 n (l1 + 1) μ) ∧ ((¬ ((μ 36 0 38) ≤ l1)) → (¬ (((μ 62 0 ((l1).toNatClampNeg)) ≤ 0) ∨ ((μ 36 0 3) < (μ 66 0 ((l1).toNatClampNeg))))) → ((μ 65 0 ((l1).toNatClampNeg)) = (μ 36 0 1)) → ci_171_33 n (l1 + 1) (tm_wr μ 62 0 ((l1).toNatClampNeg) 0)) ∧ ((¬ ((μ 36 0 38) ≤ l1)) → (¬ (((μ 62 0 ((l1).toNatClampNeg)) ≤ 0) ∨ ((μ 36 0 3) < (μ 66 0 ((l1).toNatClampNeg))))) → (¬ ((μ 65 0 ((l1).toNatClampNeg)) = (μ 36 0 1))) → ci_152 l1 μ) ∧ ((¬ ((μ 36 0 38) ≤ l1)) → (¬ (((μ 62 0 ((l1).toNatClampNeg)) ≤ 0) ∨ ((μ 36 0 3) < (μ 66 0 ((l1).toNatClampNeg))))) → (¬ ((μ 65 0 ((l1).toNatClampNeg)) = (μ 36 0 1))) → ci_171_33 n (l1 + 1) (cs_152 l1 μ))
set_option maxHeartbeats 4000000 in
set_option maxRecDepth 10000 in
theorem tl_171_33  : ∀ (n : Nat) (l1 : Int32) (μ : tm_M), ci_171_33 n l1 μ → Q (some (.inl (cv_171_33 n l1 μ))) (cs_171_33 n l1 μ) → xr_t (tm_I L xs) (d + 5) 171 33 [some (.inr (some (36, 0))), some (.inl l1)] [] μ Q := by
  intro n
  induction n with
  | zero => intro l1 μ hi; exact hi.elim
  | succ n ih =>
    intro l1 μ hi h
    unfold ci_171_33 at hi
    simp only [cv_171_33, cs_171_33] at h
    refine xr_br 4 (c := (μ 36 0 38) ≤ l1) inferInstance (a := 97) (b := 41) (ls' := [some (.inr (some (36, 0))), some (.inl l1)]) (st' := []) (s' := μ) rfl (fun c1 => ?_) (fun c1 => ?_)
    · skip
      refine xr_go 2 (pc' := 101) (ls' := [some (.inr (some (36, 0))), some (.inl l1)]) (st' := [.inl (μ 36 0 9)]) (s' := μ) rfl ?_
      try simp only [if_pos c1] at h
      exact xr_rt (v := some (.inl (μ 36 0 9))) rfl h
    · skip
      refine xr_go 3 (pc' := 46) (ls' := [some (.inr (some (36, 0))), some (.inl l1)]) (st' := [.inl l1, .inr (some (62, 0))]) (s' := μ) rfl ?_
      refine xr_ial (n := 6) rfl rfl (hi.1 c1) ?_
      suffices hE2 : ((((μ 62 0 ((l1).toNatClampNeg)) ≤ 0) ∨ ((μ 36 0 3) < (μ 66 0 ((l1).toNatClampNeg)))) → xr_t (tm_I L xs) (d + 5) 171 91 [some (.inr (some (36, 0))), some (.inl l1)] [] μ Q) ∧ (¬ (((μ 62 0 ((l1).toNatClampNeg)) ≤ 0) ∨ ((μ 36 0 3) < (μ 66 0 ((l1).toNatClampNeg)))) → xr_t (tm_I L xs) (d + 5) 171 63 [some (.inr (some (36, 0))), some (.inl l1)] [] μ Q) by
        refine xr_br 1 (c := (μ 62 0 ((l1).toNatClampNeg)) ≤ 0) inferInstance (a := 91) (b := 50) (ls' := [some (.inr (some (36, 0))), some (.inl l1)]) (st' := []) (s' := μ) rfl (fun c2 => ?_) (fun c2 => ?_)
        · skip
          exact hE2.1 (Or.inl c2)
        · skip
          refine xr_go 3 (pc' := 55) (ls' := [some (.inr (some (36, 0))), some (.inl l1)]) (st' := [.inl l1, .inr (some (66, 0))]) (s' := μ) rfl ?_
          refine xr_ial (n := 6) rfl rfl (hi.1 c1) ?_
          refine xr_br 3 (c := (μ 36 0 3) < (μ 66 0 ((l1).toNatClampNeg))) inferInstance (a := 91) (b := 63) (ls' := [some (.inr (some (36, 0))), some (.inl l1)]) (st' := []) (s' := μ) rfl (fun c3 => ?_) (fun c3 => ?_)
          · skip
            exact hE2.1 (Or.inr c3)
          · skip
            exact hE2.2 (fun z => z.elim c2 c3)
      refine ⟨fun c4 => ?_, fun c4 => ?_⟩
      · skip
        refine xr_go 2 (pc' := 33) (ls' := [some (.inr (some (36, 0))), some (.inl (l1 + 1))]) (st' := []) (s' := μ) rfl ?_
        try simp only [if_neg c1, if_pos c4] at h
        exact ih (l1 + 1) μ (hi.2.1 c1 c4) h
      · skip
        refine xr_go 3 (pc' := 68) (ls' := [some (.inr (some (36, 0))), some (.inl l1)]) (st' := [.inl l1, .inr (some (65, 0))]) (s' := μ) rfl ?_
        refine xr_ial (n := 6) rfl rfl (hi.1 c1) ?_
        refine xr_br 3 (c := (μ 65 0 ((l1).toNatClampNeg)) = (μ 36 0 1)) inferInstance (a := 76) (b := 86) (ls' := [some (.inr (some (36, 0))), some (.inl l1)]) (st' := []) (s' := μ) rfl (fun c5 => ?_) (fun c5 => ?_)
        · skip
          refine xr_go 4 (pc' := 82) (ls' := [some (.inr (some (36, 0))), some (.inl l1)]) (st' := [.inl 0, .inl l1, .inr (some (62, 0))]) (s' := μ) rfl ?_
          refine xr_ias (n := 6) rfl rfl (hi.1 c1) ?_
          refine xr_go 3 (pc' := 33) (ls' := [some (.inr (some (36, 0))), some (.inl (l1 + 1))]) (st' := []) (s' := (tm_wr μ 62 0 ((l1).toNatClampNeg) 0)) rfl ?_
          try simp only [if_neg c1, if_neg c4, if_pos c5] at h
          exact ih (l1 + 1) (tm_wr μ 62 0 ((l1).toNatClampNeg) 0) (hi.2.2.1 c1 c4 c5) h
        · skip
          refine xr_go 2 (pc' := 88) (ls' := [some (.inr (some (36, 0))), some (.inl l1)]) (st' := [.inl l1, .inr (some (36, 0))]) (s' := μ) rfl ?_
          refine xr_cl (y' := 152) (as := [.inr (some (36, 0)), .inl l1]) (r := []) rfl rfl ?_
          refine tf_152 (d := d + 2) (μ := μ) (a1 := l1) (hi.2.2.2.1 c1 c4 c5) ?_
          show xr_t (tm_I L xs) (d + 5) 171 91 [some (.inr (some (36, 0))), some (.inl l1)] [] (cs_152 l1 μ) Q
          generalize gμ1 : (cs_152 l1 μ) = μ1 at h hi ⊢
          refine xr_go 2 (pc' := 33) (ls' := [some (.inr (some (36, 0))), some (.inl (l1 + 1))]) (st' := []) (s' := μ1) rfl ?_
          try simp only [if_neg c1, if_neg c4, if_neg c5] at h
          exact ih (l1 + 1) μ1 (hi.2.2.2.2 c1 c4 c5) h
def cv_171_12  : Nat → Int32 → tm_M → Int32
  | 0, _, _ => 0
  | n + 1, l1, μ => (if (μ 36 0 38) ≤ l1 then (cv_171_33 64 0 μ) else (cv_171_12 n (l1 + 1) (cs_170 l1 μ)))
def cs_171_12  : Nat → Int32 → tm_M → tm_M
  | 0, _, μ => μ
  | n + 1, l1, μ => (if (μ 36 0 38) ≤ l1 then (cs_171_33 64 0 μ) else (cs_171_12 n (l1 + 1) (cs_170 l1 μ)))
def ci_171_12  : Nat → Int32 → tm_M → Prop
  | 0, _, _ => False
  | n + 1, l1, μ => (((μ 36 0 38) ≤ l1) → ci_171_33 64 0 μ) ∧ ((¬ ((μ 36 0 38) ≤ l1)) → ci_170 l1 μ) ∧ ((¬ ((μ 36 0 38) ≤ l1)) → ci_171_12 n (l1 + 1) (cs_170 l1 μ))
set_option maxHeartbeats 4000000 in
set_option maxRecDepth 10000 in
theorem tl_171_12  : ∀ (n : Nat) (l1 : Int32) (μ : tm_M), ci_171_12 n l1 μ → Q (some (.inl (cv_171_12 n l1 μ))) (cs_171_12 n l1 μ) → xr_t (tm_I L xs) (d + 5) 171 12 [some (.inr (some (36, 0))), some (.inl l1)] [] μ Q := by
  intro n
  induction n with
  | zero => intro l1 μ hi; exact hi.elim
  | succ n ih =>
    intro l1 μ hi h
    unfold ci_171_12 at hi
    simp only [cv_171_12, cs_171_12] at h
    refine xr_br 4 (c := (μ 36 0 38) ≤ l1) inferInstance (a := 31) (b := 20) (ls' := [some (.inr (some (36, 0))), some (.inl l1)]) (st' := []) (s' := μ) rfl (fun c1 => ?_) (fun c1 => ?_)
    · skip
      refine xr_go 2 (pc' := 33) (ls' := [some (.inr (some (36, 0))), some (.inl 0)]) (st' := []) (s' := μ) rfl ?_
      try simp only [if_pos c1] at h
      exact tl_171_33 64 0 μ (hi.1 c1) h
    · skip
      refine xr_go 2 (pc' := 22) (ls' := [some (.inr (some (36, 0))), some (.inl l1)]) (st' := [.inl l1, .inr (some (36, 0))]) (s' := μ) rfl ?_
      refine xr_cl (y' := 170) (as := [.inr (some (36, 0)), .inl l1]) (r := []) rfl rfl ?_
      refine tf_170 (d := d + 0) (μ := μ) (a1 := l1) (hi.2.1 c1) ?_
      show xr_t (tm_I L xs) (d + 5) 171 25 [some (.inr (some (36, 0))), some (.inl l1)] [] (cs_170 l1 μ) Q
      generalize gμ1 : (cs_170 l1 μ) = μ1 at h hi ⊢
      refine xr_go 2 (pc' := 12) (ls' := [some (.inr (some (36, 0))), some (.inl (l1 + 1))]) (st' := []) (s' := μ1) rfl ?_
      try simp only [if_neg c1] at h
      exact ih (l1 + 1) μ1 (hi.2.2 c1) h
def cv_171  (μ : tm_M) : Int32 := (cv_171_12 64 0 (tm_wr μ 36 0 3 ((μ 36 0 3) + 1)))
def cs_171  (μ : tm_M) : tm_M := (cs_171_12 64 0 (tm_wr μ 36 0 3 ((μ 36 0 3) + 1)))
def ci_171  (μ : tm_M) : Prop := (ci_171_12 64 0 (tm_wr μ 36 0 3 ((μ 36 0 3) + 1)))
set_option maxHeartbeats 4000000 in
set_option maxRecDepth 10000 in
theorem tf_171  (hi : ci_171 μ) (h : Q (some (.inl (cv_171 μ))) (cs_171 μ)) : xm_MW (tm_I L xs) (d + 6) 171 [.inr (some (36, 0))] μ Q := by
  refine xr_in2 [some (.inr (some (36, 0))), none] rfl rfl ?_
  unfold cv_171 cs_171 at h
  unfold ci_171 at hi
  refine xr_go 8 (pc' := 12) (ls' := [some (.inr (some (36, 0))), some (.inl 0)]) (st' := []) (s' := (tm_wr μ 36 0 3 ((μ 36 0 3) + 1))) rfl ?_
  exact tl_171_12 64 0 (tm_wr μ 36 0 3 ((μ 36 0 3) + 1)) (hi) h
-- BootNetModel.station(II)I
def cv_172 (a1 : Int32) (a2 : Int32) (μ : tm_M) : Int32 := (if ((cv_122 a1 μ) = 0) ∨ ((a2 < 0) ∨ (¬ (a2 ≤ 7))) then (-1) else (if (4 : Int32) ≤ a2 then ((if a2 = 4 then (μ 75 0 ((a1).toNatClampNeg)) else ((if a2 = 5 then (μ 76 0 ((a1).toNatClampNeg)) else ((if a2 = 6 then (μ 77 0 ((a1).toNatClampNeg)) else ((μ 81 0 ((a1).toNatClampNeg)) - (μ 82 0 ((a1).toNatClampNeg)))) : Int32)) : Int32)) : Int32) else ((if a2 = 0 then (μ 68 0 ((a1).toNatClampNeg)) else ((if a2 = 1 then (μ 69 0 ((a1).toNatClampNeg)) else ((if a2 = 2 then (μ 70 0 ((a1).toNatClampNeg)) else (μ 72 0 ((a1).toNatClampNeg))) : Int32)) : Int32)) : Int32)))
def ci_172 (a1 : Int32) (a2 : Int32) (μ : tm_M) : Prop := ((¬ (((cv_122 a1 μ) = 0) ∨ ((a2 < 0) ∨ (¬ (a2 ≤ 7))))) → ((4 : Int32) ≤ a2) → (a2 = 4) → tm_ix a1 6 = true) ∧ ((¬ (((cv_122 a1 μ) = 0) ∨ ((a2 < 0) ∨ (¬ (a2 ≤ 7))))) → ((4 : Int32) ≤ a2) → (¬ (a2 = 4)) → (a2 = 5) → tm_ix a1 6 = true) ∧ ((¬ (((cv_122 a1 μ) = 0) ∨ ((a2 < 0) ∨ (¬ (a2 ≤ 7))))) → ((4 : Int32) ≤ a2) → (¬ (a2 = 4)) → (¬ (a2 = 5)) → (a2 = 6) → tm_ix a1 6 = true) ∧ ((¬ (((cv_122 a1 μ) = 0) ∨ ((a2 < 0) ∨ (¬ (a2 ≤ 7))))) → ((4 : Int32) ≤ a2) → (¬ (a2 = 4)) → (¬ (a2 = 5)) → (¬ (a2 = 6)) → tm_ix a1 6 = true) ∧ ((¬ (((cv_122 a1 μ) = 0) ∨ ((a2 < 0) ∨ (¬ (a2 ≤ 7))))) → (¬ ((4 : Int32) ≤ a2)) → (a2 = 0) → tm_ix a1 6 = true) ∧ ((¬ (((cv_122 a1 μ) = 0) ∨ ((a2 < 0) ∨ (¬ (a2 ≤ 7))))) → (¬ ((4 : Int32) ≤ a2)) → (¬ (a2 = 0)) → (a2 = 1) → tm_ix a1 6 = true) ∧ ((¬ (((cv_122 a1 μ) = 0) ∨ ((a2 < 0) ∨ (¬ (a2 ≤ 7))))) → (¬ ((4 : Int32) ≤ a2)) → (¬ (a2 = 0)) → (¬ (a2 = 1)) → (a2 = 2) → tm_ix a1 6 = true) ∧ ((¬ (((cv_122 a1 μ) = 0) ∨ ((a2 < 0) ∨ (¬ (a2 ≤ 7))))) → (¬ ((4 : Int32) ≤ a2)) → (¬ (a2 = 0)) → (¬ (a2 = 1)) → (¬ (a2 = 2)) → tm_ix a1 6 = true)
set_option maxHeartbeats 4000000 in
set_option maxRecDepth 10000 in
theorem tf_172 {a1 : Int32} {a2 : Int32} (hi : ci_172 a1 a2 μ) (h : Q (some (.inl (cv_172 a1 a2 μ))) μ) : xm_MW (tm_I L xs) (d + 2) 172 [.inr (some (36, 0)), .inl a1, .inl a2] μ Q := by
  refine xr_in2 [some (.inr (some (36, 0))), some (.inl a1), some (.inl a2)] rfl rfl ?_
  unfold cv_172 at h
  unfold ci_172 at hi
  refine xr_go 2 (pc' := 2) (ls' := [some (.inr (some (36, 0))), some (.inl a1), some (.inl a2)]) (st' := [.inl a1, .inr (some (36, 0))]) (s' := μ) rfl ?_
  refine xr_cl (y' := 122) (as := [.inr (some (36, 0)), .inl a1]) (r := []) rfl rfl ?_
  refine tf_122 (d := d + 0) (μ := μ) (a1 := a1) ?_
  show xr_t (tm_I L xs) (d + 1) 172 5 [some (.inr (some (36, 0))), some (.inl a1), some (.inl a2)] [.inl (cv_122 a1 μ)] μ Q
  have z1 : (cv_122 a1 μ) = 0 ∨ (cv_122 a1 μ) = 1 := cz_122
  generalize gv1 : (cv_122 a1 μ) = v1 at h hi z1 ⊢
  suffices hE1 : (((v1 = 0) ∨ ((a2 < 0) ∨ (¬ (a2 ≤ 7)))) → xr_t (tm_I L xs) (d + 1) 172 18 [some (.inr (some (36, 0))), some (.inl a1), some (.inl a2)] [] μ Q) ∧ (¬ ((v1 = 0) ∨ ((a2 < 0) ∨ (¬ (a2 ≤ 7)))) → xr_t (tm_I L xs) (d + 1) 172 20 [some (.inr (some (36, 0))), some (.inl a1), some (.inl a2)] [] μ Q) by
    refine xr_br 1 (c := v1 = 0) inferInstance (a := 18) (b := 8) (ls' := [some (.inr (some (36, 0))), some (.inl a1), some (.inl a2)]) (st' := []) (s' := μ) rfl (fun c1 => ?_) (fun c1 => ?_)
    · skip
      exact hE1.1 (Or.inl c1)
    · skip
      refine xr_br 2 (c := a2 < 0) inferInstance (a := 18) (b := 12) (ls' := [some (.inr (some (36, 0))), some (.inl a1), some (.inl a2)]) (st' := []) (s' := μ) rfl (fun c2 => ?_) (fun c2 => ?_)
      · skip
        exact hE1.1 (Or.inr (Or.inl c2))
      · skip
        refine xr_br 3 (c := a2 ≤ 7) inferInstance (a := 20) (b := 18) (ls' := [some (.inr (some (36, 0))), some (.inl a1), some (.inl a2)]) (st' := []) (s' := μ) rfl (fun c3 => ?_) (fun c3 => ?_)
        · skip
          exact hE1.2 (fun z => z.elim c1 (fun z => z.elim c2 (fun z => z c3)))
        · skip
          exact hE1.1 (Or.inr (Or.inr c3))
  refine ⟨fun c4 => ?_, fun c4 => ?_⟩
  · skip
    refine xr_go 1 (pc' := 19) (ls' := [some (.inr (some (36, 0))), some (.inl a1), some (.inl a2)]) (st' := [.inl (-1)]) (s' := μ) rfl ?_
    try simp only [if_pos c4] at h
    exact xr_rt (v := some (.inl (-1))) rfl h
  · skip
    refine xr_br 3 (c := (4 : Int32) ≤ a2) inferInstance (a := 73) (b := 25) (ls' := [some (.inr (some (36, 0))), some (.inl a1), some (.inl a2)]) (st' := []) (s' := μ) rfl (fun c5 => ?_) (fun c5 => ?_)
    · skip
      suffices hj6 : xr_t (tm_I L xs) (d + 1) 172 129 [some (.inr (some (36, 0))), some (.inl a1), some (.inl a2)] [.inl ((if a2 = 4 then (μ 75 0 ((a1).toNatClampNeg)) else ((if a2 = 5 then (μ 76 0 ((a1).toNatClampNeg)) else ((if a2 = 6 then (μ 77 0 ((a1).toNatClampNeg)) else ((μ 81 0 ((a1).toNatClampNeg)) - (μ 82 0 ((a1).toNatClampNeg)))) : Int32)) : Int32)) : Int32)] μ Q by
        refine xr_br 3 (c := a2 = 4) inferInstance (a := 78) (b := 87) (ls' := [some (.inr (some (36, 0))), some (.inl a1), some (.inl a2)]) (st' := []) (s' := μ) rfl (fun c6 => ?_) (fun c6 => ?_)
        · skip
          refine xr_go 3 (pc' := 83) (ls' := [some (.inr (some (36, 0))), some (.inl a1), some (.inl a2)]) (st' := [.inl a1, .inr (some (75, 0))]) (s' := μ) rfl ?_
          refine xr_ial (n := 6) rfl rfl (hi.1 c4 c5 c6) ?_
          refine xr_go 1 (pc' := 129) (ls' := [some (.inr (some (36, 0))), some (.inl a1), some (.inl a2)]) (st' := [.inl (μ 75 0 ((a1).toNatClampNeg))]) (s' := μ) rfl ?_
          have ehj6 : ((if a2 = 4 then (μ 75 0 ((a1).toNatClampNeg)) else ((if a2 = 5 then (μ 76 0 ((a1).toNatClampNeg)) else ((if a2 = 6 then (μ 77 0 ((a1).toNatClampNeg)) else ((μ 81 0 ((a1).toNatClampNeg)) - (μ 82 0 ((a1).toNatClampNeg)))) : Int32)) : Int32)) : Int32) = (μ 75 0 ((a1).toNatClampNeg)) := by first | rfl | simp only [if_pos c6]
          rw [ehj6] at hj6
          exact hj6
        · skip
          suffices hj7 : xr_t (tm_I L xs) (d + 1) 172 129 [some (.inr (some (36, 0))), some (.inl a1), some (.inl a2)] [.inl ((if a2 = 5 then (μ 76 0 ((a1).toNatClampNeg)) else ((if a2 = 6 then (μ 77 0 ((a1).toNatClampNeg)) else ((μ 81 0 ((a1).toNatClampNeg)) - (μ 82 0 ((a1).toNatClampNeg)))) : Int32)) : Int32)] μ Q by
            refine xr_br 3 (c := a2 = 5) inferInstance (a := 92) (b := 101) (ls' := [some (.inr (some (36, 0))), some (.inl a1), some (.inl a2)]) (st' := []) (s' := μ) rfl (fun c7 => ?_) (fun c7 => ?_)
            · skip
              refine xr_go 3 (pc' := 97) (ls' := [some (.inr (some (36, 0))), some (.inl a1), some (.inl a2)]) (st' := [.inl a1, .inr (some (76, 0))]) (s' := μ) rfl ?_
              refine xr_ial (n := 6) rfl rfl (hi.2.1 c4 c5 c6 c7) ?_
              refine xr_go 1 (pc' := 129) (ls' := [some (.inr (some (36, 0))), some (.inl a1), some (.inl a2)]) (st' := [.inl (μ 76 0 ((a1).toNatClampNeg))]) (s' := μ) rfl ?_
              have ehj7 : ((if a2 = 5 then (μ 76 0 ((a1).toNatClampNeg)) else ((if a2 = 6 then (μ 77 0 ((a1).toNatClampNeg)) else ((μ 81 0 ((a1).toNatClampNeg)) - (μ 82 0 ((a1).toNatClampNeg)))) : Int32)) : Int32) = (μ 76 0 ((a1).toNatClampNeg)) := by first | rfl | simp only [if_pos c7]
              rw [ehj7] at hj7
              exact hj7
            · skip
              suffices hj8 : xr_t (tm_I L xs) (d + 1) 172 129 [some (.inr (some (36, 0))), some (.inl a1), some (.inl a2)] [.inl ((if a2 = 6 then (μ 77 0 ((a1).toNatClampNeg)) else ((μ 81 0 ((a1).toNatClampNeg)) - (μ 82 0 ((a1).toNatClampNeg)))) : Int32)] μ Q by
                refine xr_br 3 (c := a2 = 6) inferInstance (a := 107) (b := 116) (ls' := [some (.inr (some (36, 0))), some (.inl a1), some (.inl a2)]) (st' := []) (s' := μ) rfl (fun c8 => ?_) (fun c8 => ?_)
                · skip
                  refine xr_go 3 (pc' := 112) (ls' := [some (.inr (some (36, 0))), some (.inl a1), some (.inl a2)]) (st' := [.inl a1, .inr (some (77, 0))]) (s' := μ) rfl ?_
                  refine xr_ial (n := 6) rfl rfl (hi.2.2.1 c4 c5 c6 c7 c8) ?_
                  refine xr_go 1 (pc' := 129) (ls' := [some (.inr (some (36, 0))), some (.inl a1), some (.inl a2)]) (st' := [.inl (μ 77 0 ((a1).toNatClampNeg))]) (s' := μ) rfl ?_
                  have ehj8 : ((if a2 = 6 then (μ 77 0 ((a1).toNatClampNeg)) else ((μ 81 0 ((a1).toNatClampNeg)) - (μ 82 0 ((a1).toNatClampNeg)))) : Int32) = (μ 77 0 ((a1).toNatClampNeg)) := by first | rfl | simp only [if_pos c8]
                  rw [ehj8] at hj8
                  exact hj8
                · skip
                  refine xr_go 3 (pc' := 121) (ls' := [some (.inr (some (36, 0))), some (.inl a1), some (.inl a2)]) (st' := [.inl a1, .inr (some (81, 0))]) (s' := μ) rfl ?_
                  refine xr_ial (n := 6) rfl rfl (hi.2.2.2.1 c4 c5 c6 c7 c8) ?_
                  refine xr_go 3 (pc' := 127) (ls' := [some (.inr (some (36, 0))), some (.inl a1), some (.inl a2)]) (st' := [.inl a1, .inr (some (82, 0)), .inl (μ 81 0 ((a1).toNatClampNeg))]) (s' := μ) rfl ?_
                  refine xr_ial (n := 6) rfl rfl (hi.2.2.2.1 c4 c5 c6 c7 c8) ?_
                  refine xr_go 1 (pc' := 129) (ls' := [some (.inr (some (36, 0))), some (.inl a1), some (.inl a2)]) (st' := [.inl ((μ 81 0 ((a1).toNatClampNeg)) - (μ 82 0 ((a1).toNatClampNeg)))]) (s' := μ) rfl ?_
                  have ehj8 : ((if a2 = 6 then (μ 77 0 ((a1).toNatClampNeg)) else ((μ 81 0 ((a1).toNatClampNeg)) - (μ 82 0 ((a1).toNatClampNeg)))) : Int32) = ((μ 81 0 ((a1).toNatClampNeg)) - (μ 82 0 ((a1).toNatClampNeg))) := by first | rfl | simp only [if_neg c8]
                  rw [ehj8] at hj8
                  exact hj8
              have ehj7 : ((if a2 = 5 then (μ 76 0 ((a1).toNatClampNeg)) else ((if a2 = 6 then (μ 77 0 ((a1).toNatClampNeg)) else ((μ 81 0 ((a1).toNatClampNeg)) - (μ 82 0 ((a1).toNatClampNeg)))) : Int32)) : Int32) = ((if a2 = 6 then (μ 77 0 ((a1).toNatClampNeg)) else ((μ 81 0 ((a1).toNatClampNeg)) - (μ 82 0 ((a1).toNatClampNeg)))) : Int32) := by first | rfl | simp only [if_neg c7]
              rw [ehj7] at hj7
              exact hj7
          have ehj6 : ((if a2 = 4 then (μ 75 0 ((a1).toNatClampNeg)) else ((if a2 = 5 then (μ 76 0 ((a1).toNatClampNeg)) else ((if a2 = 6 then (μ 77 0 ((a1).toNatClampNeg)) else ((μ 81 0 ((a1).toNatClampNeg)) - (μ 82 0 ((a1).toNatClampNeg)))) : Int32)) : Int32)) : Int32) = ((if a2 = 5 then (μ 76 0 ((a1).toNatClampNeg)) else ((if a2 = 6 then (μ 77 0 ((a1).toNatClampNeg)) else ((μ 81 0 ((a1).toNatClampNeg)) - (μ 82 0 ((a1).toNatClampNeg)))) : Int32)) : Int32) := by first | rfl | simp only [if_neg c6]
          rw [ehj6] at hj6
          exact hj6
      try simp only [if_neg c4, if_pos c5] at h
      exact xr_rt (v := some (.inl ((if a2 = 4 then (μ 75 0 ((a1).toNatClampNeg)) else ((if a2 = 5 then (μ 76 0 ((a1).toNatClampNeg)) else ((if a2 = 6 then (μ 77 0 ((a1).toNatClampNeg)) else ((μ 81 0 ((a1).toNatClampNeg)) - (μ 82 0 ((a1).toNatClampNeg)))) : Int32)) : Int32)) : Int32))) rfl h
    · skip
      suffices hj9 : xr_t (tm_I L xs) (d + 1) 172 72 [some (.inr (some (36, 0))), some (.inl a1), some (.inl a2)] [.inl ((if a2 = 0 then (μ 68 0 ((a1).toNatClampNeg)) else ((if a2 = 1 then (μ 69 0 ((a1).toNatClampNeg)) else ((if a2 = 2 then (μ 70 0 ((a1).toNatClampNeg)) else (μ 72 0 ((a1).toNatClampNeg))) : Int32)) : Int32)) : Int32)] μ Q by
        refine xr_br 2 (c := a2 = 0) inferInstance (a := 29) (b := 38) (ls' := [some (.inr (some (36, 0))), some (.inl a1), some (.inl a2)]) (st' := []) (s' := μ) rfl (fun c9 => ?_) (fun c9 => ?_)
        · skip
          refine xr_go 3 (pc' := 34) (ls' := [some (.inr (some (36, 0))), some (.inl a1), some (.inl a2)]) (st' := [.inl a1, .inr (some (68, 0))]) (s' := μ) rfl ?_
          refine xr_ial (n := 6) rfl rfl (hi.2.2.2.2.1 c4 c5 c9) ?_
          refine xr_go 1 (pc' := 72) (ls' := [some (.inr (some (36, 0))), some (.inl a1), some (.inl a2)]) (st' := [.inl (μ 68 0 ((a1).toNatClampNeg))]) (s' := μ) rfl ?_
          have ehj9 : ((if a2 = 0 then (μ 68 0 ((a1).toNatClampNeg)) else ((if a2 = 1 then (μ 69 0 ((a1).toNatClampNeg)) else ((if a2 = 2 then (μ 70 0 ((a1).toNatClampNeg)) else (μ 72 0 ((a1).toNatClampNeg))) : Int32)) : Int32)) : Int32) = (μ 68 0 ((a1).toNatClampNeg)) := by first | rfl | simp only [if_pos c9]
          rw [ehj9] at hj9
          exact hj9
        · skip
          suffices hj10 : xr_t (tm_I L xs) (d + 1) 172 72 [some (.inr (some (36, 0))), some (.inl a1), some (.inl a2)] [.inl ((if a2 = 1 then (μ 69 0 ((a1).toNatClampNeg)) else ((if a2 = 2 then (μ 70 0 ((a1).toNatClampNeg)) else (μ 72 0 ((a1).toNatClampNeg))) : Int32)) : Int32)] μ Q by
            refine xr_br 3 (c := a2 = 1) inferInstance (a := 43) (b := 52) (ls' := [some (.inr (some (36, 0))), some (.inl a1), some (.inl a2)]) (st' := []) (s' := μ) rfl (fun c10 => ?_) (fun c10 => ?_)
            · skip
              refine xr_go 3 (pc' := 48) (ls' := [some (.inr (some (36, 0))), some (.inl a1), some (.inl a2)]) (st' := [.inl a1, .inr (some (69, 0))]) (s' := μ) rfl ?_
              refine xr_ial (n := 6) rfl rfl (hi.2.2.2.2.2.1 c4 c5 c9 c10) ?_
              refine xr_go 1 (pc' := 72) (ls' := [some (.inr (some (36, 0))), some (.inl a1), some (.inl a2)]) (st' := [.inl (μ 69 0 ((a1).toNatClampNeg))]) (s' := μ) rfl ?_
              have ehj10 : ((if a2 = 1 then (μ 69 0 ((a1).toNatClampNeg)) else ((if a2 = 2 then (μ 70 0 ((a1).toNatClampNeg)) else (μ 72 0 ((a1).toNatClampNeg))) : Int32)) : Int32) = (μ 69 0 ((a1).toNatClampNeg)) := by first | rfl | simp only [if_pos c10]
              rw [ehj10] at hj10
              exact hj10
            · skip
              suffices hj11 : xr_t (tm_I L xs) (d + 1) 172 72 [some (.inr (some (36, 0))), some (.inl a1), some (.inl a2)] [.inl ((if a2 = 2 then (μ 70 0 ((a1).toNatClampNeg)) else (μ 72 0 ((a1).toNatClampNeg))) : Int32)] μ Q by
                refine xr_br 3 (c := a2 = 2) inferInstance (a := 57) (b := 66) (ls' := [some (.inr (some (36, 0))), some (.inl a1), some (.inl a2)]) (st' := []) (s' := μ) rfl (fun c11 => ?_) (fun c11 => ?_)
                · skip
                  refine xr_go 3 (pc' := 62) (ls' := [some (.inr (some (36, 0))), some (.inl a1), some (.inl a2)]) (st' := [.inl a1, .inr (some (70, 0))]) (s' := μ) rfl ?_
                  refine xr_ial (n := 6) rfl rfl (hi.2.2.2.2.2.2.1 c4 c5 c9 c10 c11) ?_
                  refine xr_go 1 (pc' := 72) (ls' := [some (.inr (some (36, 0))), some (.inl a1), some (.inl a2)]) (st' := [.inl (μ 70 0 ((a1).toNatClampNeg))]) (s' := μ) rfl ?_
                  have ehj11 : ((if a2 = 2 then (μ 70 0 ((a1).toNatClampNeg)) else (μ 72 0 ((a1).toNatClampNeg))) : Int32) = (μ 70 0 ((a1).toNatClampNeg)) := by first | rfl | simp only [if_pos c11]
                  rw [ehj11] at hj11
                  exact hj11
                · skip
                  refine xr_go 3 (pc' := 71) (ls' := [some (.inr (some (36, 0))), some (.inl a1), some (.inl a2)]) (st' := [.inl a1, .inr (some (72, 0))]) (s' := μ) rfl ?_
                  refine xr_ial (n := 6) rfl rfl (hi.2.2.2.2.2.2.2 c4 c5 c9 c10 c11) ?_
                  have ehj11 : ((if a2 = 2 then (μ 70 0 ((a1).toNatClampNeg)) else (μ 72 0 ((a1).toNatClampNeg))) : Int32) = (μ 72 0 ((a1).toNatClampNeg)) := by first | rfl | simp only [if_neg c11]
                  rw [ehj11] at hj11
                  exact hj11
              have ehj10 : ((if a2 = 1 then (μ 69 0 ((a1).toNatClampNeg)) else ((if a2 = 2 then (μ 70 0 ((a1).toNatClampNeg)) else (μ 72 0 ((a1).toNatClampNeg))) : Int32)) : Int32) = ((if a2 = 2 then (μ 70 0 ((a1).toNatClampNeg)) else (μ 72 0 ((a1).toNatClampNeg))) : Int32) := by first | rfl | simp only [if_neg c10]
              rw [ehj10] at hj10
              exact hj10
          have ehj9 : ((if a2 = 0 then (μ 68 0 ((a1).toNatClampNeg)) else ((if a2 = 1 then (μ 69 0 ((a1).toNatClampNeg)) else ((if a2 = 2 then (μ 70 0 ((a1).toNatClampNeg)) else (μ 72 0 ((a1).toNatClampNeg))) : Int32)) : Int32)) : Int32) = ((if a2 = 1 then (μ 69 0 ((a1).toNatClampNeg)) else ((if a2 = 2 then (μ 70 0 ((a1).toNatClampNeg)) else (μ 72 0 ((a1).toNatClampNeg))) : Int32)) : Int32) := by first | rfl | simp only [if_neg c9]
          rw [ehj9] at hj9
          exact hj9
      try simp only [if_neg c4, if_neg c5] at h
      exact xr_rt (v := some (.inl ((if a2 = 0 then (μ 68 0 ((a1).toNatClampNeg)) else ((if a2 = 1 then (μ 69 0 ((a1).toNatClampNeg)) else ((if a2 = 2 then (μ 70 0 ((a1).toNatClampNeg)) else (μ 72 0 ((a1).toNatClampNeg))) : Int32)) : Int32)) : Int32))) rfl h
-- BootNetModel.image(II)I
def cv_173 (a1 : Int32) (a2 : Int32) (μ : tm_M) : Int32 := ((if (cv_122 a1 μ) = 0 then (-1) else ((if a2 < 0 then (-1) else ((if a2 < (μ 81 0 ((a1).toNatClampNeg)) then (μ 83 0 ((((240 * a1) + a2) : Int32).toNatClampNeg)) else (-1)) : Int32)) : Int32)) : Int32)
def ci_173 (a1 : Int32) (a2 : Int32) (μ : tm_M) : Prop := ((¬ ((cv_122 a1 μ) = 0)) → (¬ (a2 < 0)) → tm_ix a1 6 = true) ∧ ((¬ ((cv_122 a1 μ) = 0)) → (¬ (a2 < 0)) → (a2 < (μ 81 0 ((a1).toNatClampNeg))) → tm_ix ((240 * a1) + a2) 1440 = true)
set_option maxHeartbeats 4000000 in
set_option maxRecDepth 10000 in
theorem tf_173 {a1 : Int32} {a2 : Int32} (hi : ci_173 a1 a2 μ) (h : Q (some (.inl (cv_173 a1 a2 μ))) μ) : xm_MW (tm_I L xs) (d + 2) 173 [.inr (some (36, 0)), .inl a1, .inl a2] μ Q := by
  refine xr_in2 [some (.inr (some (36, 0))), some (.inl a1), some (.inl a2)] rfl rfl ?_
  unfold cv_173 at h
  unfold ci_173 at hi
  refine xr_go 2 (pc' := 2) (ls' := [some (.inr (some (36, 0))), some (.inl a1), some (.inl a2)]) (st' := [.inl a1, .inr (some (36, 0))]) (s' := μ) rfl ?_
  refine xr_cl (y' := 122) (as := [.inr (some (36, 0)), .inl a1]) (r := []) rfl rfl ?_
  refine tf_122 (d := d + 0) (μ := μ) (a1 := a1) ?_
  show xr_t (tm_I L xs) (d + 1) 173 5 [some (.inr (some (36, 0))), some (.inl a1), some (.inl a2)] [.inl (cv_122 a1 μ)] μ Q
  have z1 : (cv_122 a1 μ) = 0 ∨ (cv_122 a1 μ) = 1 := cz_122
  generalize gv1 : (cv_122 a1 μ) = v1 at h hi z1 ⊢
  suffices hj1 : xr_t (tm_I L xs) (d + 1) 173 38 [some (.inr (some (36, 0))), some (.inl a1), some (.inl a2)] [.inl ((if v1 = 0 then (-1) else ((if a2 < 0 then (-1) else ((if a2 < (μ 81 0 ((a1).toNatClampNeg)) then (μ 83 0 ((((240 * a1) + a2) : Int32).toNatClampNeg)) else (-1)) : Int32)) : Int32)) : Int32)] μ Q by
    refine xr_br 1 (c := v1 = 0) inferInstance (a := 22) (b := 8) (ls' := [some (.inr (some (36, 0))), some (.inl a1), some (.inl a2)]) (st' := []) (s' := μ) rfl (fun c1 => ?_) (fun c1 => ?_)
    · skip
      refine xr_go 2 (pc' := 38) (ls' := [some (.inr (some (36, 0))), some (.inl a1), some (.inl a2)]) (st' := [.inl (-1)]) (s' := μ) rfl ?_
      have ehj1 : ((if v1 = 0 then (-1) else ((if a2 < 0 then (-1) else ((if a2 < (μ 81 0 ((a1).toNatClampNeg)) then (μ 83 0 ((((240 * a1) + a2) : Int32).toNatClampNeg)) else (-1)) : Int32)) : Int32)) : Int32) = (-1) := by first | rfl | simp only [if_pos c1]
      rw [ehj1] at hj1
      exact hj1
    · skip
      suffices hj2 : xr_t (tm_I L xs) (d + 1) 173 38 [some (.inr (some (36, 0))), some (.inl a1), some (.inl a2)] [.inl ((if a2 < 0 then (-1) else ((if a2 < (μ 81 0 ((a1).toNatClampNeg)) then (μ 83 0 ((((240 * a1) + a2) : Int32).toNatClampNeg)) else (-1)) : Int32)) : Int32)] μ Q by
        refine xr_br 2 (c := a2 < 0) inferInstance (a := 22) (b := 12) (ls' := [some (.inr (some (36, 0))), some (.inl a1), some (.inl a2)]) (st' := []) (s' := μ) rfl (fun c2 => ?_) (fun c2 => ?_)
        · skip
          refine xr_go 2 (pc' := 38) (ls' := [some (.inr (some (36, 0))), some (.inl a1), some (.inl a2)]) (st' := [.inl (-1)]) (s' := μ) rfl ?_
          have ehj2 : ((if a2 < 0 then (-1) else ((if a2 < (μ 81 0 ((a1).toNatClampNeg)) then (μ 83 0 ((((240 * a1) + a2) : Int32).toNatClampNeg)) else (-1)) : Int32)) : Int32) = (-1) := by first | rfl | simp only [if_pos c2]
          rw [ehj2] at hj2
          exact hj2
        · skip
          refine xr_go 4 (pc' := 18) (ls' := [some (.inr (some (36, 0))), some (.inl a1), some (.inl a2)]) (st' := [.inl a1, .inr (some (81, 0)), .inl a2]) (s' := μ) rfl ?_
          refine xr_ial (n := 6) rfl rfl (hi.1 c1 c2) ?_
          suffices hj3 : xr_t (tm_I L xs) (d + 1) 173 38 [some (.inr (some (36, 0))), some (.inl a1), some (.inl a2)] [.inl ((if a2 < (μ 81 0 ((a1).toNatClampNeg)) then (μ 83 0 ((((240 * a1) + a2) : Int32).toNatClampNeg)) else (-1)) : Int32)] μ Q by
            refine xr_br 1 (c := a2 < (μ 81 0 ((a1).toNatClampNeg))) inferInstance (a := 26) (b := 22) (ls' := [some (.inr (some (36, 0))), some (.inl a1), some (.inl a2)]) (st' := []) (s' := μ) rfl (fun c3 => ?_) (fun c3 => ?_)
            · skip
              refine xr_go 7 (pc' := 37) (ls' := [some (.inr (some (36, 0))), some (.inl a1), some (.inl a2)]) (st' := [.inl ((240 * a1) + a2), .inr (some (83, 0))]) (s' := μ) rfl ?_
              refine xr_ial (n := 1440) rfl rfl (hi.2 c1 c2 c3) ?_
              have ehj3 : ((if a2 < (μ 81 0 ((a1).toNatClampNeg)) then (μ 83 0 ((((240 * a1) + a2) : Int32).toNatClampNeg)) else (-1)) : Int32) = (μ 83 0 ((((240 * a1) + a2) : Int32).toNatClampNeg)) := by first | rfl | simp only [if_pos c3]
              rw [ehj3] at hj3
              exact hj3
            · skip
              refine xr_go 2 (pc' := 38) (ls' := [some (.inr (some (36, 0))), some (.inl a1), some (.inl a2)]) (st' := [.inl (-1)]) (s' := μ) rfl ?_
              have ehj3 : ((if a2 < (μ 81 0 ((a1).toNatClampNeg)) then (μ 83 0 ((((240 * a1) + a2) : Int32).toNatClampNeg)) else (-1)) : Int32) = (-1) := by first | rfl | simp only [if_neg c3]
              rw [ehj3] at hj3
              exact hj3
          have ehj2 : ((if a2 < 0 then (-1) else ((if a2 < (μ 81 0 ((a1).toNatClampNeg)) then (μ 83 0 ((((240 * a1) + a2) : Int32).toNatClampNeg)) else (-1)) : Int32)) : Int32) = ((if a2 < (μ 81 0 ((a1).toNatClampNeg)) then (μ 83 0 ((((240 * a1) + a2) : Int32).toNatClampNeg)) else (-1)) : Int32) := by first | rfl | simp only [if_neg c2]
          rw [ehj2] at hj2
          exact hj2
      have ehj1 : ((if v1 = 0 then (-1) else ((if a2 < 0 then (-1) else ((if a2 < (μ 81 0 ((a1).toNatClampNeg)) then (μ 83 0 ((((240 * a1) + a2) : Int32).toNatClampNeg)) else (-1)) : Int32)) : Int32)) : Int32) = ((if a2 < 0 then (-1) else ((if a2 < (μ 81 0 ((a1).toNatClampNeg)) then (μ 83 0 ((((240 * a1) + a2) : Int32).toNatClampNeg)) else (-1)) : Int32)) : Int32) := by first | rfl | simp only [if_neg c1]
      rw [ehj1] at hj1
      exact hj1
  exact xr_rt (v := some (.inl ((if v1 = 0 then (-1) else ((if a2 < 0 then (-1) else ((if a2 < (μ 81 0 ((a1).toNatClampNeg)) then (μ 83 0 ((((240 * a1) + a2) : Int32).toNatClampNeg)) else (-1)) : Int32)) : Int32)) : Int32))) rfl h
end TF
