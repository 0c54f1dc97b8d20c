/-! The first typed memory. Written by prog/gen_mem.py. -/
def mu1 (a1 a2 a3 : Int32) : tm_M := fun k i p =>
  if k = 1 then (if p = 0 then ((if (8 : Int32) < ((if a1 < 60 then a1 else 60) : Int32) then ((if a1 < 60 then a1 else 60) : Int32) else 8) : Int32) else if p = 1 then ((if (1 : Int32) < ((if a2 < 5 then a2 else 5) : Int32) then ((if a2 < 5 then a2 else 5) : Int32) else 1) : Int32) else if p = 2 then ((if (4 : Int32) < ((if a3 < 12 then a3 else 12) : Int32) then ((if a3 < 12 then a3 else 12) : Int32) else 4) : Int32) else 0)
  else if k = 3 then (if p < 32 then Int32.ofNat (p + 2) else 0)
  else if k = 10 then cn_fl 30 p
  else if k = 33 then (if p = 0 then Int32.ofNat i else 0)
  else if k = 34 then (if p = 0 then Int32.ofNat i else 0)
  else if k = 36 then (if p = 0 then cn_k a1 8 60 else if p = 1 then cn_k a2 1 5 else if p = 2 then cn_k a3 4 12 else 0)
  else 0
section XN
variable {D : va_G} {base b0 : Nat} {tys : List (ClassId × FieldType)} {a1 a2 a3 : Int32} {H : Heap}
theorem xs_at (j k i : Nat) (q : ml_C) (h1 : (mh_c153 a1 a2 a3)[j]? = some q) (h3 : ml_E base b0 tys q = tm_E base b0 tys (mu1 a1 a2 a3) k i) (hP : va_P D xt_cs (ml_wl base b0 tys (mh_c153 a1 a2 a3)) H) : va_at D xt_cs (base + j, tm_E base b0 tys (mu1 a1 a2 a3) k i) H := by
  have := hP j (base + j, ml_E base b0 tys q) (by unfold ml_wl; rw [List.getElem?_mapIdx, h1]; rfl)
  rw [h3] at this
  exact this
theorem xs_aq (j k i : Nat) (q : ml_C) (cA n : Nat) (f g : Nat → Option Nat) (h1 : (mh_c153 a1 a2 a3)[j]? = some q) (h3 : ml_E base b0 tys q = .inl (cA, n, .inr (.inr (.inr (.inr f))))) (h4 : tm_E base b0 tys (mu1 a1 a2 a3) k i = .inl (cA, n, .inr (.inr (.inr (.inr g))))) (hfg : ∀ j, j < n → f j = g j) (hP : va_P D xt_cs (ml_wl base b0 tys (mh_c153 a1 a2 a3)) H) : va_at D xt_cs (base + j, tm_E base b0 tys (mu1 a1 a2 a3) k i) H := by
  have := hP j (base + j, ml_E base b0 tys q) (by unfold ml_wl; rw [List.getElem?_mapIdx, h1]; rfl)
  rw [h3] at this
  rw [h4]
  have e : vp_cell cA (n, .inr (.inr (.inr (.inr f)))) = vp_cell cA (n, .inr (.inr (.inr (.inr g)))) := by
    rw [vp_cell_q, vp_cell_q]
    unfold arrV
    congr 2
    funext j
    show va_rf (f j.val) = va_rf (g j.val)
    rw [hfg j.val j.isLt]
  exact this.trans (congrArg some e)
theorem xs_sl : ∀ j, j < 32 → cn_sl 32 j = some (8 + 2 * j) ∧ (Int32.ofNat (j + 2)).toNatClampNeg = j + 2 ∧ tk_of 4 (j + 2) = 8 + 2 * j := by decide +kernel
theorem xs_st : ∀ j, j < 6 → cn_st 6 j = some (107 + 3 * j) ∧ tk_of 33 j = 107 + 3 * j := by decide +kernel
theorem xs_tr : ∀ j, j < 6 → cn_tr 6 j = some (100 + j) ∧ tk_of 21 j = 100 + j := by decide +kernel
theorem xs_rw : ∀ j, j < 4 → tk_of 14 j = 80 + j := by decide +kernel
theorem xs_ad {r : Nat} (h : r < 1000) : ml_ad base b0 r = base + r := if_neg (by omega)
theorem xs_td {k i : Nat} (h : k ≠ 99) : tm_ad base b0 (k, i) = base + tk_of k i := if_neg h
set_option maxRecDepth 100000 in
theorem xs_p0 (hP : va_P D xt_cs (ml_wl base b0 tys (mh_c153 a1 a2 a3)) H) : va_at D xt_cs (base + 0, tm_E base b0 tys (mu1 a1 a2 a3) 0 0) H := xs_at 0 0 0 _ rfl rfl hP
set_option maxRecDepth 100000 in
theorem xs_p1 (hP : va_P D xt_cs (ml_wl base b0 tys (mh_c153 a1 a2 a3)) H) : va_at D xt_cs (base + 1, tm_E base b0 tys (mu1 a1 a2 a3) 1 0) H := xs_at 1 1 0 _ rfl rfl hP
set_option maxRecDepth 100000 in
theorem xs_p2 (hP : va_P D xt_cs (ml_wl base b0 tys (mh_c153 a1 a2 a3)) H) : va_at D xt_cs (base + 2, tm_E base b0 tys (mu1 a1 a2 a3) 2 0) H := xs_at 2 2 0 _ rfl rfl hP
set_option maxRecDepth 100000 in
theorem xs_p3 (hP : va_P D xt_cs (ml_wl base b0 tys (mh_c153 a1 a2 a3)) H) : va_at D xt_cs (base + 3, tm_E base b0 tys (mu1 a1 a2 a3) 3 0) H := by
  refine xs_aq 3 3 0 _ _ 32 (fun j => (cn_sl 32 j).map (ml_ad base b0)) _ rfl rfl rfl ?_ hP
  intro j hj
  obtain ⟨h1, h2, h3⟩ := xs_sl j hj
  show (cn_sl 32 j).map (ml_ad base b0) = some (tm_ad base b0 (4, (if j < 32 then Int32.ofNat (j + 2) else 0 : Int32).toNatClampNeg))
  rw [h1, if_pos hj, h2, xs_td (by decide), h3, Option.map_some, xs_ad (by omega)]
set_option maxRecDepth 100000 in
theorem xs_p4 (hP : va_P D xt_cs (ml_wl base b0 tys (mh_c153 a1 a2 a3)) H) : va_at D xt_cs (base + 4, tm_E base b0 tys (mu1 a1 a2 a3) 4 0) H := xs_at 4 4 0 _ rfl rfl hP
set_option maxRecDepth 100000 in
theorem xs_p5 (hP : va_P D xt_cs (ml_wl base b0 tys (mh_c153 a1 a2 a3)) H) : va_at D xt_cs (base + 5, tm_E base b0 tys (mu1 a1 a2 a3) 5 0) H := xs_at 5 5 0 _ rfl rfl hP
set_option maxRecDepth 100000 in
theorem xs_p6 (hP : va_P D xt_cs (ml_wl base b0 tys (mh_c153 a1 a2 a3)) H) : va_at D xt_cs (base + 6, tm_E base b0 tys (mu1 a1 a2 a3) 4 1) H := xs_at 6 4 1 _ rfl rfl hP
set_option maxRecDepth 100000 in
theorem xs_p7 (hP : va_P D xt_cs (ml_wl base b0 tys (mh_c153 a1 a2 a3)) H) : va_at D xt_cs (base + 7, tm_E base b0 tys (mu1 a1 a2 a3) 5 1) H := xs_at 7 5 1 _ rfl rfl hP
set_option maxRecDepth 100000 in
theorem xs_p8 (hP : va_P D xt_cs (ml_wl base b0 tys (mh_c153 a1 a2 a3)) H) : va_at D xt_cs (base + 8, tm_E base b0 tys (mu1 a1 a2 a3) 4 2) H := xs_at 8 4 2 _ rfl rfl hP
set_option maxRecDepth 100000 in
theorem xs_p9 (hP : va_P D xt_cs (ml_wl base b0 tys (mh_c153 a1 a2 a3)) H) : va_at D xt_cs (base + 9, tm_E base b0 tys (mu1 a1 a2 a3) 5 2) H := xs_at 9 5 2 _ rfl rfl hP
set_option maxRecDepth 100000 in
theorem xs_p10 (hP : va_P D xt_cs (ml_wl base b0 tys (mh_c153 a1 a2 a3)) H) : va_at D xt_cs (base + 10, tm_E base b0 tys (mu1 a1 a2 a3) 4 3) H := xs_at 10 4 3 _ rfl rfl hP
set_option maxRecDepth 100000 in
theorem xs_p11 (hP : va_P D xt_cs (ml_wl base b0 tys (mh_c153 a1 a2 a3)) H) : va_at D xt_cs (base + 11, tm_E base b0 tys (mu1 a1 a2 a3) 5 3) H := xs_at 11 5 3 _ rfl rfl hP
set_option maxRecDepth 100000 in
theorem xs_p12 (hP : va_P D xt_cs (ml_wl base b0 tys (mh_c153 a1 a2 a3)) H) : va_at D xt_cs (base + 12, tm_E base b0 tys (mu1 a1 a2 a3) 4 4) H := xs_at 12 4 4 _ rfl rfl hP
set_option maxRecDepth 100000 in
theorem xs_p13 (hP : va_P D xt_cs (ml_wl base b0 tys (mh_c153 a1 a2 a3)) H) : va_at D xt_cs (base + 13, tm_E base b0 tys (mu1 a1 a2 a3) 5 4) H := xs_at 13 5 4 _ rfl rfl hP
set_option maxRecDepth 100000 in
theorem xs_p14 (hP : va_P D xt_cs (ml_wl base b0 tys (mh_c153 a1 a2 a3)) H) : va_at D xt_cs (base + 14, tm_E base b0 tys (mu1 a1 a2 a3) 4 5) H := xs_at 14 4 5 _ rfl rfl hP
set_option maxRecDepth 100000 in
theorem xs_p15 (hP : va_P D xt_cs (ml_wl base b0 tys (mh_c153 a1 a2 a3)) H) : va_at D xt_cs (base + 15, tm_E base b0 tys (mu1 a1 a2 a3) 5 5) H := xs_at 15 5 5 _ rfl rfl hP
set_option maxRecDepth 100000 in
theorem xs_p16 (hP : va_P D xt_cs (ml_wl base b0 tys (mh_c153 a1 a2 a3)) H) : va_at D xt_cs (base + 16, tm_E base b0 tys (mu1 a1 a2 a3) 4 6) H := xs_at 16 4 6 _ rfl rfl hP
set_option maxRecDepth 100000 in
theorem xs_p17 (hP : va_P D xt_cs (ml_wl base b0 tys (mh_c153 a1 a2 a3)) H) : va_at D xt_cs (base + 17, tm_E base b0 tys (mu1 a1 a2 a3) 5 6) H := xs_at 17 5 6 _ rfl rfl hP
set_option maxRecDepth 100000 in
theorem xs_p18 (hP : va_P D xt_cs (ml_wl base b0 tys (mh_c153 a1 a2 a3)) H) : va_at D xt_cs (base + 18, tm_E base b0 tys (mu1 a1 a2 a3) 4 7) H := xs_at 18 4 7 _ rfl rfl hP
set_option maxRecDepth 100000 in
theorem xs_p19 (hP : va_P D xt_cs (ml_wl base b0 tys (mh_c153 a1 a2 a3)) H) : va_at D xt_cs (base + 19, tm_E base b0 tys (mu1 a1 a2 a3) 5 7) H := xs_at 19 5 7 _ rfl rfl hP
set_option maxRecDepth 100000 in
theorem xs_p20 (hP : va_P D xt_cs (ml_wl base b0 tys (mh_c153 a1 a2 a3)) H) : va_at D xt_cs (base + 20, tm_E base b0 tys (mu1 a1 a2 a3) 4 8) H := xs_at 20 4 8 _ rfl rfl hP
set_option maxRecDepth 100000 in
theorem xs_p21 (hP : va_P D xt_cs (ml_wl base b0 tys (mh_c153 a1 a2 a3)) H) : va_at D xt_cs (base + 21, tm_E base b0 tys (mu1 a1 a2 a3) 5 8) H := xs_at 21 5 8 _ rfl rfl hP
set_option maxRecDepth 100000 in
theorem xs_p22 (hP : va_P D xt_cs (ml_wl base b0 tys (mh_c153 a1 a2 a3)) H) : va_at D xt_cs (base + 22, tm_E base b0 tys (mu1 a1 a2 a3) 4 9) H := xs_at 22 4 9 _ rfl rfl hP
set_option maxRecDepth 100000 in
theorem xs_p23 (hP : va_P D xt_cs (ml_wl base b0 tys (mh_c153 a1 a2 a3)) H) : va_at D xt_cs (base + 23, tm_E base b0 tys (mu1 a1 a2 a3) 5 9) H := xs_at 23 5 9 _ rfl rfl hP
set_option maxRecDepth 100000 in
theorem xs_p24 (hP : va_P D xt_cs (ml_wl base b0 tys (mh_c153 a1 a2 a3)) H) : va_at D xt_cs (base + 24, tm_E base b0 tys (mu1 a1 a2 a3) 4 10) H := xs_at 24 4 10 _ rfl rfl hP
set_option maxRecDepth 100000 in
theorem xs_p25 (hP : va_P D xt_cs (ml_wl base b0 tys (mh_c153 a1 a2 a3)) H) : va_at D xt_cs (base + 25, tm_E base b0 tys (mu1 a1 a2 a3) 5 10) H := xs_at 25 5 10 _ rfl rfl hP
set_option maxRecDepth 100000 in
theorem xs_p26 (hP : va_P D xt_cs (ml_wl base b0 tys (mh_c153 a1 a2 a3)) H) : va_at D xt_cs (base + 26, tm_E base b0 tys (mu1 a1 a2 a3) 4 11) H := xs_at 26 4 11 _ rfl rfl hP
set_option maxRecDepth 100000 in
theorem xs_p27 (hP : va_P D xt_cs (ml_wl base b0 tys (mh_c153 a1 a2 a3)) H) : va_at D xt_cs (base + 27, tm_E base b0 tys (mu1 a1 a2 a3) 5 11) H := xs_at 27 5 11 _ rfl rfl hP
set_option maxRecDepth 100000 in
theorem xs_p28 (hP : va_P D xt_cs (ml_wl base b0 tys (mh_c153 a1 a2 a3)) H) : va_at D xt_cs (base + 28, tm_E base b0 tys (mu1 a1 a2 a3) 4 12) H := xs_at 28 4 12 _ rfl rfl hP
set_option maxRecDepth 100000 in
theorem xs_p29 (hP : va_P D xt_cs (ml_wl base b0 tys (mh_c153 a1 a2 a3)) H) : va_at D xt_cs (base + 29, tm_E base b0 tys (mu1 a1 a2 a3) 5 12) H := xs_at 29 5 12 _ rfl rfl hP
set_option maxRecDepth 100000 in
theorem xs_p30 (hP : va_P D xt_cs (ml_wl base b0 tys (mh_c153 a1 a2 a3)) H) : va_at D xt_cs (base + 30, tm_E base b0 tys (mu1 a1 a2 a3) 4 13) H := xs_at 30 4 13 _ rfl rfl hP
set_option maxRecDepth 100000 in
theorem xs_p31 (hP : va_P D xt_cs (ml_wl base b0 tys (mh_c153 a1 a2 a3)) H) : va_at D xt_cs (base + 31, tm_E base b0 tys (mu1 a1 a2 a3) 5 13) H := xs_at 31 5 13 _ rfl rfl hP
set_option maxRecDepth 100000 in
theorem xs_p32 (hP : va_P D xt_cs (ml_wl base b0 tys (mh_c153 a1 a2 a3)) H) : va_at D xt_cs (base + 32, tm_E base b0 tys (mu1 a1 a2 a3) 4 14) H := xs_at 32 4 14 _ rfl rfl hP
set_option maxRecDepth 100000 in
theorem xs_p33 (hP : va_P D xt_cs (ml_wl base b0 tys (mh_c153 a1 a2 a3)) H) : va_at D xt_cs (base + 33, tm_E base b0 tys (mu1 a1 a2 a3) 5 14) H := xs_at 33 5 14 _ rfl rfl hP
set_option maxRecDepth 100000 in
theorem xs_p34 (hP : va_P D xt_cs (ml_wl base b0 tys (mh_c153 a1 a2 a3)) H) : va_at D xt_cs (base + 34, tm_E base b0 tys (mu1 a1 a2 a3) 4 15) H := xs_at 34 4 15 _ rfl rfl hP
set_option maxRecDepth 100000 in
theorem xs_p35 (hP : va_P D xt_cs (ml_wl base b0 tys (mh_c153 a1 a2 a3)) H) : va_at D xt_cs (base + 35, tm_E base b0 tys (mu1 a1 a2 a3) 5 15) H := xs_at 35 5 15 _ rfl rfl hP
set_option maxRecDepth 100000 in
theorem xs_p36 (hP : va_P D xt_cs (ml_wl base b0 tys (mh_c153 a1 a2 a3)) H) : va_at D xt_cs (base + 36, tm_E base b0 tys (mu1 a1 a2 a3) 4 16) H := xs_at 36 4 16 _ rfl rfl hP
set_option maxRecDepth 100000 in
theorem xs_p37 (hP : va_P D xt_cs (ml_wl base b0 tys (mh_c153 a1 a2 a3)) H) : va_at D xt_cs (base + 37, tm_E base b0 tys (mu1 a1 a2 a3) 5 16) H := xs_at 37 5 16 _ rfl rfl hP
set_option maxRecDepth 100000 in
theorem xs_p38 (hP : va_P D xt_cs (ml_wl base b0 tys (mh_c153 a1 a2 a3)) H) : va_at D xt_cs (base + 38, tm_E base b0 tys (mu1 a1 a2 a3) 4 17) H := xs_at 38 4 17 _ rfl rfl hP
set_option maxRecDepth 100000 in
theorem xs_p39 (hP : va_P D xt_cs (ml_wl base b0 tys (mh_c153 a1 a2 a3)) H) : va_at D xt_cs (base + 39, tm_E base b0 tys (mu1 a1 a2 a3) 5 17) H := xs_at 39 5 17 _ rfl rfl hP
set_option maxRecDepth 100000 in
theorem xs_p40 (hP : va_P D xt_cs (ml_wl base b0 tys (mh_c153 a1 a2 a3)) H) : va_at D xt_cs (base + 40, tm_E base b0 tys (mu1 a1 a2 a3) 4 18) H := xs_at 40 4 18 _ rfl rfl hP
set_option maxRecDepth 100000 in
theorem xs_p41 (hP : va_P D xt_cs (ml_wl base b0 tys (mh_c153 a1 a2 a3)) H) : va_at D xt_cs (base + 41, tm_E base b0 tys (mu1 a1 a2 a3) 5 18) H := xs_at 41 5 18 _ rfl rfl hP
set_option maxRecDepth 100000 in
theorem xs_p42 (hP : va_P D xt_cs (ml_wl base b0 tys (mh_c153 a1 a2 a3)) H) : va_at D xt_cs (base + 42, tm_E base b0 tys (mu1 a1 a2 a3) 4 19) H := xs_at 42 4 19 _ rfl rfl hP
set_option maxRecDepth 100000 in
theorem xs_p43 (hP : va_P D xt_cs (ml_wl base b0 tys (mh_c153 a1 a2 a3)) H) : va_at D xt_cs (base + 43, tm_E base b0 tys (mu1 a1 a2 a3) 5 19) H := xs_at 43 5 19 _ rfl rfl hP
set_option maxRecDepth 100000 in
theorem xs_p44 (hP : va_P D xt_cs (ml_wl base b0 tys (mh_c153 a1 a2 a3)) H) : va_at D xt_cs (base + 44, tm_E base b0 tys (mu1 a1 a2 a3) 4 20) H := xs_at 44 4 20 _ rfl rfl hP
set_option maxRecDepth 100000 in
theorem xs_p45 (hP : va_P D xt_cs (ml_wl base b0 tys (mh_c153 a1 a2 a3)) H) : va_at D xt_cs (base + 45, tm_E base b0 tys (mu1 a1 a2 a3) 5 20) H := xs_at 45 5 20 _ rfl rfl hP
set_option maxRecDepth 100000 in
theorem xs_p46 (hP : va_P D xt_cs (ml_wl base b0 tys (mh_c153 a1 a2 a3)) H) : va_at D xt_cs (base + 46, tm_E base b0 tys (mu1 a1 a2 a3) 4 21) H := xs_at 46 4 21 _ rfl rfl hP
set_option maxRecDepth 100000 in
theorem xs_p47 (hP : va_P D xt_cs (ml_wl base b0 tys (mh_c153 a1 a2 a3)) H) : va_at D xt_cs (base + 47, tm_E base b0 tys (mu1 a1 a2 a3) 5 21) H := xs_at 47 5 21 _ rfl rfl hP
set_option maxRecDepth 100000 in
theorem xs_p48 (hP : va_P D xt_cs (ml_wl base b0 tys (mh_c153 a1 a2 a3)) H) : va_at D xt_cs (base + 48, tm_E base b0 tys (mu1 a1 a2 a3) 4 22) H := xs_at 48 4 22 _ rfl rfl hP
set_option maxRecDepth 100000 in
theorem xs_p49 (hP : va_P D xt_cs (ml_wl base b0 tys (mh_c153 a1 a2 a3)) H) : va_at D xt_cs (base + 49, tm_E base b0 tys (mu1 a1 a2 a3) 5 22) H := xs_at 49 5 22 _ rfl rfl hP
set_option maxRecDepth 100000 in
theorem xs_p50 (hP : va_P D xt_cs (ml_wl base b0 tys (mh_c153 a1 a2 a3)) H) : va_at D xt_cs (base + 50, tm_E base b0 tys (mu1 a1 a2 a3) 4 23) H := xs_at 50 4 23 _ rfl rfl hP
set_option maxRecDepth 100000 in
theorem xs_p51 (hP : va_P D xt_cs (ml_wl base b0 tys (mh_c153 a1 a2 a3)) H) : va_at D xt_cs (base + 51, tm_E base b0 tys (mu1 a1 a2 a3) 5 23) H := xs_at 51 5 23 _ rfl rfl hP
set_option maxRecDepth 100000 in
theorem xs_p52 (hP : va_P D xt_cs (ml_wl base b0 tys (mh_c153 a1 a2 a3)) H) : va_at D xt_cs (base + 52, tm_E base b0 tys (mu1 a1 a2 a3) 4 24) H := xs_at 52 4 24 _ rfl rfl hP
set_option maxRecDepth 100000 in
theorem xs_p53 (hP : va_P D xt_cs (ml_wl base b0 tys (mh_c153 a1 a2 a3)) H) : va_at D xt_cs (base + 53, tm_E base b0 tys (mu1 a1 a2 a3) 5 24) H := xs_at 53 5 24 _ rfl rfl hP
set_option maxRecDepth 100000 in
theorem xs_p54 (hP : va_P D xt_cs (ml_wl base b0 tys (mh_c153 a1 a2 a3)) H) : va_at D xt_cs (base + 54, tm_E base b0 tys (mu1 a1 a2 a3) 4 25) H := xs_at 54 4 25 _ rfl rfl hP
set_option maxRecDepth 100000 in
theorem xs_p55 (hP : va_P D xt_cs (ml_wl base b0 tys (mh_c153 a1 a2 a3)) H) : va_at D xt_cs (base + 55, tm_E base b0 tys (mu1 a1 a2 a3) 5 25) H := xs_at 55 5 25 _ rfl rfl hP
set_option maxRecDepth 100000 in
theorem xs_p56 (hP : va_P D xt_cs (ml_wl base b0 tys (mh_c153 a1 a2 a3)) H) : va_at D xt_cs (base + 56, tm_E base b0 tys (mu1 a1 a2 a3) 4 26) H := xs_at 56 4 26 _ rfl rfl hP
set_option maxRecDepth 100000 in
theorem xs_p57 (hP : va_P D xt_cs (ml_wl base b0 tys (mh_c153 a1 a2 a3)) H) : va_at D xt_cs (base + 57, tm_E base b0 tys (mu1 a1 a2 a3) 5 26) H := xs_at 57 5 26 _ rfl rfl hP
set_option maxRecDepth 100000 in
theorem xs_p58 (hP : va_P D xt_cs (ml_wl base b0 tys (mh_c153 a1 a2 a3)) H) : va_at D xt_cs (base + 58, tm_E base b0 tys (mu1 a1 a2 a3) 4 27) H := xs_at 58 4 27 _ rfl rfl hP
set_option maxRecDepth 100000 in
theorem xs_p59 (hP : va_P D xt_cs (ml_wl base b0 tys (mh_c153 a1 a2 a3)) H) : va_at D xt_cs (base + 59, tm_E base b0 tys (mu1 a1 a2 a3) 5 27) H := xs_at 59 5 27 _ rfl rfl hP
set_option maxRecDepth 100000 in
theorem xs_p60 (hP : va_P D xt_cs (ml_wl base b0 tys (mh_c153 a1 a2 a3)) H) : va_at D xt_cs (base + 60, tm_E base b0 tys (mu1 a1 a2 a3) 4 28) H := xs_at 60 4 28 _ rfl rfl hP
set_option maxRecDepth 100000 in
theorem xs_p61 (hP : va_P D xt_cs (ml_wl base b0 tys (mh_c153 a1 a2 a3)) H) : va_at D xt_cs (base + 61, tm_E base b0 tys (mu1 a1 a2 a3) 5 28) H := xs_at 61 5 28 _ rfl rfl hP
set_option maxRecDepth 100000 in
theorem xs_p62 (hP : va_P D xt_cs (ml_wl base b0 tys (mh_c153 a1 a2 a3)) H) : va_at D xt_cs (base + 62, tm_E base b0 tys (mu1 a1 a2 a3) 4 29) H := xs_at 62 4 29 _ rfl rfl hP
set_option maxRecDepth 100000 in
theorem xs_p63 (hP : va_P D xt_cs (ml_wl base b0 tys (mh_c153 a1 a2 a3)) H) : va_at D xt_cs (base + 63, tm_E base b0 tys (mu1 a1 a2 a3) 5 29) H := xs_at 63 5 29 _ rfl rfl hP
set_option maxRecDepth 100000 in
theorem xs_p64 (hP : va_P D xt_cs (ml_wl base b0 tys (mh_c153 a1 a2 a3)) H) : va_at D xt_cs (base + 64, tm_E base b0 tys (mu1 a1 a2 a3) 4 30) H := xs_at 64 4 30 _ rfl rfl hP
set_option maxRecDepth 100000 in
theorem xs_p65 (hP : va_P D xt_cs (ml_wl base b0 tys (mh_c153 a1 a2 a3)) H) : va_at D xt_cs (base + 65, tm_E base b0 tys (mu1 a1 a2 a3) 5 30) H := xs_at 65 5 30 _ rfl rfl hP
set_option maxRecDepth 100000 in
theorem xs_p66 (hP : va_P D xt_cs (ml_wl base b0 tys (mh_c153 a1 a2 a3)) H) : va_at D xt_cs (base + 66, tm_E base b0 tys (mu1 a1 a2 a3) 4 31) H := xs_at 66 4 31 _ rfl rfl hP
set_option maxRecDepth 100000 in
theorem xs_p67 (hP : va_P D xt_cs (ml_wl base b0 tys (mh_c153 a1 a2 a3)) H) : va_at D xt_cs (base + 67, tm_E base b0 tys (mu1 a1 a2 a3) 5 31) H := xs_at 67 5 31 _ rfl rfl hP
set_option maxRecDepth 100000 in
theorem xs_p68 (hP : va_P D xt_cs (ml_wl base b0 tys (mh_c153 a1 a2 a3)) H) : va_at D xt_cs (base + 68, tm_E base b0 tys (mu1 a1 a2 a3) 4 32) H := xs_at 68 4 32 _ rfl rfl hP
set_option maxRecDepth 100000 in
theorem xs_p69 (hP : va_P D xt_cs (ml_wl base b0 tys (mh_c153 a1 a2 a3)) H) : va_at D xt_cs (base + 69, tm_E base b0 tys (mu1 a1 a2 a3) 5 32) H := xs_at 69 5 32 _ rfl rfl hP
set_option maxRecDepth 100000 in
theorem xs_p70 (hP : va_P D xt_cs (ml_wl base b0 tys (mh_c153 a1 a2 a3)) H) : va_at D xt_cs (base + 70, tm_E base b0 tys (mu1 a1 a2 a3) 4 33) H := xs_at 70 4 33 _ rfl rfl hP
set_option maxRecDepth 100000 in
theorem xs_p71 (hP : va_P D xt_cs (ml_wl base b0 tys (mh_c153 a1 a2 a3)) H) : va_at D xt_cs (base + 71, tm_E base b0 tys (mu1 a1 a2 a3) 5 33) H := xs_at 71 5 33 _ rfl rfl hP
set_option maxRecDepth 100000 in
theorem xs_p72 (hP : va_P D xt_cs (ml_wl base b0 tys (mh_c153 a1 a2 a3)) H) : va_at D xt_cs (base + 72, tm_E base b0 tys (mu1 a1 a2 a3) 6 0) H := xs_at 72 6 0 _ rfl rfl hP
set_option maxRecDepth 100000 in
theorem xs_p73 (hP : va_P D xt_cs (ml_wl base b0 tys (mh_c153 a1 a2 a3)) H) : va_at D xt_cs (base + 73, tm_E base b0 tys (mu1 a1 a2 a3) 7 0) H := xs_at 73 7 0 _ rfl rfl hP
set_option maxRecDepth 100000 in
theorem xs_p74 (hP : va_P D xt_cs (ml_wl base b0 tys (mh_c153 a1 a2 a3)) H) : va_at D xt_cs (base + 74, tm_E base b0 tys (mu1 a1 a2 a3) 8 0) H := xs_at 74 8 0 _ rfl rfl hP
set_option maxRecDepth 100000 in
theorem xs_p75 (hP : va_P D xt_cs (ml_wl base b0 tys (mh_c153 a1 a2 a3)) H) : va_at D xt_cs (base + 75, tm_E base b0 tys (mu1 a1 a2 a3) 9 0) H := xs_at 75 9 0 _ rfl rfl hP
set_option maxRecDepth 100000 in
theorem xs_p76 (hP : va_P D xt_cs (ml_wl base b0 tys (mh_c153 a1 a2 a3)) H) : va_at D xt_cs (base + 76, tm_E base b0 tys (mu1 a1 a2 a3) 10 0) H := xs_at 76 10 0 _ rfl rfl hP
set_option maxRecDepth 100000 in
theorem xs_p77 (hP : va_P D xt_cs (ml_wl base b0 tys (mh_c153 a1 a2 a3)) H) : va_at D xt_cs (base + 77, tm_E base b0 tys (mu1 a1 a2 a3) 11 0) H := xs_at 77 11 0 _ rfl rfl hP
set_option maxRecDepth 100000 in
theorem xs_p78 (hP : va_P D xt_cs (ml_wl base b0 tys (mh_c153 a1 a2 a3)) H) : va_at D xt_cs (base + 78, tm_E base b0 tys (mu1 a1 a2 a3) 12 0) H := xs_at 78 12 0 _ rfl rfl hP
set_option maxRecDepth 100000 in
theorem xs_p79 (hP : va_P D xt_cs (ml_wl base b0 tys (mh_c153 a1 a2 a3)) H) : va_at D xt_cs (base + 79, tm_E base b0 tys (mu1 a1 a2 a3) 13 0) H := by
  refine xs_aq 79 13 0 _ _ 4 (fun j => ((if j < 4 then some (79 + 1 + j) else none)).map (ml_ad base b0)) _ rfl rfl rfl ?_ hP
  intro j hj
  show (if j < 4 then some (79 + 1 + j) else none).map (ml_ad base b0) = some (tm_ad base b0 (14, j))
  rw [if_pos hj, xs_td (by decide), xs_rw j hj, Option.map_some, xs_ad (by omega)]
set_option maxRecDepth 100000 in
theorem xs_p80 (hP : va_P D xt_cs (ml_wl base b0 tys (mh_c153 a1 a2 a3)) H) : va_at D xt_cs (base + 80, tm_E base b0 tys (mu1 a1 a2 a3) 14 0) H := xs_at 80 14 0 _ rfl rfl hP
set_option maxRecDepth 100000 in
theorem xs_p81 (hP : va_P D xt_cs (ml_wl base b0 tys (mh_c153 a1 a2 a3)) H) : va_at D xt_cs (base + 81, tm_E base b0 tys (mu1 a1 a2 a3) 14 1) H := xs_at 81 14 1 _ rfl rfl hP
set_option maxRecDepth 100000 in
theorem xs_p82 (hP : va_P D xt_cs (ml_wl base b0 tys (mh_c153 a1 a2 a3)) H) : va_at D xt_cs (base + 82, tm_E base b0 tys (mu1 a1 a2 a3) 14 2) H := xs_at 82 14 2 _ rfl rfl hP
set_option maxRecDepth 100000 in
theorem xs_p83 (hP : va_P D xt_cs (ml_wl base b0 tys (mh_c153 a1 a2 a3)) H) : va_at D xt_cs (base + 83, tm_E base b0 tys (mu1 a1 a2 a3) 14 3) H := xs_at 83 14 3 _ rfl rfl hP
set_option maxRecDepth 100000 in
theorem xs_p84 (hP : va_P D xt_cs (ml_wl base b0 tys (mh_c153 a1 a2 a3)) H) : va_at D xt_cs (base + 84, tm_E base b0 tys (mu1 a1 a2 a3) 15 0) H := xs_at 84 15 0 _ rfl rfl hP
set_option maxRecDepth 100000 in
theorem xs_p85 (hP : va_P D xt_cs (ml_wl base b0 tys (mh_c153 a1 a2 a3)) H) : va_at D xt_cs (base + 85, tm_E base b0 tys (mu1 a1 a2 a3) 16 0) H := xs_at 85 16 0 _ rfl rfl hP
set_option maxRecDepth 100000 in
theorem xs_p86 (hP : va_P D xt_cs (ml_wl base b0 tys (mh_c153 a1 a2 a3)) H) : va_at D xt_cs (base + 86, tm_E base b0 tys (mu1 a1 a2 a3) 17 0) H := xs_at 86 17 0 _ rfl rfl hP
set_option maxRecDepth 100000 in
theorem xs_p87 (hP : va_P D xt_cs (ml_wl base b0 tys (mh_c153 a1 a2 a3)) H) : va_at D xt_cs (base + 87, tm_E base b0 tys (mu1 a1 a2 a3) 18 0) H := xs_at 87 18 0 _ rfl rfl hP
set_option maxRecDepth 100000 in
theorem xs_p88 (hP : va_P D xt_cs (ml_wl base b0 tys (mh_c153 a1 a2 a3)) H) : va_at D xt_cs (base + 88, tm_E base b0 tys (mu1 a1 a2 a3) 19 0) H := xs_at 88 19 0 _ rfl rfl hP
set_option maxRecDepth 100000 in
theorem xs_p89 (hP : va_P D xt_cs (ml_wl base b0 tys (mh_c153 a1 a2 a3)) H) : va_at D xt_cs (base + 89, tm_E base b0 tys (mu1 a1 a2 a3) 20 0) H := by
  refine xs_aq 89 20 0 _ _ 6 (fun j => (cn_tr 6 j).map (ml_ad base b0)) _ rfl rfl rfl ?_ hP
  intro j hj
  obtain ⟨h1, h2⟩ := xs_tr j hj
  show (cn_tr 6 j).map (ml_ad base b0) = some (tm_ad base b0 (21, j))
  rw [h1, xs_td (by decide), h2, Option.map_some, xs_ad (by omega)]
set_option maxRecDepth 100000 in
theorem xs_p90 (hP : va_P D xt_cs (ml_wl base b0 tys (mh_c153 a1 a2 a3)) H) : va_at D xt_cs (base + 90, tm_E base b0 tys (mu1 a1 a2 a3) 28 0) H := xs_at 90 28 0 _ rfl rfl hP
set_option maxRecDepth 100000 in
theorem xs_p91 (hP : va_P D xt_cs (ml_wl base b0 tys (mh_c153 a1 a2 a3)) H) : va_at D xt_cs (base + 91, tm_E base b0 tys (mu1 a1 a2 a3) 29 0) H := xs_at 91 29 0 _ rfl rfl hP
set_option maxRecDepth 100000 in
theorem xs_p92 (hP : va_P D xt_cs (ml_wl base b0 tys (mh_c153 a1 a2 a3)) H) : va_at D xt_cs (base + 92, tm_E base b0 tys (mu1 a1 a2 a3) 30 0) H := xs_at 92 30 0 _ rfl rfl hP
set_option maxRecDepth 100000 in
theorem xs_p93 (hP : va_P D xt_cs (ml_wl base b0 tys (mh_c153 a1 a2 a3)) H) : va_at D xt_cs (base + 93, tm_E base b0 tys (mu1 a1 a2 a3) 31 0) H := xs_at 93 31 0 _ rfl rfl hP
set_option maxRecDepth 100000 in
theorem xs_p94 (hP : va_P D xt_cs (ml_wl base b0 tys (mh_c153 a1 a2 a3)) H) : va_at D xt_cs (base + 94, tm_E base b0 tys (mu1 a1 a2 a3) 22 0) H := xs_at 94 22 0 _ rfl rfl hP
set_option maxRecDepth 100000 in
theorem xs_p95 (hP : va_P D xt_cs (ml_wl base b0 tys (mh_c153 a1 a2 a3)) H) : va_at D xt_cs (base + 95, tm_E base b0 tys (mu1 a1 a2 a3) 23 0) H := xs_at 95 23 0 _ rfl rfl hP
set_option maxRecDepth 100000 in
theorem xs_p96 (hP : va_P D xt_cs (ml_wl base b0 tys (mh_c153 a1 a2 a3)) H) : va_at D xt_cs (base + 96, tm_E base b0 tys (mu1 a1 a2 a3) 24 0) H := xs_at 96 24 0 _ rfl rfl hP
set_option maxRecDepth 100000 in
theorem xs_p97 (hP : va_P D xt_cs (ml_wl base b0 tys (mh_c153 a1 a2 a3)) H) : va_at D xt_cs (base + 97, tm_E base b0 tys (mu1 a1 a2 a3) 25 0) H := xs_at 97 25 0 _ rfl rfl hP
set_option maxRecDepth 100000 in
theorem xs_p98 (hP : va_P D xt_cs (ml_wl base b0 tys (mh_c153 a1 a2 a3)) H) : va_at D xt_cs (base + 98, tm_E base b0 tys (mu1 a1 a2 a3) 26 0) H := xs_at 98 26 0 _ rfl rfl hP
set_option maxRecDepth 100000 in
theorem xs_p99 (hP : va_P D xt_cs (ml_wl base b0 tys (mh_c153 a1 a2 a3)) H) : va_at D xt_cs (base + 99, tm_E base b0 tys (mu1 a1 a2 a3) 27 0) H := xs_at 99 27 0 _ rfl rfl hP
set_option maxRecDepth 100000 in
theorem xs_p100 (hP : va_P D xt_cs (ml_wl base b0 tys (mh_c153 a1 a2 a3)) H) : va_at D xt_cs (base + 100, tm_E base b0 tys (mu1 a1 a2 a3) 21 0) H := xs_at 100 21 0 _ rfl rfl hP
set_option maxRecDepth 100000 in
theorem xs_p101 (hP : va_P D xt_cs (ml_wl base b0 tys (mh_c153 a1 a2 a3)) H) : va_at D xt_cs (base + 101, tm_E base b0 tys (mu1 a1 a2 a3) 21 1) H := xs_at 101 21 1 _ rfl rfl hP
set_option maxRecDepth 100000 in
theorem xs_p102 (hP : va_P D xt_cs (ml_wl base b0 tys (mh_c153 a1 a2 a3)) H) : va_at D xt_cs (base + 102, tm_E base b0 tys (mu1 a1 a2 a3) 21 2) H := xs_at 102 21 2 _ rfl rfl hP
set_option maxRecDepth 100000 in
theorem xs_p103 (hP : va_P D xt_cs (ml_wl base b0 tys (mh_c153 a1 a2 a3)) H) : va_at D xt_cs (base + 103, tm_E base b0 tys (mu1 a1 a2 a3) 21 3) H := xs_at 103 21 3 _ rfl rfl hP
set_option maxRecDepth 100000 in
theorem xs_p104 (hP : va_P D xt_cs (ml_wl base b0 tys (mh_c153 a1 a2 a3)) H) : va_at D xt_cs (base + 104, tm_E base b0 tys (mu1 a1 a2 a3) 21 4) H := xs_at 104 21 4 _ rfl rfl hP
set_option maxRecDepth 100000 in
theorem xs_p105 (hP : va_P D xt_cs (ml_wl base b0 tys (mh_c153 a1 a2 a3)) H) : va_at D xt_cs (base + 105, tm_E base b0 tys (mu1 a1 a2 a3) 21 5) H := xs_at 105 21 5 _ rfl rfl hP
set_option maxRecDepth 100000 in
theorem xs_p106 (hP : va_P D xt_cs (ml_wl base b0 tys (mh_c153 a1 a2 a3)) H) : va_at D xt_cs (base + 106, tm_E base b0 tys (mu1 a1 a2 a3) 32 0) H := by
  refine xs_aq 106 32 0 _ _ 6 (fun j => (cn_st 6 j).map (ml_ad base b0)) _ rfl rfl rfl ?_ hP
  intro j hj
  obtain ⟨h1, h2⟩ := xs_st j hj
  show (cn_st 6 j).map (ml_ad base b0) = some (tm_ad base b0 (33, j))
  rw [h1, xs_td (by decide), h2, Option.map_some, xs_ad (by omega)]
set_option maxRecDepth 100000 in
theorem xs_p107 (hP : va_P D xt_cs (ml_wl base b0 tys (mh_c153 a1 a2 a3)) H) : va_at D xt_cs (base + 107, tm_E base b0 tys (mu1 a1 a2 a3) 33 0) H := xs_at 107 33 0 _ rfl rfl hP
set_option maxRecDepth 100000 in
theorem xs_p108 (hP : va_P D xt_cs (ml_wl base b0 tys (mh_c153 a1 a2 a3)) H) : va_at D xt_cs (base + 108, tm_E base b0 tys (mu1 a1 a2 a3) 34 0) H := xs_at 108 34 0 _ rfl rfl hP
set_option maxRecDepth 100000 in
theorem xs_p109 (hP : va_P D xt_cs (ml_wl base b0 tys (mh_c153 a1 a2 a3)) H) : va_at D xt_cs (base + 109, tm_E base b0 tys (mu1 a1 a2 a3) 35 0) H := xs_at 109 35 0 _ rfl rfl hP
set_option maxRecDepth 100000 in
theorem xs_p110 (hP : va_P D xt_cs (ml_wl base b0 tys (mh_c153 a1 a2 a3)) H) : va_at D xt_cs (base + 110, tm_E base b0 tys (mu1 a1 a2 a3) 33 1) H := xs_at 110 33 1 _ rfl rfl hP
set_option maxRecDepth 100000 in
theorem xs_p111 (hP : va_P D xt_cs (ml_wl base b0 tys (mh_c153 a1 a2 a3)) H) : va_at D xt_cs (base + 111, tm_E base b0 tys (mu1 a1 a2 a3) 34 1) H := xs_at 111 34 1 _ rfl rfl hP
set_option maxRecDepth 100000 in
theorem xs_p112 (hP : va_P D xt_cs (ml_wl base b0 tys (mh_c153 a1 a2 a3)) H) : va_at D xt_cs (base + 112, tm_E base b0 tys (mu1 a1 a2 a3) 35 1) H := xs_at 112 35 1 _ rfl rfl hP
set_option maxRecDepth 100000 in
theorem xs_p113 (hP : va_P D xt_cs (ml_wl base b0 tys (mh_c153 a1 a2 a3)) H) : va_at D xt_cs (base + 113, tm_E base b0 tys (mu1 a1 a2 a3) 33 2) H := xs_at 113 33 2 _ rfl rfl hP
set_option maxRecDepth 100000 in
theorem xs_p114 (hP : va_P D xt_cs (ml_wl base b0 tys (mh_c153 a1 a2 a3)) H) : va_at D xt_cs (base + 114, tm_E base b0 tys (mu1 a1 a2 a3) 34 2) H := xs_at 114 34 2 _ rfl rfl hP
set_option maxRecDepth 100000 in
theorem xs_p115 (hP : va_P D xt_cs (ml_wl base b0 tys (mh_c153 a1 a2 a3)) H) : va_at D xt_cs (base + 115, tm_E base b0 tys (mu1 a1 a2 a3) 35 2) H := xs_at 115 35 2 _ rfl rfl hP
set_option maxRecDepth 100000 in
theorem xs_p116 (hP : va_P D xt_cs (ml_wl base b0 tys (mh_c153 a1 a2 a3)) H) : va_at D xt_cs (base + 116, tm_E base b0 tys (mu1 a1 a2 a3) 33 3) H := xs_at 116 33 3 _ rfl rfl hP
set_option maxRecDepth 100000 in
theorem xs_p117 (hP : va_P D xt_cs (ml_wl base b0 tys (mh_c153 a1 a2 a3)) H) : va_at D xt_cs (base + 117, tm_E base b0 tys (mu1 a1 a2 a3) 34 3) H := xs_at 117 34 3 _ rfl rfl hP
set_option maxRecDepth 100000 in
theorem xs_p118 (hP : va_P D xt_cs (ml_wl base b0 tys (mh_c153 a1 a2 a3)) H) : va_at D xt_cs (base + 118, tm_E base b0 tys (mu1 a1 a2 a3) 35 3) H := xs_at 118 35 3 _ rfl rfl hP
set_option maxRecDepth 100000 in
theorem xs_p119 (hP : va_P D xt_cs (ml_wl base b0 tys (mh_c153 a1 a2 a3)) H) : va_at D xt_cs (base + 119, tm_E base b0 tys (mu1 a1 a2 a3) 33 4) H := xs_at 119 33 4 _ rfl rfl hP
set_option maxRecDepth 100000 in
theorem xs_p120 (hP : va_P D xt_cs (ml_wl base b0 tys (mh_c153 a1 a2 a3)) H) : va_at D xt_cs (base + 120, tm_E base b0 tys (mu1 a1 a2 a3) 34 4) H := xs_at 120 34 4 _ rfl rfl hP
set_option maxRecDepth 100000 in
theorem xs_p121 (hP : va_P D xt_cs (ml_wl base b0 tys (mh_c153 a1 a2 a3)) H) : va_at D xt_cs (base + 121, tm_E base b0 tys (mu1 a1 a2 a3) 35 4) H := xs_at 121 35 4 _ rfl rfl hP
set_option maxRecDepth 100000 in
theorem xs_p122 (hP : va_P D xt_cs (ml_wl base b0 tys (mh_c153 a1 a2 a3)) H) : va_at D xt_cs (base + 122, tm_E base b0 tys (mu1 a1 a2 a3) 33 5) H := xs_at 122 33 5 _ rfl rfl hP
set_option maxRecDepth 100000 in
theorem xs_p123 (hP : va_P D xt_cs (ml_wl base b0 tys (mh_c153 a1 a2 a3)) H) : va_at D xt_cs (base + 123, tm_E base b0 tys (mu1 a1 a2 a3) 34 5) H := xs_at 123 34 5 _ rfl rfl hP
set_option maxRecDepth 100000 in
theorem xs_p124 (hP : va_P D xt_cs (ml_wl base b0 tys (mh_c153 a1 a2 a3)) H) : va_at D xt_cs (base + 124, tm_E base b0 tys (mu1 a1 a2 a3) 35 5) H := xs_at 124 35 5 _ rfl rfl hP
set_option maxRecDepth 100000 in
theorem xs_p125 (hP : va_P D xt_cs (ml_wl base b0 tys (mh_c153 a1 a2 a3)) H) : va_at D xt_cs (base + 125, tm_E base b0 tys (mu1 a1 a2 a3) 36 0) H := xs_at 125 36 0 _ rfl rfl hP
set_option maxRecDepth 100000 in
theorem xs_p126 (hP : va_P D xt_cs (ml_wl base b0 tys (mh_c153 a1 a2 a3)) H) : va_at D xt_cs (base + 126, tm_E base b0 tys (mu1 a1 a2 a3) 37 0) H := xs_at 126 37 0 _ rfl rfl hP
set_option maxRecDepth 100000 in
theorem xs_p127 (hP : va_P D xt_cs (ml_wl base b0 tys (mh_c153 a1 a2 a3)) H) : va_at D xt_cs (base + 127, tm_E base b0 tys (mu1 a1 a2 a3) 38 0) H := xs_at 127 38 0 _ rfl rfl hP
set_option maxRecDepth 100000 in
theorem xs_p128 (hP : va_P D xt_cs (ml_wl base b0 tys (mh_c153 a1 a2 a3)) H) : va_at D xt_cs (base + 128, tm_E base b0 tys (mu1 a1 a2 a3) 39 0) H := xs_at 128 39 0 _ rfl rfl hP
set_option maxRecDepth 100000 in
theorem xs_p129 (hP : va_P D xt_cs (ml_wl base b0 tys (mh_c153 a1 a2 a3)) H) : va_at D xt_cs (base + 129, tm_E base b0 tys (mu1 a1 a2 a3) 40 0) H := xs_at 129 40 0 _ rfl rfl hP
set_option maxRecDepth 100000 in
theorem xs_p130 (hP : va_P D xt_cs (ml_wl base b0 tys (mh_c153 a1 a2 a3)) H) : va_at D xt_cs (base + 130, tm_E base b0 tys (mu1 a1 a2 a3) 41 0) H := xs_at 130 41 0 _ rfl rfl hP
set_option maxRecDepth 100000 in
theorem xs_p131 (hP : va_P D xt_cs (ml_wl base b0 tys (mh_c153 a1 a2 a3)) H) : va_at D xt_cs (base + 131, tm_E base b0 tys (mu1 a1 a2 a3) 42 0) H := xs_at 131 42 0 _ rfl rfl hP
set_option maxRecDepth 100000 in
theorem xs_p132 (hP : va_P D xt_cs (ml_wl base b0 tys (mh_c153 a1 a2 a3)) H) : va_at D xt_cs (base + 132, tm_E base b0 tys (mu1 a1 a2 a3) 43 0) H := xs_at 132 43 0 _ rfl rfl hP
set_option maxRecDepth 100000 in
theorem xs_p133 (hP : va_P D xt_cs (ml_wl base b0 tys (mh_c153 a1 a2 a3)) H) : va_at D xt_cs (base + 133, tm_E base b0 tys (mu1 a1 a2 a3) 44 0) H := xs_at 133 44 0 _ rfl rfl hP
set_option maxRecDepth 100000 in
theorem xs_p134 (hP : va_P D xt_cs (ml_wl base b0 tys (mh_c153 a1 a2 a3)) H) : va_at D xt_cs (base + 134, tm_E base b0 tys (mu1 a1 a2 a3) 45 0) H := xs_at 134 45 0 _ rfl rfl hP
set_option maxRecDepth 100000 in
theorem xs_p135 (hP : va_P D xt_cs (ml_wl base b0 tys (mh_c153 a1 a2 a3)) H) : va_at D xt_cs (base + 135, tm_E base b0 tys (mu1 a1 a2 a3) 46 0) H := xs_at 135 46 0 _ rfl rfl hP
set_option maxRecDepth 100000 in
theorem xs_p136 (hP : va_P D xt_cs (ml_wl base b0 tys (mh_c153 a1 a2 a3)) H) : va_at D xt_cs (base + 136, tm_E base b0 tys (mu1 a1 a2 a3) 47 0) H := xs_at 136 47 0 _ rfl rfl hP
set_option maxRecDepth 100000 in
theorem xs_p137 (hP : va_P D xt_cs (ml_wl base b0 tys (mh_c153 a1 a2 a3)) H) : va_at D xt_cs (base + 137, tm_E base b0 tys (mu1 a1 a2 a3) 48 0) H := xs_at 137 48 0 _ rfl rfl hP
set_option maxRecDepth 100000 in
theorem xs_p138 (hP : va_P D xt_cs (ml_wl base b0 tys (mh_c153 a1 a2 a3)) H) : va_at D xt_cs (base + 138, tm_E base b0 tys (mu1 a1 a2 a3) 49 0) H := xs_at 138 49 0 _ rfl rfl hP
set_option maxRecDepth 100000 in
theorem xs_p139 (hP : va_P D xt_cs (ml_wl base b0 tys (mh_c153 a1 a2 a3)) H) : va_at D xt_cs (base + 139, tm_E base b0 tys (mu1 a1 a2 a3) 50 0) H := xs_at 139 50 0 _ rfl rfl hP
set_option maxRecDepth 100000 in
theorem xs_p140 (hP : va_P D xt_cs (ml_wl base b0 tys (mh_c153 a1 a2 a3)) H) : va_at D xt_cs (base + 140, tm_E base b0 tys (mu1 a1 a2 a3) 51 0) H := xs_at 140 51 0 _ rfl rfl hP
set_option maxRecDepth 100000 in
theorem xs_p141 (hP : va_P D xt_cs (ml_wl base b0 tys (mh_c153 a1 a2 a3)) H) : va_at D xt_cs (base + 141, tm_E base b0 tys (mu1 a1 a2 a3) 52 0) H := xs_at 141 52 0 _ rfl rfl hP
set_option maxRecDepth 100000 in
theorem xs_p142 (hP : va_P D xt_cs (ml_wl base b0 tys (mh_c153 a1 a2 a3)) H) : va_at D xt_cs (base + 142, tm_E base b0 tys (mu1 a1 a2 a3) 53 0) H := xs_at 142 53 0 _ rfl rfl hP
set_option maxRecDepth 100000 in
theorem xs_p143 (hP : va_P D xt_cs (ml_wl base b0 tys (mh_c153 a1 a2 a3)) H) : va_at D xt_cs (base + 143, tm_E base b0 tys (mu1 a1 a2 a3) 54 0) H := xs_at 143 54 0 _ rfl rfl hP
set_option maxRecDepth 100000 in
theorem xs_p144 (hP : va_P D xt_cs (ml_wl base b0 tys (mh_c153 a1 a2 a3)) H) : va_at D xt_cs (base + 144, tm_E base b0 tys (mu1 a1 a2 a3) 55 0) H := xs_at 144 55 0 _ rfl rfl hP
set_option maxRecDepth 100000 in
theorem xs_p145 (hP : va_P D xt_cs (ml_wl base b0 tys (mh_c153 a1 a2 a3)) H) : va_at D xt_cs (base + 145, tm_E base b0 tys (mu1 a1 a2 a3) 56 0) H := xs_at 145 56 0 _ rfl rfl hP
set_option maxRecDepth 100000 in
theorem xs_p146 (hP : va_P D xt_cs (ml_wl base b0 tys (mh_c153 a1 a2 a3)) H) : va_at D xt_cs (base + 146, tm_E base b0 tys (mu1 a1 a2 a3) 57 0) H := xs_at 146 57 0 _ rfl rfl hP
set_option maxRecDepth 100000 in
theorem xs_p147 (hP : va_P D xt_cs (ml_wl base b0 tys (mh_c153 a1 a2 a3)) H) : va_at D xt_cs (base + 147, tm_E base b0 tys (mu1 a1 a2 a3) 58 0) H := xs_at 147 58 0 _ rfl rfl hP
set_option maxRecDepth 100000 in
theorem xs_p148 (hP : va_P D xt_cs (ml_wl base b0 tys (mh_c153 a1 a2 a3)) H) : va_at D xt_cs (base + 148, tm_E base b0 tys (mu1 a1 a2 a3) 59 0) H := xs_at 148 59 0 _ rfl rfl hP
set_option maxRecDepth 100000 in
theorem xs_p149 (hP : va_P D xt_cs (ml_wl base b0 tys (mh_c153 a1 a2 a3)) H) : va_at D xt_cs (base + 149, tm_E base b0 tys (mu1 a1 a2 a3) 60 0) H := xs_at 149 60 0 _ rfl rfl hP
set_option maxRecDepth 100000 in
theorem xs_p150 (hP : va_P D xt_cs (ml_wl base b0 tys (mh_c153 a1 a2 a3)) H) : va_at D xt_cs (base + 150, tm_E base b0 tys (mu1 a1 a2 a3) 61 0) H := xs_at 150 61 0 _ rfl rfl hP
set_option maxRecDepth 100000 in
theorem xs_p151 (hP : va_P D xt_cs (ml_wl base b0 tys (mh_c153 a1 a2 a3)) H) : va_at D xt_cs (base + 151, tm_E base b0 tys (mu1 a1 a2 a3) 62 0) H := xs_at 151 62 0 _ rfl rfl hP
set_option maxRecDepth 100000 in
theorem xs_p152 (hP : va_P D xt_cs (ml_wl base b0 tys (mh_c153 a1 a2 a3)) H) : va_at D xt_cs (base + 152, tm_E base b0 tys (mu1 a1 a2 a3) 63 0) H := xs_at 152 63 0 _ rfl rfl hP
set_option maxRecDepth 100000 in
theorem xs_p153 (hP : va_P D xt_cs (ml_wl base b0 tys (mh_c153 a1 a2 a3)) H) : va_at D xt_cs (base + 153, tm_E base b0 tys (mu1 a1 a2 a3) 64 0) H := xs_at 153 64 0 _ rfl rfl hP
set_option maxRecDepth 100000 in
theorem xs_p154 (hP : va_P D xt_cs (ml_wl base b0 tys (mh_c153 a1 a2 a3)) H) : va_at D xt_cs (base + 154, tm_E base b0 tys (mu1 a1 a2 a3) 65 0) H := xs_at 154 65 0 _ rfl rfl hP
set_option maxRecDepth 100000 in
theorem xs_p155 (hP : va_P D xt_cs (ml_wl base b0 tys (mh_c153 a1 a2 a3)) H) : va_at D xt_cs (base + 155, tm_E base b0 tys (mu1 a1 a2 a3) 66 0) H := xs_at 155 66 0 _ rfl rfl hP
set_option maxRecDepth 100000 in
theorem xs_p156 (hP : va_P D xt_cs (ml_wl base b0 tys (mh_c153 a1 a2 a3)) H) : va_at D xt_cs (base + 156, tm_E base b0 tys (mu1 a1 a2 a3) 67 0) H := xs_at 156 67 0 _ rfl rfl hP
set_option maxRecDepth 100000 in
theorem xs_p157 (hP : va_P D xt_cs (ml_wl base b0 tys (mh_c153 a1 a2 a3)) H) : va_at D xt_cs (base + 157, tm_E base b0 tys (mu1 a1 a2 a3) 68 0) H := xs_at 157 68 0 _ rfl rfl hP
set_option maxRecDepth 100000 in
theorem xs_p158 (hP : va_P D xt_cs (ml_wl base b0 tys (mh_c153 a1 a2 a3)) H) : va_at D xt_cs (base + 158, tm_E base b0 tys (mu1 a1 a2 a3) 69 0) H := xs_at 158 69 0 _ rfl rfl hP
set_option maxRecDepth 100000 in
theorem xs_p159 (hP : va_P D xt_cs (ml_wl base b0 tys (mh_c153 a1 a2 a3)) H) : va_at D xt_cs (base + 159, tm_E base b0 tys (mu1 a1 a2 a3) 70 0) H := xs_at 159 70 0 _ rfl rfl hP
set_option maxRecDepth 100000 in
theorem xs_p160 (hP : va_P D xt_cs (ml_wl base b0 tys (mh_c153 a1 a2 a3)) H) : va_at D xt_cs (base + 160, tm_E base b0 tys (mu1 a1 a2 a3) 71 0) H := xs_at 160 71 0 _ rfl rfl hP
set_option maxRecDepth 100000 in
theorem xs_p161 (hP : va_P D xt_cs (ml_wl base b0 tys (mh_c153 a1 a2 a3)) H) : va_at D xt_cs (base + 161, tm_E base b0 tys (mu1 a1 a2 a3) 72 0) H := xs_at 161 72 0 _ rfl rfl hP
set_option maxRecDepth 100000 in
theorem xs_p162 (hP : va_P D xt_cs (ml_wl base b0 tys (mh_c153 a1 a2 a3)) H) : va_at D xt_cs (base + 162, tm_E base b0 tys (mu1 a1 a2 a3) 73 0) H := xs_at 162 73 0 _ rfl rfl hP
set_option maxRecDepth 100000 in
theorem xs_p163 (hP : va_P D xt_cs (ml_wl base b0 tys (mh_c153 a1 a2 a3)) H) : va_at D xt_cs (base + 163, tm_E base b0 tys (mu1 a1 a2 a3) 74 0) H := xs_at 163 74 0 _ rfl rfl hP
set_option maxRecDepth 100000 in
theorem xs_p164 (hP : va_P D xt_cs (ml_wl base b0 tys (mh_c153 a1 a2 a3)) H) : va_at D xt_cs (base + 164, tm_E base b0 tys (mu1 a1 a2 a3) 75 0) H := xs_at 164 75 0 _ rfl rfl hP
set_option maxRecDepth 100000 in
theorem xs_p165 (hP : va_P D xt_cs (ml_wl base b0 tys (mh_c153 a1 a2 a3)) H) : va_at D xt_cs (base + 165, tm_E base b0 tys (mu1 a1 a2 a3) 76 0) H := xs_at 165 76 0 _ rfl rfl hP
set_option maxRecDepth 100000 in
theorem xs_p166 (hP : va_P D xt_cs (ml_wl base b0 tys (mh_c153 a1 a2 a3)) H) : va_at D xt_cs (base + 166, tm_E base b0 tys (mu1 a1 a2 a3) 77 0) H := xs_at 166 77 0 _ rfl rfl hP
set_option maxRecDepth 100000 in
theorem xs_p167 (hP : va_P D xt_cs (ml_wl base b0 tys (mh_c153 a1 a2 a3)) H) : va_at D xt_cs (base + 167, tm_E base b0 tys (mu1 a1 a2 a3) 78 0) H := xs_at 167 78 0 _ rfl rfl hP
set_option maxRecDepth 100000 in
theorem xs_p168 (hP : va_P D xt_cs (ml_wl base b0 tys (mh_c153 a1 a2 a3)) H) : va_at D xt_cs (base + 168, tm_E base b0 tys (mu1 a1 a2 a3) 79 0) H := xs_at 168 79 0 _ rfl rfl hP
set_option maxRecDepth 100000 in
theorem xs_p169 (hP : va_P D xt_cs (ml_wl base b0 tys (mh_c153 a1 a2 a3)) H) : va_at D xt_cs (base + 169, tm_E base b0 tys (mu1 a1 a2 a3) 80 0) H := xs_at 169 80 0 _ rfl rfl hP
set_option maxRecDepth 100000 in
theorem xs_p170 (hP : va_P D xt_cs (ml_wl base b0 tys (mh_c153 a1 a2 a3)) H) : va_at D xt_cs (base + 170, tm_E base b0 tys (mu1 a1 a2 a3) 81 0) H := xs_at 170 81 0 _ rfl rfl hP
set_option maxRecDepth 100000 in
theorem xs_p171 (hP : va_P D xt_cs (ml_wl base b0 tys (mh_c153 a1 a2 a3)) H) : va_at D xt_cs (base + 171, tm_E base b0 tys (mu1 a1 a2 a3) 82 0) H := xs_at 171 82 0 _ rfl rfl hP
set_option maxRecDepth 100000 in
theorem xs_p172 (hP : va_P D xt_cs (ml_wl base b0 tys (mh_c153 a1 a2 a3)) H) : va_at D xt_cs (base + 172, tm_E base b0 tys (mu1 a1 a2 a3) 83 0) H := xs_at 172 83 0 _ rfl rfl hP
set_option maxRecDepth 100000 in
theorem xs_p173 (hP : va_P D xt_cs (ml_wl base b0 tys (mh_c153 a1 a2 a3)) H) : va_at D xt_cs (base + 173, tm_E base b0 tys (mu1 a1 a2 a3) 84 0) H := xs_at 173 84 0 _ rfl rfl hP
set_option maxRecDepth 100000 in
theorem xs_p174 (hP : va_P D xt_cs (ml_wl base b0 tys (mh_c153 a1 a2 a3)) H) : va_at D xt_cs (base + 174, tm_E base b0 tys (mu1 a1 a2 a3) 85 0) H := xs_at 174 85 0 _ rfl rfl hP
def xs_pr (D : va_G) (base b0 : Nat) (tys : List (ClassId × FieldType)) (a1 a2 a3 : Int32) (H : Heap) (j : Nat) : Prop := ∀ r, tk_pl[j]? = some r → va_at D xt_cs (base + j, tm_E base b0 tys (mu1 a1 a2 a3) r.1 r.2) H
set_option maxRecDepth 100000 in
theorem xs_q0 (hP : va_P D xt_cs (ml_wl base b0 tys (mh_c153 a1 a2 a3)) H) : ∀ j ∈ [0, 1, 2, 3, 4, 5, 6, 7, 8, 9, 10, 11, 12, 13, 14, 15, 16, 17, 18, 19, 20, 21, 22, 23, 24], xs_pr D base b0 tys a1 a2 a3 H j := List.forall_mem_cons.mpr ⟨(fun r h => by cases h; exact xs_p0 hP), List.forall_mem_cons.mpr ⟨(fun r h => by cases h; exact xs_p1 hP), List.forall_mem_cons.mpr ⟨(fun r h => by cases h; exact xs_p2 hP), List.forall_mem_cons.mpr ⟨(fun r h => by cases h; exact xs_p3 hP), List.forall_mem_cons.mpr ⟨(fun r h => by cases h; exact xs_p4 hP), List.forall_mem_cons.mpr ⟨(fun r h => by cases h; exact xs_p5 hP), List.forall_mem_cons.mpr ⟨(fun r h => by cases h; exact xs_p6 hP), List.forall_mem_cons.mpr ⟨(fun r h => by cases h; exact xs_p7 hP), List.forall_mem_cons.mpr ⟨(fun r h => by cases h; exact xs_p8 hP), List.forall_mem_cons.mpr ⟨(fun r h => by cases h; exact xs_p9 hP), List.forall_mem_cons.mpr ⟨(fun r h => by cases h; exact xs_p10 hP), List.forall_mem_cons.mpr ⟨(fun r h => by cases h; exact xs_p11 hP), List.forall_mem_cons.mpr ⟨(fun r h => by cases h; exact xs_p12 hP), List.forall_mem_cons.mpr ⟨(fun r h => by cases h; exact xs_p13 hP), List.forall_mem_cons.mpr ⟨(fun r h => by cases h; exact xs_p14 hP), List.forall_mem_cons.mpr ⟨(fun r h => by cases h; exact xs_p15 hP), List.forall_mem_cons.mpr ⟨(fun r h => by cases h; exact xs_p16 hP), List.forall_mem_cons.mpr ⟨(fun r h => by cases h; exact xs_p17 hP), List.forall_mem_cons.mpr ⟨(fun r h => by cases h; exact xs_p18 hP), List.forall_mem_cons.mpr ⟨(fun r h => by cases h; exact xs_p19 hP), List.forall_mem_cons.mpr ⟨(fun r h => by cases h; exact xs_p20 hP), List.forall_mem_cons.mpr ⟨(fun r h => by cases h; exact xs_p21 hP), List.forall_mem_cons.mpr ⟨(fun r h => by cases h; exact xs_p22 hP), List.forall_mem_cons.mpr ⟨(fun r h => by cases h; exact xs_p23 hP), List.forall_mem_cons.mpr ⟨(fun r h => by cases h; exact xs_p24 hP), fun _ h => absurd h List.not_mem_nil⟩⟩⟩⟩⟩⟩⟩⟩⟩⟩⟩⟩⟩⟩⟩⟩⟩⟩⟩⟩⟩⟩⟩⟩⟩
set_option maxRecDepth 100000 in
theorem xs_q1 (hP : va_P D xt_cs (ml_wl base b0 tys (mh_c153 a1 a2 a3)) H) : ∀ j ∈ [25, 26, 27, 28, 29, 30, 31, 32, 33, 34, 35, 36, 37, 38, 39, 40, 41, 42, 43, 44, 45, 46, 47, 48, 49], xs_pr D base b0 tys a1 a2 a3 H j := List.forall_mem_cons.mpr ⟨(fun r h => by cases h; exact xs_p25 hP), List.forall_mem_cons.mpr ⟨(fun r h => by cases h; exact xs_p26 hP), List.forall_mem_cons.mpr ⟨(fun r h => by cases h; exact xs_p27 hP), List.forall_mem_cons.mpr ⟨(fun r h => by cases h; exact xs_p28 hP), List.forall_mem_cons.mpr ⟨(fun r h => by cases h; exact xs_p29 hP), List.forall_mem_cons.mpr ⟨(fun r h => by cases h; exact xs_p30 hP), List.forall_mem_cons.mpr ⟨(fun r h => by cases h; exact xs_p31 hP), List.forall_mem_cons.mpr ⟨(fun r h => by cases h; exact xs_p32 hP), List.forall_mem_cons.mpr ⟨(fun r h => by cases h; exact xs_p33 hP), List.forall_mem_cons.mpr ⟨(fun r h => by cases h; exact xs_p34 hP), List.forall_mem_cons.mpr ⟨(fun r h => by cases h; exact xs_p35 hP), List.forall_mem_cons.mpr ⟨(fun r h => by cases h; exact xs_p36 hP), List.forall_mem_cons.mpr ⟨(fun r h => by cases h; exact xs_p37 hP), List.forall_mem_cons.mpr ⟨(fun r h => by cases h; exact xs_p38 hP), List.forall_mem_cons.mpr ⟨(fun r h => by cases h; exact xs_p39 hP), List.forall_mem_cons.mpr ⟨(fun r h => by cases h; exact xs_p40 hP), List.forall_mem_cons.mpr ⟨(fun r h => by cases h; exact xs_p41 hP), List.forall_mem_cons.mpr ⟨(fun r h => by cases h; exact xs_p42 hP), List.forall_mem_cons.mpr ⟨(fun r h => by cases h; exact xs_p43 hP), List.forall_mem_cons.mpr ⟨(fun r h => by cases h; exact xs_p44 hP), List.forall_mem_cons.mpr ⟨(fun r h => by cases h; exact xs_p45 hP), List.forall_mem_cons.mpr ⟨(fun r h => by cases h; exact xs_p46 hP), List.forall_mem_cons.mpr ⟨(fun r h => by cases h; exact xs_p47 hP), List.forall_mem_cons.mpr ⟨(fun r h => by cases h; exact xs_p48 hP), List.forall_mem_cons.mpr ⟨(fun r h => by cases h; exact xs_p49 hP), fun _ h => absurd h List.not_mem_nil⟩⟩⟩⟩⟩⟩⟩⟩⟩⟩⟩⟩⟩⟩⟩⟩⟩⟩⟩⟩⟩⟩⟩⟩⟩
set_option maxRecDepth 100000 in
theorem xs_q2 (hP : va_P D xt_cs (ml_wl base b0 tys (mh_c153 a1 a2 a3)) H) : ∀ j ∈ [50, 51, 52, 53, 54, 55, 56, 57, 58, 59, 60, 61, 62, 63, 64, 65, 66, 67, 68, 69, 70, 71, 72, 73, 74], xs_pr D base b0 tys a1 a2 a3 H j := List.forall_mem_cons.mpr ⟨(fun r h => by cases h; exact xs_p50 hP), List.forall_mem_cons.mpr ⟨(fun r h => by cases h; exact xs_p51 hP), List.forall_mem_cons.mpr ⟨(fun r h => by cases h; exact xs_p52 hP), List.forall_mem_cons.mpr ⟨(fun r h => by cases h; exact xs_p53 hP), List.forall_mem_cons.mpr ⟨(fun r h => by cases h; exact xs_p54 hP), List.forall_mem_cons.mpr ⟨(fun r h => by cases h; exact xs_p55 hP), List.forall_mem_cons.mpr ⟨(fun r h => by cases h; exact xs_p56 hP), List.forall_mem_cons.mpr ⟨(fun r h => by cases h; exact xs_p57 hP), List.forall_mem_cons.mpr ⟨(fun r h => by cases h; exact xs_p58 hP), List.forall_mem_cons.mpr ⟨(fun r h => by cases h; exact xs_p59 hP), List.forall_mem_cons.mpr ⟨(fun r h => by cases h; exact xs_p60 hP), List.forall_mem_cons.mpr ⟨(fun r h => by cases h; exact xs_p61 hP), List.forall_mem_cons.mpr ⟨(fun r h => by cases h; exact xs_p62 hP), List.forall_mem_cons.mpr ⟨(fun r h => by cases h; exact xs_p63 hP), List.forall_mem_cons.mpr ⟨(fun r h => by cases h; exact xs_p64 hP), List.forall_mem_cons.mpr ⟨(fun r h => by cases h; exact xs_p65 hP), List.forall_mem_cons.mpr ⟨(fun r h => by cases h; exact xs_p66 hP), List.forall_mem_cons.mpr ⟨(fun r h => by cases h; exact xs_p67 hP), List.forall_mem_cons.mpr ⟨(fun r h => by cases h; exact xs_p68 hP), List.forall_mem_cons.mpr ⟨(fun r h => by cases h; exact xs_p69 hP), List.forall_mem_cons.mpr ⟨(fun r h => by cases h; exact xs_p70 hP), List.forall_mem_cons.mpr ⟨(fun r h => by cases h; exact xs_p71 hP), List.forall_mem_cons.mpr ⟨(fun r h => by cases h; exact xs_p72 hP), List.forall_mem_cons.mpr ⟨(fun r h => by cases h; exact xs_p73 hP), List.forall_mem_cons.mpr ⟨(fun r h => by cases h; exact xs_p74 hP), fun _ h => absurd h List.not_mem_nil⟩⟩⟩⟩⟩⟩⟩⟩⟩⟩⟩⟩⟩⟩⟩⟩⟩⟩⟩⟩⟩⟩⟩⟩⟩
set_option maxRecDepth 100000 in
theorem xs_q3 (hP : va_P D xt_cs (ml_wl base b0 tys (mh_c153 a1 a2 a3)) H) : ∀ j ∈ [75, 76, 77, 78, 79, 80, 81, 82, 83, 84, 85, 86, 87, 88, 89, 90, 91, 92, 93, 94, 95, 96, 97, 98, 99], xs_pr D base b0 tys a1 a2 a3 H j := List.forall_mem_cons.mpr ⟨(fun r h => by cases h; exact xs_p75 hP), List.forall_mem_cons.mpr ⟨(fun r h => by cases h; exact xs_p76 hP), List.forall_mem_cons.mpr ⟨(fun r h => by cases h; exact xs_p77 hP), List.forall_mem_cons.mpr ⟨(fun r h => by cases h; exact xs_p78 hP), List.forall_mem_cons.mpr ⟨(fun r h => by cases h; exact xs_p79 hP), List.forall_mem_cons.mpr ⟨(fun r h => by cases h; exact xs_p80 hP), List.forall_mem_cons.mpr ⟨(fun r h => by cases h; exact xs_p81 hP), List.forall_mem_cons.mpr ⟨(fun r h => by cases h; exact xs_p82 hP), List.forall_mem_cons.mpr ⟨(fun r h => by cases h; exact xs_p83 hP), List.forall_mem_cons.mpr ⟨(fun r h => by cases h; exact xs_p84 hP), List.forall_mem_cons.mpr ⟨(fun r h => by cases h; exact xs_p85 hP), List.forall_mem_cons.mpr ⟨(fun r h => by cases h; exact xs_p86 hP), List.forall_mem_cons.mpr ⟨(fun r h => by cases h; exact xs_p87 hP), List.forall_mem_cons.mpr ⟨(fun r h => by cases h; exact xs_p88 hP), List.forall_mem_cons.mpr ⟨(fun r h => by cases h; exact xs_p89 hP), List.forall_mem_cons.mpr ⟨(fun r h => by cases h; exact xs_p90 hP), List.forall_mem_cons.mpr ⟨(fun r h => by cases h; exact xs_p91 hP), List.forall_mem_cons.mpr ⟨(fun r h => by cases h; exact xs_p92 hP), List.forall_mem_cons.mpr ⟨(fun r h => by cases h; exact xs_p93 hP), List.forall_mem_cons.mpr ⟨(fun r h => by cases h; exact xs_p94 hP), List.forall_mem_cons.mpr ⟨(fun r h => by cases h; exact xs_p95 hP), List.forall_mem_cons.mpr ⟨(fun r h => by cases h; exact xs_p96 hP), List.forall_mem_cons.mpr ⟨(fun r h => by cases h; exact xs_p97 hP), List.forall_mem_cons.mpr ⟨(fun r h => by cases h; exact xs_p98 hP), List.forall_mem_cons.mpr ⟨(fun r h => by cases h; exact xs_p99 hP), fun _ h => absurd h List.not_mem_nil⟩⟩⟩⟩⟩⟩⟩⟩⟩⟩⟩⟩⟩⟩⟩⟩⟩⟩⟩⟩⟩⟩⟩⟩⟩
set_option maxRecDepth 100000 in
theorem xs_q4 (hP : va_P D xt_cs (ml_wl base b0 tys (mh_c153 a1 a2 a3)) H) : ∀ j ∈ [100, 101, 102, 103, 104, 105, 106, 107, 108, 109, 110, 111, 112, 113, 114, 115, 116, 117, 118, 119, 120, 121, 122, 123, 124], xs_pr D base b0 tys a1 a2 a3 H j := List.forall_mem_cons.mpr ⟨(fun r h => by cases h; exact xs_p100 hP), List.forall_mem_cons.mpr ⟨(fun r h => by cases h; exact xs_p101 hP), List.forall_mem_cons.mpr ⟨(fun r h => by cases h; exact xs_p102 hP), List.forall_mem_cons.mpr ⟨(fun r h => by cases h; exact xs_p103 hP), List.forall_mem_cons.mpr ⟨(fun r h => by cases h; exact xs_p104 hP), List.forall_mem_cons.mpr ⟨(fun r h => by cases h; exact xs_p105 hP), List.forall_mem_cons.mpr ⟨(fun r h => by cases h; exact xs_p106 hP), List.forall_mem_cons.mpr ⟨(fun r h => by cases h; exact xs_p107 hP), List.forall_mem_cons.mpr ⟨(fun r h => by cases h; exact xs_p108 hP), List.forall_mem_cons.mpr ⟨(fun r h => by cases h; exact xs_p109 hP), List.forall_mem_cons.mpr ⟨(fun r h => by cases h; exact xs_p110 hP), List.forall_mem_cons.mpr ⟨(fun r h => by cases h; exact xs_p111 hP), List.forall_mem_cons.mpr ⟨(fun r h => by cases h; exact xs_p112 hP), List.forall_mem_cons.mpr ⟨(fun r h => by cases h; exact xs_p113 hP), List.forall_mem_cons.mpr ⟨(fun r h => by cases h; exact xs_p114 hP), List.forall_mem_cons.mpr ⟨(fun r h => by cases h; exact xs_p115 hP), List.forall_mem_cons.mpr ⟨(fun r h => by cases h; exact xs_p116 hP), List.forall_mem_cons.mpr ⟨(fun r h => by cases h; exact xs_p117 hP), List.forall_mem_cons.mpr ⟨(fun r h => by cases h; exact xs_p118 hP), List.forall_mem_cons.mpr ⟨(fun r h => by cases h; exact xs_p119 hP), List.forall_mem_cons.mpr ⟨(fun r h => by cases h; exact xs_p120 hP), List.forall_mem_cons.mpr ⟨(fun r h => by cases h; exact xs_p121 hP), List.forall_mem_cons.mpr ⟨(fun r h => by cases h; exact xs_p122 hP), List.forall_mem_cons.mpr ⟨(fun r h => by cases h; exact xs_p123 hP), List.forall_mem_cons.mpr ⟨(fun r h => by cases h; exact xs_p124 hP), fun _ h => absurd h List.not_mem_nil⟩⟩⟩⟩⟩⟩⟩⟩⟩⟩⟩⟩⟩⟩⟩⟩⟩⟩⟩⟩⟩⟩⟩⟩⟩
set_option maxRecDepth 100000 in
theorem xs_q5 (hP : va_P D xt_cs (ml_wl base b0 tys (mh_c153 a1 a2 a3)) H) : ∀ j ∈ [125, 126, 127, 128, 129, 130, 131, 132, 133, 134, 135, 136, 137, 138, 139, 140, 141, 142, 143, 144, 145, 146, 147, 148, 149], xs_pr D base b0 tys a1 a2 a3 H j := List.forall_mem_cons.mpr ⟨(fun r h => by cases h; exact xs_p125 hP), List.forall_mem_cons.mpr ⟨(fun r h => by cases h; exact xs_p126 hP), List.forall_mem_cons.mpr ⟨(fun r h => by cases h; exact xs_p127 hP), List.forall_mem_cons.mpr ⟨(fun r h => by cases h; exact xs_p128 hP), List.forall_mem_cons.mpr ⟨(fun r h => by cases h; exact xs_p129 hP), List.forall_mem_cons.mpr ⟨(fun r h => by cases h; exact xs_p130 hP), List.forall_mem_cons.mpr ⟨(fun r h => by cases h; exact xs_p131 hP), List.forall_mem_cons.mpr ⟨(fun r h => by cases h; exact xs_p132 hP), List.forall_mem_cons.mpr ⟨(fun r h => by cases h; exact xs_p133 hP), List.forall_mem_cons.mpr ⟨(fun r h => by cases h; exact xs_p134 hP), List.forall_mem_cons.mpr ⟨(fun r h => by cases h; exact xs_p135 hP), List.forall_mem_cons.mpr ⟨(fun r h => by cases h; exact xs_p136 hP), List.forall_mem_cons.mpr ⟨(fun r h => by cases h; exact xs_p137 hP), List.forall_mem_cons.mpr ⟨(fun r h => by cases h; exact xs_p138 hP), List.forall_mem_cons.mpr ⟨(fun r h => by cases h; exact xs_p139 hP), List.forall_mem_cons.mpr ⟨(fun r h => by cases h; exact xs_p140 hP), List.forall_mem_cons.mpr ⟨(fun r h => by cases h; exact xs_p141 hP), List.forall_mem_cons.mpr ⟨(fun r h => by cases h; exact xs_p142 hP), List.forall_mem_cons.mpr ⟨(fun r h => by cases h; exact xs_p143 hP), List.forall_mem_cons.mpr ⟨(fun r h => by cases h; exact xs_p144 hP), List.forall_mem_cons.mpr ⟨(fun r h => by cases h; exact xs_p145 hP), List.forall_mem_cons.mpr ⟨(fun r h => by cases h; exact xs_p146 hP), List.forall_mem_cons.mpr ⟨(fun r h => by cases h; exact xs_p147 hP), List.forall_mem_cons.mpr ⟨(fun r h => by cases h; exact xs_p148 hP), List.forall_mem_cons.mpr ⟨(fun r h => by cases h; exact xs_p149 hP), fun _ h => absurd h List.not_mem_nil⟩⟩⟩⟩⟩⟩⟩⟩⟩⟩⟩⟩⟩⟩⟩⟩⟩⟩⟩⟩⟩⟩⟩⟩⟩
set_option maxRecDepth 100000 in
theorem xs_q6 (hP : va_P D xt_cs (ml_wl base b0 tys (mh_c153 a1 a2 a3)) H) : ∀ j ∈ [150, 151, 152, 153, 154, 155, 156, 157, 158, 159, 160, 161, 162, 163, 164, 165, 166, 167, 168, 169, 170, 171, 172, 173, 174], xs_pr D base b0 tys a1 a2 a3 H j := List.forall_mem_cons.mpr ⟨(fun r h => by cases h; exact xs_p150 hP), List.forall_mem_cons.mpr ⟨(fun r h => by cases h; exact xs_p151 hP), List.forall_mem_cons.mpr ⟨(fun r h => by cases h; exact xs_p152 hP), List.forall_mem_cons.mpr ⟨(fun r h => by cases h; exact xs_p153 hP), List.forall_mem_cons.mpr ⟨(fun r h => by cases h; exact xs_p154 hP), List.forall_mem_cons.mpr ⟨(fun r h => by cases h; exact xs_p155 hP), List.forall_mem_cons.mpr ⟨(fun r h => by cases h; exact xs_p156 hP), List.forall_mem_cons.mpr ⟨(fun r h => by cases h; exact xs_p157 hP), List.forall_mem_cons.mpr ⟨(fun r h => by cases h; exact xs_p158 hP), List.forall_mem_cons.mpr ⟨(fun r h => by cases h; exact xs_p159 hP), List.forall_mem_cons.mpr ⟨(fun r h => by cases h; exact xs_p160 hP), List.forall_mem_cons.mpr ⟨(fun r h => by cases h; exact xs_p161 hP), List.forall_mem_cons.mpr ⟨(fun r h => by cases h; exact xs_p162 hP), List.forall_mem_cons.mpr ⟨(fun r h => by cases h; exact xs_p163 hP), List.forall_mem_cons.mpr ⟨(fun r h => by cases h; exact xs_p164 hP), List.forall_mem_cons.mpr ⟨(fun r h => by cases h; exact xs_p165 hP), List.forall_mem_cons.mpr ⟨(fun r h => by cases h; exact xs_p166 hP), List.forall_mem_cons.mpr ⟨(fun r h => by cases h; exact xs_p167 hP), List.forall_mem_cons.mpr ⟨(fun r h => by cases h; exact xs_p168 hP), List.forall_mem_cons.mpr ⟨(fun r h => by cases h; exact xs_p169 hP), List.forall_mem_cons.mpr ⟨(fun r h => by cases h; exact xs_p170 hP), List.forall_mem_cons.mpr ⟨(fun r h => by cases h; exact xs_p171 hP), List.forall_mem_cons.mpr ⟨(fun r h => by cases h; exact xs_p172 hP), List.forall_mem_cons.mpr ⟨(fun r h => by cases h; exact xs_p173 hP), List.forall_mem_cons.mpr ⟨(fun r h => by cases h; exact xs_p174 hP), fun _ h => absurd h List.not_mem_nil⟩⟩⟩⟩⟩⟩⟩⟩⟩⟩⟩⟩⟩⟩⟩⟩⟩⟩⟩⟩⟩⟩⟩⟩⟩
theorem xs_qa (hP : va_P D xt_cs (ml_wl base b0 tys (mh_c153 a1 a2 a3)) H) : ∀ j, j < 175 → xs_pr D base b0 tys a1 a2 a3 H j := by
  intro j hj
  have e : List.range 175 = [0, 1, 2, 3, 4, 5, 6, 7, 8, 9, 10, 11, 12, 13, 14, 15, 16, 17, 18, 19, 20, 21, 22, 23, 24] ++ ([25, 26, 27, 28, 29, 30, 31, 32, 33, 34, 35, 36, 37, 38, 39, 40, 41, 42, 43, 44, 45, 46, 47, 48, 49] ++ ([50, 51, 52, 53, 54, 55, 56, 57, 58, 59, 60, 61, 62, 63, 64, 65, 66, 67, 68, 69, 70, 71, 72, 73, 74] ++ ([75, 76, 77, 78, 79, 80, 81, 82, 83, 84, 85, 86, 87, 88, 89, 90, 91, 92, 93, 94, 95, 96, 97, 98, 99] ++ ([100, 101, 102, 103, 104, 105, 106, 107, 108, 109, 110, 111, 112, 113, 114, 115, 116, 117, 118, 119, 120, 121, 122, 123, 124] ++ ([125, 126, 127, 128, 129, 130, 131, 132, 133, 134, 135, 136, 137, 138, 139, 140, 141, 142, 143, 144, 145, 146, 147, 148, 149] ++ ([150, 151, 152, 153, 154, 155, 156, 157, 158, 159, 160, 161, 162, 163, 164, 165, 166, 167, 168, 169, 170, 171, 172, 173, 174])))))) := by decide +kernel
  have hm : j ∈ List.range 175 := List.mem_range.mpr hj
  rw [e] at hm
  revert hm
  revert j
  intro j _ hm
  exact (List.forall_mem_append.mpr ⟨xs_q0 hP, List.forall_mem_append.mpr ⟨xs_q1 hP, List.forall_mem_append.mpr ⟨xs_q2 hP, List.forall_mem_append.mpr ⟨xs_q3 hP, List.forall_mem_append.mpr ⟨xs_q4 hP, List.forall_mem_append.mpr ⟨xs_q5 hP, xs_q6 hP⟩⟩⟩⟩⟩⟩) j hm
theorem xs_mem (hP : va_P D xt_cs (ml_wl base b0 tys (mh_c153 a1 a2 a3)) H) : va_P D xt_cs (tm_wl base b0 tys (mu1 a1 a2 a3)) H := by
  intro k q hq
  unfold tm_wl at hq
  rw [List.getElem?_mapIdx] at hq
  cases hr : tk_pl[k]? with
  | none => rw [hr] at hq; cases hq
  | some r =>
    rw [hr] at hq
    cases hq
    have hk : k < 175 := by
      have := (List.getElem?_eq_some_iff.mp hr).1
      rw [tk_pln] at this
      exact this
    exact xs_qa hP k hk r hr
theorem xs_Gd : tm_Gd (mu1 a1 a2 a3) := by
  intro k i p q c h
  by_cases h3 : k = 3
  · subst h3
    show ((if p < 32 then Int32.ofNat (p + 2) else 0 : Int32)).toNatClampNeg < 34
    by_cases hp : p < 32
    · rw [if_pos hp, (xs_sl p hp).2.1]
      omega
    · rw [if_neg hp]
      decide
  · by_cases h2 : k = 2
    · subst h2
      show ((0 : Int32)).toNatClampNeg < 34
      decide
    · exfalso
      have key : ∀ k, k < 86 → k ≠ 3 → k ≠ 2 → ∀ p, p < 60 → (tk_sp k p).1 ≠ 3 := by decide +kernel
      by_cases hk : k < 86
      · by_cases hp : p < 60
        · have := key k hk h3 h2 p hp
          rw [h] at this
          exact this rfl
        · unfold tk_sp at h
          split at h
          · have hl : (tk_r k).2.2.2.2.2.2.length ≤ p := by
              have : ∀ k, k < 86 → (tk_r k).2.2.2.2.2.2.length ≤ 60 := by decide +kernel
              have := this k hk
              omega
            rw [List.getD_eq_getElem?_getD, List.getElem?_eq_none hl] at h
            cases h
          · have := key k hk h3 h2 0 (by decide)
            unfold tk_sp at this
            rename_i hso
            rw [if_neg hso] at this
            rw [h] at this
            exact this rfl
      · have e : tk_r k = (0, 0, 0, 9, 0, 0, []) := by
          unfold tk_r
          have hl : tk_T.length ≤ k := by
            have : tk_T.length = 86 := by decide +kernel
            omega
          rw [List.getD_eq_getElem?_getD, List.getElem?_eq_none hl]
          rfl
        unfold tk_sp tk_so at h
        rw [e] at h
        cases h
end XN
