/-! Where the words stand in the law's tables. Written by prog/gen_start.py. -/
def xs_tb (t : Nat) : List Jvm.Cond := if t = 0 then k2_sels lw_privs else if t = 1 then tables_1_1 else if t = 2 then tables_1_2 else if t = 3 then tables_1_3 else if t = 4 then tables_1_4 else if t = 5 then tables_1_5 else if t = 6 then tables_1_6 else []
theorem xs_tbm {t : Nat} {w : Jvm.Cond} (h : w ∈ xs_tb t) : w ∈ lw_tbl := by
  unfold xs_tb at h
  unfold lw_tbl tables_1
  simp only [List.mem_append]
  repeat' split at h
  all_goals simp_all
theorem xs_mi {t i : Nat} {w : Jvm.Cond} (h : (xs_tb t)[i]? = some w) : w ∈ lw_tbl := xs_tbm (List.mem_of_getElem? h)
def xs_ix : List (Nat × Nat) := [(2, 173), (2, 175), (2, 177), (2, 179), (2, 181), (2, 183), (2, 13), (2, 15), (2, 17), (2, 19), (2, 21), (2, 23), (2, 25), (1, 56), (1, 58), (1, 60), (1, 62), (1, 64), (1, 163), (1, 165), (1, 167), (1, 169), (1, 171), (1, 173), (1, 195), (1, 197), (1, 199), (1, 201), (1, 203), (1, 205), (2, 103), (2, 105), (2, 107), (2, 109), (2, 111), (2, 113), (2, 115), (2, 117), (2, 119), (2, 121), (2, 123), (2, 125), (1, 113), (1, 115), (1, 117), (1, 119), (1, 121), (1, 123), (1, 125), (1, 127), (1, 231), (1, 233), (1, 235), (1, 237), (2, 61), (2, 63), (2, 65), (2, 67), (2, 69), (2, 71), (2, 73), (2, 142), (2, 144), (2, 146), (2, 148), (2, 150), (2, 152), (2, 154), (2, 156), (2, 158), (2, 160), (2, 162), (2, 164), (2, 39), (2, 41), (2, 43), (2, 45), (2, 47), (2, 49), (1, 137), (1, 139), (1, 141), (1, 143), (4, 226), (4, 228), (4, 230), (4, 232), (4, 234), (4, 236), (4, 238), (5, 0), (5, 2), (5, 4), (5, 6), (5, 8), (5, 10), (5, 12), (5, 14), (5, 16), (5, 18), (5, 20), (5, 22), (5, 24), (5, 26), (5, 28), (5, 30), (5, 32), (5, 34), (5, 36), (5, 38), (5, 40), (5, 42), (5, 44), (5, 46), (5, 48), (5, 50), (5, 52), (5, 54), (5, 56), (5, 58), (5, 60), (5, 62), (5, 64), (5, 66), (5, 68), (5, 70), (5, 72), (5, 74), (5, 76), (5, 78), (5, 80), (5, 82), (5, 84), (5, 86), (5, 88), (5, 90), (5, 92), (5, 94), (5, 96), (5, 98), (5, 100), (2, 167), (2, 168), (2, 169), (2, 170), (2, 171), (2, 172), (1, 84), (1, 54), (1, 162), (1, 134), (1, 132), (2, 132), (2, 58), (2, 60), (1, 230), (1, 105), (1, 88), (1, 98), (2, 135), (2, 8), (2, 9), (2, 10), (2, 11), (2, 12), (2, 6), (2, 7), (1, 50), (1, 40), (1, 43), (1, 47), (1, 55), (1, 155), (1, 156), (1, 157), (1, 158), (1, 159), (1, 160), (1, 185), (1, 186), (1, 187), (1, 189), (1, 191), (1, 194), (2, 93), (2, 89), (2, 90), (2, 91), (2, 92), (2, 101), (2, 99), (2, 95), (2, 94), (1, 193), (2, 96), (1, 95), (1, 188), (1, 101), (1, 108), (1, 48), (1, 53), (2, 98), (2, 97), (1, 45), (1, 190), (1, 192), (1, 112), (1, 110), (1, 106), (1, 81), (1, 86), (1, 90), (1, 94), (1, 100), (1, 104), (1, 222), (1, 224), (1, 226), (1, 228), (2, 56), (2, 59), (2, 52), (2, 53), (2, 54), (2, 55), (2, 57), (1, 80), (2, 33), (1, 229), (1, 223), (1, 225), (1, 227), (1, 161), (1, 51), (2, 37), (2, 36), (1, 44), (1, 87), (1, 91), (1, 96), (1, 42), (2, 34), (2, 35), (1, 102), (2, 38), (1, 49), (1, 109), (2, 133), (2, 134), (2, 128), (2, 129), (2, 130), (2, 131), (2, 138), (2, 141), (1, 83), (1, 52), (2, 139), (2, 137), (1, 41), (2, 136), (2, 102), (2, 100), (2, 140), (1, 46), (1, 92), (1, 97), (1, 131), (1, 135), (1, 136), (1, 133), (1, 82), (1, 85), (1, 103), (1, 89), (1, 93), (1, 99), (1, 107), (1, 111), (4, 173), (4, 174), (4, 175), (4, 176), (4, 178), (4, 179), (4, 180), (4, 181), (4, 182), (4, 183), (4, 184), (4, 185), (4, 186), (4, 187), (4, 189), (4, 190), (4, 191), (4, 192), (4, 193), (4, 194), (4, 195), (4, 196), (4, 198), (4, 199), (4, 200), (4, 201), (4, 202), (4, 203), (4, 204), (4, 205), (4, 207), (4, 208), (4, 209), (4, 210), (4, 211), (4, 212), (4, 213), (4, 214), (4, 215), (4, 216), (4, 217), (4, 218), (4, 219), (4, 220), (4, 221), (4, 222), (4, 223), (4, 224), (4, 225), (4, 168), (4, 169), (4, 170), (4, 206), (4, 188), (4, 177), (4, 171), (4, 197), (4, 172), (1, 22), (1, 23), (1, 28), (1, 2), (1, 27), (1, 70), (1, 4), (1, 69), (1, 149), (1, 6), (1, 148), (1, 180), (1, 8), (1, 211), (1, 9), (1, 210), (2, 80), (1, 13), (2, 79), (2, 190), (2, 191), (2, 192), (2, 201), (2, 202), (2, 203), (2, 209), (2, 210), (2, 211), (2, 229), (2, 230), (2, 231), (3, 0), (3, 1), (3, 2), (3, 11), (3, 12), (3, 13), (3, 19), (3, 20), (3, 21), (3, 31), (2, 214), (2, 215), (3, 32), (3, 33), (3, 34), (3, 64), (3, 65), (3, 66), (3, 68), (3, 69), (3, 70), (3, 72), (3, 74), (0, 2), (1, 1), (4, 70), (4, 71), (4, 72), (4, 79), (4, 80), (4, 81), (4, 104), (4, 105), (4, 106), (4, 112), (4, 113), (4, 114), (4, 125), (4, 126), (4, 127), (1, 5), (4, 133), (4, 134), (4, 135), (4, 142), (4, 143), (4, 144), (1, 14), (4, 150), (2, 234), (4, 151), (4, 152), (4, 153), (1, 11), (3, 76), (3, 77), (3, 78), (3, 80), (3, 81), (3, 82), (3, 84), (3, 85), (3, 86), (3, 96), (3, 97), (3, 98), (3, 222), (3, 224), (0, 17), (3, 239), (4, 0), (4, 1), (3, 226), (3, 227), (3, 228), (3, 230), (3, 232), (0, 18), (3, 238), (3, 53), (3, 54), (3, 234), (3, 235), (3, 236), (2, 5), (4, 120), (1, 153), (1, 7), (3, 116), (3, 109), (3, 110), (3, 117), (3, 118), (3, 119), (3, 121), (3, 122), (3, 123), (3, 125), (2, 218), (2, 219), (1, 30), (1, 31), (1, 32), (1, 34), (1, 35), (1, 3), (1, 37), (1, 38), (1, 151), (1, 152), (2, 194), (2, 195), (2, 213), (2, 217), (2, 221), (2, 222), (2, 223), (2, 233), (1, 182), (3, 4), (3, 5), (3, 23), (3, 24), (3, 216), (3, 217), (3, 90), (3, 91), (2, 88), (4, 54), (4, 55), (4, 56), (4, 58), (4, 60), (0, 28), (4, 37), (4, 39), (0, 26), (4, 32), (4, 34), (0, 25), (4, 36), (4, 41), (4, 42), (4, 43), (4, 45), (4, 47), (0, 27), (4, 50), (4, 51), (4, 52), (4, 49), (1, 79), (3, 93), (3, 95), (3, 94), (1, 16), (1, 221), (3, 176), (3, 178), (0, 11), (1, 10), (3, 180), (3, 182), (0, 12), (1, 213), (1, 219), (2, 3), (2, 2), (2, 30), (1, 12), (3, 100), (3, 102), (0, 3), (3, 157), (3, 159), (0, 8), (3, 192), (3, 194), (0, 13), (3, 200), (3, 202), (0, 14), (3, 218), (3, 220), (0, 16), (4, 116), (4, 117), (4, 118), (3, 184), (3, 185), (3, 186), (3, 208), (3, 210), (0, 15), (3, 104), (3, 106), (0, 4), (3, 126), (3, 128), (0, 5), (3, 131), (3, 133), (0, 6), (3, 147), (3, 148), (3, 149), (3, 151), (3, 153), (0, 7), (3, 108), (3, 112), (3, 113), (3, 114), (3, 130), (3, 135), (3, 136), (3, 137), (3, 139), (3, 140), (3, 141), (3, 143), (3, 144), (3, 145), (3, 161), (3, 163), (0, 9), (3, 168), (3, 170), (0, 10), (3, 188), (3, 189), (3, 190), (3, 165), (3, 166), (3, 167), (3, 172), (3, 173), (3, 174), (3, 196), (3, 197), (3, 198), (3, 204), (3, 205), (3, 206), (3, 212), (3, 213), (3, 214), (3, 155), (3, 156), (2, 82), (2, 86), (2, 85), (3, 36), (3, 37), (3, 38), (3, 40), (3, 42), (0, 0), (4, 3), (4, 5), (0, 19), (4, 11), (4, 13), (0, 21), (4, 15), (4, 17), (0, 22), (4, 19), (4, 21), (0, 23), (4, 27), (4, 28), (4, 29), (4, 30), (4, 62), (4, 63), (4, 64), (4, 83), (4, 85), (0, 29), (4, 87), (4, 89), (0, 30), (4, 7), (4, 9), (0, 20), (4, 92), (4, 94), (0, 31), (4, 96), (4, 97), (4, 98), (4, 100), (4, 101), (4, 102), (4, 137), (3, 44), (3, 45), (3, 46), (3, 48), (3, 50), (0, 1), (3, 56), (3, 57), (3, 58), (3, 52), (4, 23), (4, 25), (0, 24), (4, 91), (2, 32), (1, 72), (1, 77), (3, 88), (3, 89), (4, 74), (4, 167), (5, 115), (5, 117), (0, 32), (1, 15), (5, 123), (5, 124), (5, 130), (5, 131), (5, 141), (5, 142), (5, 164), (5, 165), (5, 149), (5, 151), (0, 33), (5, 153), (5, 155), (0, 34), (5, 161), (5, 162), (5, 167), (5, 169), (0, 35), (5, 171), (5, 173), (0, 36), (5, 219), (5, 221), (0, 48), (5, 227), (5, 229), (0, 50), (5, 183), (5, 185), (0, 39), (5, 187), (5, 189), (0, 40), (5, 175), (5, 177), (0, 37), (5, 195), (5, 197), (0, 42), (5, 191), (5, 193), (0, 41), (5, 215), (5, 217), (0, 47), (5, 179), (5, 181), (0, 38), (5, 199), (5, 201), (0, 43), (5, 203), (5, 205), (0, 44), (5, 211), (5, 213), (0, 46), (5, 207), (5, 209), (0, 45), (5, 235), (5, 237), (0, 52), (5, 239), (6, 1), (0, 53), (5, 223), (5, 225), (0, 49), (5, 231), (5, 233), (0, 51), (6, 3), (6, 5), (0, 54), (6, 11), (6, 13), (0, 56), (6, 7), (6, 9), (0, 55), (6, 15), (6, 17), (0, 57), (6, 47), (6, 49), (0, 59), (6, 51), (6, 53), (0, 60), (6, 55), (6, 57), (0, 61), (6, 43), (6, 45), (0, 58), (4, 159), (4, 160), (1, 0), (1, 20), (1, 19), (4, 165), (4, 164), (2, 186), (2, 187), (2, 188), (5, 103), (5, 104), (5, 105), (2, 197), (2, 198), (2, 199), (5, 107), (5, 108), (5, 109), (2, 205), (2, 206), (2, 207), (5, 111), (5, 112), (5, 113), (2, 225), (2, 226), (2, 227), (5, 119), (5, 120), (5, 121), (2, 236), (2, 237), (2, 238), (5, 126), (5, 127), (5, 128), (3, 7), (3, 8), (3, 9), (5, 133), (5, 134), (5, 135), (3, 15), (3, 16), (3, 17), (5, 137), (5, 138), (5, 139), (3, 27), (3, 28), (3, 29), (6, 35), (6, 36), (6, 37), (3, 60), (3, 61), (3, 62), (5, 157), (5, 158), (5, 159), (4, 66), (4, 67), (4, 68), (5, 145), (5, 146), (5, 147), (4, 75), (4, 76), (4, 77), (6, 39), (6, 40), (6, 41), (4, 108), (4, 109), (4, 110), (6, 23), (6, 24), (6, 25), (4, 121), (4, 122), (4, 123), (6, 19), (6, 20), (6, 21), (4, 129), (4, 130), (4, 131), (6, 59), (6, 60), (6, 61), (4, 138), (4, 139), (4, 140), (6, 63), (6, 64), (6, 65), (4, 146), (4, 147), (4, 148), (6, 27), (6, 28), (6, 29), (4, 155), (4, 156), (4, 157), (6, 31), (6, 32), (6, 33), (1, 25), (1, 26), (1, 67), (1, 68), (1, 146), (1, 147), (1, 177), (1, 178), (1, 208), (1, 209), (2, 76), (2, 78), (1, 214), (2, 28), (1, 216), (1, 217), (2, 0), (2, 1), (2, 83), (2, 84), (1, 73), (1, 75), (1, 17), (1, 18), (4, 162), (4, 163), (3, 26), (5, 144), (1, 130), (1, 176), (1, 183)]
def xs_ck (a n : Nat) : Bool := (((xt_Gw.drop a).take n).zip ((xs_ix.drop a).take n)).all (fun q => decide ((xs_tb q.2.1)[q.2.2]? = some q.1))
theorem xs_k0 : xs_ck 0 50 = true := by decide +kernel
theorem xs_k1 : xs_ck 50 50 = true := by decide +kernel
theorem xs_k2 : xs_ck 100 50 = true := by decide +kernel
theorem xs_k3 : xs_ck 150 50 = true := by decide +kernel
theorem xs_k4 : xs_ck 200 50 = true := by decide +kernel
theorem xs_k5 : xs_ck 250 50 = true := by decide +kernel
theorem xs_k6 : xs_ck 300 50 = true := by decide +kernel
theorem xs_k7 : xs_ck 350 50 = true := by decide +kernel
theorem xs_k8 : xs_ck 400 50 = true := by decide +kernel
theorem xs_k9 : xs_ck 450 50 = true := by decide +kernel
theorem xs_k10 : xs_ck 500 50 = true := by decide +kernel
theorem xs_k11 : xs_ck 550 50 = true := by decide +kernel
theorem xs_k12 : xs_ck 600 50 = true := by decide +kernel
theorem xs_k13 : xs_ck 650 50 = true := by decide +kernel
theorem xs_k14 : xs_ck 700 50 = true := by decide +kernel
theorem xs_k15 : xs_ck 750 50 = true := by decide +kernel
theorem xs_k16 : xs_ck 800 50 = true := by decide +kernel
theorem xs_k17 : xs_ck 850 50 = true := by decide +kernel
theorem xs_k18 : xs_ck 900 50 = true := by decide +kernel
theorem xs_len : xt_Gw.length = xs_ix.length := by decide +kernel
theorem xs_ckm {a n i : Nat} {w : Jvm.Cond} (h : xs_ck a n = true) (hi : xt_Gw[i]? = some w) (h1 : a ≤ i) (h2 : i < a + n) : w ∈ lw_tbl := by
  have hlt : i < xt_Gw.length := (List.getElem?_eq_some_iff.mp hi).1
  have hl2 : i < xs_ix.length := by rw [← xs_len]; exact hlt
  have hj : xs_ix[i]? = some (xs_ix[i]'hl2) := List.getElem?_eq_getElem _
  have e1 : ((xt_Gw.drop a).take n)[i - a]? = some w := by
    rw [List.getElem?_take, if_pos (by omega), List.getElem?_drop, show a + (i - a) = i by omega]; exact hi
  have e2 : ((xs_ix.drop a).take n)[i - a]? = some (xs_ix[i]'hl2) := by
    rw [List.getElem?_take, if_pos (by omega), List.getElem?_drop, show a + (i - a) = i by omega]; exact hj
  have hz : (w, xs_ix[i]'hl2) ∈ ((xt_Gw.drop a).take n).zip ((xs_ix.drop a).take n) := List.mem_of_getElem? (i := i - a) (by rw [List.getElem?_zip_eq_some]; exact ⟨e1, e2⟩)
  have := List.all_eq_true.mp h _ hz
  simp only [decide_eq_true_eq] at this
  exact xs_mi this
theorem xs_inw : ∀ w ∈ xt_Gw, w ∈ lw_tbl := by
  intro w hw
  obtain ⟨i, hi⟩ := List.getElem?_of_mem hw
  have hlt : i < xt_Gw.length := (List.getElem?_eq_some_iff.mp hi).1
  have hN : xt_Gw.length = 926 := by decide +kernel
  by_cases c0 : i < 50
  · exact xs_ckm xs_k0 hi (by omega) (by omega)
  by_cases c1 : i < 100
  · exact xs_ckm xs_k1 hi (by omega) (by omega)
  by_cases c2 : i < 150
  · exact xs_ckm xs_k2 hi (by omega) (by omega)
  by_cases c3 : i < 200
  · exact xs_ckm xs_k3 hi (by omega) (by omega)
  by_cases c4 : i < 250
  · exact xs_ckm xs_k4 hi (by omega) (by omega)
  by_cases c5 : i < 300
  · exact xs_ckm xs_k5 hi (by omega) (by omega)
  by_cases c6 : i < 350
  · exact xs_ckm xs_k6 hi (by omega) (by omega)
  by_cases c7 : i < 400
  · exact xs_ckm xs_k7 hi (by omega) (by omega)
  by_cases c8 : i < 450
  · exact xs_ckm xs_k8 hi (by omega) (by omega)
  by_cases c9 : i < 500
  · exact xs_ckm xs_k9 hi (by omega) (by omega)
  by_cases c10 : i < 550
  · exact xs_ckm xs_k10 hi (by omega) (by omega)
  by_cases c11 : i < 600
  · exact xs_ckm xs_k11 hi (by omega) (by omega)
  by_cases c12 : i < 650
  · exact xs_ckm xs_k12 hi (by omega) (by omega)
  by_cases c13 : i < 700
  · exact xs_ckm xs_k13 hi (by omega) (by omega)
  by_cases c14 : i < 750
  · exact xs_ckm xs_k14 hi (by omega) (by omega)
  by_cases c15 : i < 800
  · exact xs_ckm xs_k15 hi (by omega) (by omega)
  by_cases c16 : i < 850
  · exact xs_ckm xs_k16 hi (by omega) (by omega)
  by_cases c17 : i < 900
  · exact xs_ckm xs_k17 hi (by omega) (by omega)
  by_cases c18 : i < 950
  · exact xs_ckm xs_k18 hi (by omega) (by omega)
  omega
theorem xs_g0 : xt_cw 0 ∈ lw_tbl := xs_mi (t := 1) (i := 21) rfl
theorem xs_g1 : xt_cw 1 ∈ lw_tbl := xs_mi (t := 2) (i := 189) rfl
theorem xs_g2 : xt_cw 2 ∈ lw_tbl := xs_mi (t := 2) (i := 200) rfl
theorem xs_g3 : xt_cw 3 ∈ lw_tbl := xs_mi (t := 2) (i := 208) rfl
theorem xs_g4 : xt_cw 4 ∈ lw_tbl := xs_mi (t := 2) (i := 228) rfl
theorem xs_g5 : xt_cw 5 ∈ lw_tbl := xs_mi (t := 2) (i := 239) rfl
theorem xs_g6 : xt_cw 6 ∈ lw_tbl := xs_mi (t := 3) (i := 10) rfl
theorem xs_g7 : xt_cw 7 ∈ lw_tbl := xs_mi (t := 3) (i := 18) rfl
theorem xs_g8 : xt_cw 8 ∈ lw_tbl := xs_mi (t := 3) (i := 30) rfl
theorem xs_g9 : xt_cw 9 ∈ lw_tbl := xs_mi (t := 3) (i := 63) rfl
theorem xs_g10 : xt_cw 10 ∈ lw_tbl := xs_mi (t := 4) (i := 69) rfl
theorem xs_g11 : xt_cw 11 ∈ lw_tbl := xs_mi (t := 4) (i := 78) rfl
theorem xs_g12 : xt_cw 12 ∈ lw_tbl := xs_mi (t := 4) (i := 111) rfl
theorem xs_g13 : xt_cw 13 ∈ lw_tbl := xs_mi (t := 4) (i := 124) rfl
theorem xs_g14 : xt_cw 14 ∈ lw_tbl := xs_mi (t := 4) (i := 132) rfl
theorem xs_g15 : xt_cw 15 ∈ lw_tbl := xs_mi (t := 4) (i := 141) rfl
theorem xs_g16 : xt_cw 16 ∈ lw_tbl := xs_mi (t := 4) (i := 149) rfl
theorem xs_g17 : xt_cw 17 ∈ lw_tbl := xs_mi (t := 4) (i := 158) rfl
theorem xs_g18 : xt_cw 18 ∈ lw_tbl := xs_mi (t := 3) (i := 75) rfl
theorem xs_g19 : xt_cw 19 ∈ lw_tbl := xs_mi (t := 3) (i := 225) rfl
theorem xs_g20 : xt_cw 20 ∈ lw_tbl := xs_mi (t := 3) (i := 233) rfl
theorem xs_g21 : xt_cw 21 ∈ lw_tbl := xs_mi (t := 2) (i := 4) rfl
theorem xs_g22 : xt_cw 22 ∈ lw_tbl := xs_mi (t := 4) (i := 119) rfl
theorem xs_g23 : xt_cw 23 ∈ lw_tbl := xs_mi (t := 3) (i := 111) rfl
theorem xs_g24 : xt_cw 24 ∈ lw_tbl := xs_mi (t := 3) (i := 120) rfl
theorem xs_g25 : xt_cw 25 ∈ lw_tbl := xs_mi (t := 3) (i := 124) rfl
theorem xs_g26 : xt_cw 26 ∈ lw_tbl := xs_mi (t := 3) (i := 115) rfl
theorem xs_g27 : xt_cw 27 ∈ lw_tbl := xs_mi (t := 3) (i := 187) rfl
theorem xs_g28 : xt_cw 28 ∈ lw_tbl := xs_mi (t := 3) (i := 150) rfl
theorem xs_g29 : xt_cw 29 ∈ lw_tbl := xs_mi (t := 3) (i := 191) rfl
theorem xs_g30 : xt_cw 30 ∈ lw_tbl := xs_mi (t := 3) (i := 199) rfl
theorem xs_g31 : xt_cw 31 ∈ lw_tbl := xs_mi (t := 4) (i := 154) rfl
theorem xs_g32 : xt_cw 32 ∈ lw_tbl := xs_mi (t := 1) (i := 29) rfl
theorem xs_g33 : xt_cw 33 ∈ lw_tbl := xs_mi (t := 1) (i := 33) rfl
theorem xs_g34 : xt_cw 34 ∈ lw_tbl := xs_mi (t := 3) (i := 47) rfl
theorem xs_g35 : xt_cw 35 ∈ lw_tbl := xs_mi (t := 1) (i := 150) rfl
theorem xs_g36 : xt_cw 36 ∈ lw_tbl := xs_mi (t := 2) (i := 235) rfl
theorem xs_g37 : xt_cw 37 ∈ lw_tbl := xs_mi (t := 2) (i := 196) rfl
theorem xs_g38 : xt_cw 38 ∈ lw_tbl := xs_mi (t := 2) (i := 216) rfl
theorem xs_g39 : xt_cw 39 ∈ lw_tbl := xs_mi (t := 2) (i := 193) rfl
theorem xs_g40 : xt_cw 40 ∈ lw_tbl := xs_mi (t := 2) (i := 204) rfl
theorem xs_g41 : xt_cw 41 ∈ lw_tbl := xs_mi (t := 2) (i := 212) rfl
theorem xs_g42 : xt_cw 42 ∈ lw_tbl := xs_mi (t := 2) (i := 224) rfl
theorem xs_g43 : xt_cw 43 ∈ lw_tbl := xs_mi (t := 2) (i := 220) rfl
theorem xs_g44 : xt_cw 44 ∈ lw_tbl := xs_mi (t := 2) (i := 232) rfl
theorem xs_g45 : xt_cw 45 ∈ lw_tbl := xs_mi (t := 3) (i := 229) rfl
theorem xs_g46 : xt_cw 46 ∈ lw_tbl := xs_mi (t := 3) (i := 83) rfl
theorem xs_g47 : xt_cw 47 ∈ lw_tbl := xs_mi (t := 3) (i := 138) rfl
theorem xs_g48 : xt_cw 48 ∈ lw_tbl := xs_mi (t := 3) (i := 146) rfl
theorem xs_g49 : xt_cw 49 ∈ lw_tbl := xs_mi (t := 3) (i := 142) rfl
theorem xs_g50 : xt_cw 50 ∈ lw_tbl := xs_mi (t := 1) (i := 181) rfl
theorem xs_g51 : xt_cw 51 ∈ lw_tbl := xs_mi (t := 3) (i := 6) rfl
theorem xs_g52 : xt_cw 52 ∈ lw_tbl := xs_mi (t := 3) (i := 25) rfl
theorem xs_g53 : xt_cw 53 ∈ lw_tbl := xs_mi (t := 3) (i := 3) rfl
theorem xs_g54 : xt_cw 54 ∈ lw_tbl := xs_mi (t := 3) (i := 22) rfl
theorem xs_g55 : xt_cw 55 ∈ lw_tbl := xs_mi (t := 3) (i := 207) rfl
theorem xs_g56 : xt_cw 56 ∈ lw_tbl := xs_mi (t := 3) (i := 215) rfl
theorem xs_g57 : xt_cw 57 ∈ lw_tbl := xs_mi (t := 3) (i := 14) rfl
theorem xs_g58 : xt_cw 58 ∈ lw_tbl := xs_mi (t := 4) (i := 57) rfl
theorem xs_g59 : xt_cw 59 ∈ lw_tbl := xs_mi (t := 2) (i := 87) rfl
theorem xs_g60 : xt_cw 60 ∈ lw_tbl := xs_mi (t := 3) (i := 39) rfl
theorem xs_g61 : xt_cw 61 ∈ lw_tbl := xs_mi (t := 4) (i := 53) rfl
theorem xs_g62 : xt_cw 62 ∈ lw_tbl := xs_mi (t := 3) (i := 59) rfl
theorem xs_g63 : xt_cw 63 ∈ lw_tbl := xs_mi (t := 4) (i := 31) rfl
theorem xs_g64 : xt_cw 64 ∈ lw_tbl := xs_mi (t := 4) (i := 65) rfl
theorem xs_g65 : xt_cw 65 ∈ lw_tbl := xs_mi (t := 4) (i := 99) rfl
theorem xs_g66 : xt_cw 66 ∈ lw_tbl := xs_mi (t := 4) (i := 103) rfl
theorem xs_g67 : xt_cw 67 ∈ lw_tbl := xs_mi (t := 4) (i := 44) rfl
theorem xs_g68 : xt_cw 68 ∈ lw_tbl := xs_mi (t := 4) (i := 145) rfl
theorem xs_g69 : xt_cw 69 ∈ lw_tbl := xs_mi (t := 4) (i := 48) rfl
theorem xs_g70 : xt_cw 70 ∈ lw_tbl := xs_mi (t := 4) (i := 35) rfl
theorem xs_g71 : xt_cw 71 ∈ lw_tbl := xs_mi (t := 4) (i := 61) rfl
theorem xs_g72 : xt_cw 72 ∈ lw_tbl := xs_mi (t := 4) (i := 40) rfl
theorem xs_g73 : xt_cw 73 ∈ lw_tbl := xs_mi (t := 1) (i := 78) rfl
theorem xs_g74 : xt_cw 74 ∈ lw_tbl := xs_mi (t := 3) (i := 92) rfl
theorem xs_g75 : xt_cw 75 ∈ lw_tbl := xs_mi (t := 3) (i := 79) rfl
theorem xs_g76 : xt_cw 76 ∈ lw_tbl := xs_mi (t := 4) (i := 128) rfl
theorem xs_g77 : xt_cw 77 ∈ lw_tbl := xs_mi (t := 1) (i := 220) rfl
theorem xs_g78 : xt_cw 78 ∈ lw_tbl := xs_mi (t := 3) (i := 175) rfl
theorem xs_g79 : xt_cw 79 ∈ lw_tbl := xs_mi (t := 3) (i := 179) rfl
theorem xs_g80 : xt_cw 80 ∈ lw_tbl := xs_mi (t := 3) (i := 183) rfl
theorem xs_g81 : xt_cw 81 ∈ lw_tbl := xs_mi (t := 1) (i := 212) rfl
theorem xs_g82 : xt_cw 82 ∈ lw_tbl := xs_mi (t := 3) (i := 99) rfl
theorem xs_g83 : xt_cw 83 ∈ lw_tbl := xs_mi (t := 4) (i := 115) rfl
theorem xs_g84 : xt_cw 84 ∈ lw_tbl := xs_mi (t := 4) (i := 107) rfl
theorem xs_g85 : xt_cw 85 ∈ lw_tbl := xs_mi (t := 3) (i := 103) rfl
theorem xs_g86 : xt_cw 86 ∈ lw_tbl := xs_mi (t := 3) (i := 107) rfl
theorem xs_g87 : xt_cw 87 ∈ lw_tbl := xs_mi (t := 3) (i := 129) rfl
theorem xs_g88 : xt_cw 88 ∈ lw_tbl := xs_mi (t := 3) (i := 134) rfl
theorem xs_g89 : xt_cw 89 ∈ lw_tbl := xs_mi (t := 3) (i := 160) rfl
theorem xs_g90 : xt_cw 90 ∈ lw_tbl := xs_mi (t := 3) (i := 164) rfl
theorem xs_g91 : xt_cw 91 ∈ lw_tbl := xs_mi (t := 3) (i := 171) rfl
theorem xs_g92 : xt_cw 92 ∈ lw_tbl := xs_mi (t := 3) (i := 195) rfl
theorem xs_g93 : xt_cw 93 ∈ lw_tbl := xs_mi (t := 3) (i := 203) rfl
theorem xs_g94 : xt_cw 94 ∈ lw_tbl := xs_mi (t := 3) (i := 221) rfl
theorem xs_g95 : xt_cw 95 ∈ lw_tbl := xs_mi (t := 3) (i := 211) rfl
theorem xs_g96 : xt_cw 96 ∈ lw_tbl := xs_mi (t := 3) (i := 154) rfl
theorem xs_g97 : xt_cw 97 ∈ lw_tbl := xs_mi (t := 2) (i := 81) rfl
theorem xs_g98 : xt_cw 98 ∈ lw_tbl := xs_mi (t := 3) (i := 237) rfl
theorem xs_g99 : xt_cw 99 ∈ lw_tbl := xs_mi (t := 3) (i := 35) rfl
theorem xs_g100 : xt_cw 100 ∈ lw_tbl := xs_mi (t := 4) (i := 2) rfl
theorem xs_g101 : xt_cw 101 ∈ lw_tbl := xs_mi (t := 4) (i := 82) rfl
theorem xs_g102 : xt_cw 102 ∈ lw_tbl := xs_mi (t := 4) (i := 136) rfl
theorem xs_g103 : xt_cw 103 ∈ lw_tbl := xs_mi (t := 3) (i := 43) rfl
theorem xs_g104 : xt_cw 104 ∈ lw_tbl := xs_mi (t := 3) (i := 51) rfl
theorem xs_g105 : xt_cw 105 ∈ lw_tbl := xs_mi (t := 4) (i := 10) rfl
theorem xs_g106 : xt_cw 106 ∈ lw_tbl := xs_mi (t := 4) (i := 26) rfl
theorem xs_g107 : xt_cw 107 ∈ lw_tbl := xs_mi (t := 4) (i := 86) rfl
theorem xs_g108 : xt_cw 108 ∈ lw_tbl := xs_mi (t := 4) (i := 90) rfl
theorem xs_g109 : xt_cw 109 ∈ lw_tbl := xs_mi (t := 4) (i := 95) rfl
theorem xs_g110 : xt_cw 110 ∈ lw_tbl := xs_mi (t := 4) (i := 6) rfl
theorem xs_g111 : xt_cw 111 ∈ lw_tbl := xs_mi (t := 4) (i := 14) rfl
theorem xs_g112 : xt_cw 112 ∈ lw_tbl := xs_mi (t := 4) (i := 18) rfl
theorem xs_g113 : xt_cw 113 ∈ lw_tbl := xs_mi (t := 4) (i := 22) rfl
theorem xs_g114 : xt_cw 114 ∈ lw_tbl := xs_mi (t := 2) (i := 31) rfl
theorem xs_g115 : xt_cw 115 ∈ lw_tbl := xs_mi (t := 1) (i := 71) rfl
theorem xs_g116 : xt_cw 116 ∈ lw_tbl := xs_mi (t := 3) (i := 67) rfl
theorem xs_g117 : xt_cw 117 ∈ lw_tbl := xs_mi (t := 3) (i := 55) rfl
theorem xs_g118 : xt_cw 118 ∈ lw_tbl := xs_mi (t := 3) (i := 71) rfl
theorem xs_g119 : xt_cw 119 ∈ lw_tbl := xs_mi (t := 3) (i := 87) rfl
theorem xs_g120 : xt_cw 120 ∈ lw_tbl := xs_mi (t := 4) (i := 73) rfl
theorem xs_g121 : xt_cw 121 ∈ lw_tbl := xs_mi (t := 4) (i := 166) rfl
theorem xs_g122 : xt_cw 122 ∈ lw_tbl := xs_mi (t := 5) (i := 118) rfl
theorem xs_g123 : xt_cw 123 ∈ lw_tbl := xs_mi (t := 5) (i := 125) rfl
theorem xs_g124 : xt_cw 124 ∈ lw_tbl := xs_mi (t := 5) (i := 132) rfl
theorem xs_g125 : xt_cw 125 ∈ lw_tbl := xs_mi (t := 5) (i := 106) rfl
theorem xs_g126 : xt_cw 126 ∈ lw_tbl := xs_mi (t := 5) (i := 110) rfl
theorem xs_g127 : xt_cw 127 ∈ lw_tbl := xs_mi (t := 5) (i := 114) rfl
theorem xs_g128 : xt_cw 128 ∈ lw_tbl := xs_mi (t := 5) (i := 122) rfl
theorem xs_g129 : xt_cw 129 ∈ lw_tbl := xs_mi (t := 5) (i := 129) rfl
theorem xs_g130 : xt_cw 130 ∈ lw_tbl := xs_mi (t := 5) (i := 136) rfl
theorem xs_g131 : xt_cw 131 ∈ lw_tbl := xs_mi (t := 5) (i := 143) rfl
theorem xs_g132 : xt_cw 132 ∈ lw_tbl := xs_mi (t := 5) (i := 140) rfl
theorem xs_g133 : xt_cw 133 ∈ lw_tbl := xs_mi (t := 5) (i := 163) rfl
theorem xs_g134 : xt_cw 134 ∈ lw_tbl := xs_mi (t := 5) (i := 166) rfl
theorem xs_g135 : xt_cw 135 ∈ lw_tbl := xs_mi (t := 5) (i := 194) rfl
theorem xs_g136 : xt_cw 136 ∈ lw_tbl := xs_mi (t := 5) (i := 152) rfl
theorem xs_g137 : xt_cw 137 ∈ lw_tbl := xs_mi (t := 5) (i := 156) rfl
theorem xs_g138 : xt_cw 138 ∈ lw_tbl := xs_mi (t := 5) (i := 148) rfl
theorem xs_g139 : xt_cw 139 ∈ lw_tbl := xs_mi (t := 5) (i := 160) rfl
theorem xs_g140 : xt_cw 140 ∈ lw_tbl := xs_mi (t := 5) (i := 170) rfl
theorem xs_g141 : xt_cw 141 ∈ lw_tbl := xs_mi (t := 6) (i := 22) rfl
theorem xs_g142 : xt_cw 142 ∈ lw_tbl := xs_mi (t := 5) (i := 186) rfl
theorem xs_g143 : xt_cw 143 ∈ lw_tbl := xs_mi (t := 5) (i := 202) rfl
theorem xs_g144 : xt_cw 144 ∈ lw_tbl := xs_mi (t := 5) (i := 190) rfl
theorem xs_g145 : xt_cw 145 ∈ lw_tbl := xs_mi (t := 5) (i := 182) rfl
theorem xs_g146 : xt_cw 146 ∈ lw_tbl := xs_mi (t := 5) (i := 174) rfl
theorem xs_g147 : xt_cw 147 ∈ lw_tbl := xs_mi (t := 5) (i := 178) rfl
theorem xs_g148 : xt_cw 148 ∈ lw_tbl := xs_mi (t := 5) (i := 198) rfl
theorem xs_g149 : xt_cw 149 ∈ lw_tbl := xs_mi (t := 5) (i := 214) rfl
theorem xs_g150 : xt_cw 150 ∈ lw_tbl := xs_mi (t := 5) (i := 210) rfl
theorem xs_g151 : xt_cw 151 ∈ lw_tbl := xs_mi (t := 5) (i := 206) rfl
theorem xs_g152 : xt_cw 152 ∈ lw_tbl := xs_mi (t := 5) (i := 218) rfl
theorem xs_g153 : xt_cw 153 ∈ lw_tbl := xs_mi (t := 6) (i := 26) rfl
theorem xs_g154 : xt_cw 154 ∈ lw_tbl := xs_mi (t := 6) (i := 30) rfl
theorem xs_g155 : xt_cw 155 ∈ lw_tbl := xs_mi (t := 6) (i := 34) rfl
theorem xs_g156 : xt_cw 156 ∈ lw_tbl := xs_mi (t := 5) (i := 226) rfl
theorem xs_g157 : xt_cw 157 ∈ lw_tbl := xs_mi (t := 5) (i := 238) rfl
theorem xs_g158 : xt_cw 158 ∈ lw_tbl := xs_mi (t := 6) (i := 2) rfl
theorem xs_g159 : xt_cw 159 ∈ lw_tbl := xs_mi (t := 5) (i := 234) rfl
theorem xs_g160 : xt_cw 160 ∈ lw_tbl := xs_mi (t := 6) (i := 10) rfl
theorem xs_g161 : xt_cw 161 ∈ lw_tbl := xs_mi (t := 6) (i := 18) rfl
theorem xs_g162 : xt_cw 162 ∈ lw_tbl := xs_mi (t := 6) (i := 38) rfl
theorem xs_g163 : xt_cw 163 ∈ lw_tbl := xs_mi (t := 5) (i := 222) rfl
theorem xs_g164 : xt_cw 164 ∈ lw_tbl := xs_mi (t := 5) (i := 230) rfl
theorem xs_g165 : xt_cw 165 ∈ lw_tbl := xs_mi (t := 6) (i := 6) rfl
theorem xs_g166 : xt_cw 166 ∈ lw_tbl := xs_mi (t := 6) (i := 14) rfl
theorem xs_g167 : xt_cw 167 ∈ lw_tbl := xs_mi (t := 6) (i := 50) rfl
theorem xs_g168 : xt_cw 168 ∈ lw_tbl := xs_mi (t := 6) (i := 54) rfl
theorem xs_g169 : xt_cw 169 ∈ lw_tbl := xs_mi (t := 6) (i := 58) rfl
theorem xs_g170 : xt_cw 170 ∈ lw_tbl := xs_mi (t := 6) (i := 46) rfl
theorem xs_g171 : xt_cw 171 ∈ lw_tbl := xs_mi (t := 6) (i := 42) rfl
theorem xs_g172 : xt_cw 172 ∈ lw_tbl := xs_mi (t := 6) (i := 62) rfl
theorem xs_g173 : xt_cw 173 ∈ lw_tbl := xs_mi (t := 6) (i := 66) rfl
theorem xs_g174 : xt_cw 174 ∈ lw_tbl := xs_mi (t := 1) (i := 154) rfl
theorem xs_g175 : xt_cw 175 ∈ lw_tbl := xs_mi (t := 4) (i := 161) rfl
def xs_h0 : List Jvm.Cond := [xt_cw 0, xt_cw 1, xt_cw 2, xt_cw 3, xt_cw 4, xt_cw 5, xt_cw 6, xt_cw 7, xt_cw 8, xt_cw 9, xt_cw 10, xt_cw 11, xt_cw 12, xt_cw 13, xt_cw 14, xt_cw 15]
theorem xs_hm0 : ∀ w ∈ xs_h0, w ∈ lw_tbl := List.forall_mem_cons.mpr ⟨xs_g0, List.forall_mem_cons.mpr ⟨xs_g1, List.forall_mem_cons.mpr ⟨xs_g2, List.forall_mem_cons.mpr ⟨xs_g3, List.forall_mem_cons.mpr ⟨xs_g4, List.forall_mem_cons.mpr ⟨xs_g5, List.forall_mem_cons.mpr ⟨xs_g6, List.forall_mem_cons.mpr ⟨xs_g7, List.forall_mem_cons.mpr ⟨xs_g8, List.forall_mem_cons.mpr ⟨xs_g9, List.forall_mem_cons.mpr ⟨xs_g10, List.forall_mem_cons.mpr ⟨xs_g11, List.forall_mem_cons.mpr ⟨xs_g12, List.forall_mem_cons.mpr ⟨xs_g13, List.forall_mem_cons.mpr ⟨xs_g14, List.forall_mem_cons.mpr ⟨xs_g15, fun _ h => absurd h List.not_mem_nil⟩⟩⟩⟩⟩⟩⟩⟩⟩⟩⟩⟩⟩⟩⟩⟩
def xs_h1 : List Jvm.Cond := [xt_cw 16, xt_cw 17, xt_cw 18, xt_cw 19, xt_cw 20, xt_cw 21, xt_cw 22, xt_cw 23, xt_cw 24, xt_cw 25, xt_cw 26, xt_cw 27, xt_cw 28, xt_cw 29, xt_cw 30, xt_cw 31]
theorem xs_hm1 : ∀ w ∈ xs_h1, w ∈ lw_tbl := List.forall_mem_cons.mpr ⟨xs_g16, List.forall_mem_cons.mpr ⟨xs_g17, List.forall_mem_cons.mpr ⟨xs_g18, List.forall_mem_cons.mpr ⟨xs_g19, List.forall_mem_cons.mpr ⟨xs_g20, List.forall_mem_cons.mpr ⟨xs_g21, List.forall_mem_cons.mpr ⟨xs_g22, List.forall_mem_cons.mpr ⟨xs_g23, List.forall_mem_cons.mpr ⟨xs_g24, List.forall_mem_cons.mpr ⟨xs_g25, List.forall_mem_cons.mpr ⟨xs_g26, List.forall_mem_cons.mpr ⟨xs_g27, List.forall_mem_cons.mpr ⟨xs_g28, List.forall_mem_cons.mpr ⟨xs_g29, List.forall_mem_cons.mpr ⟨xs_g30, List.forall_mem_cons.mpr ⟨xs_g31, fun _ h => absurd h List.not_mem_nil⟩⟩⟩⟩⟩⟩⟩⟩⟩⟩⟩⟩⟩⟩⟩⟩
def xs_h2 : List Jvm.Cond := [xt_cw 32, xt_cw 33, xt_cw 34, xt_cw 35, xt_cw 36, xt_cw 37, xt_cw 38, xt_cw 39, xt_cw 40, xt_cw 41, xt_cw 42, xt_cw 43, xt_cw 44, xt_cw 45, xt_cw 46, xt_cw 47]
theorem xs_hm2 : ∀ w ∈ xs_h2, w ∈ lw_tbl := List.forall_mem_cons.mpr ⟨xs_g32, List.forall_mem_cons.mpr ⟨xs_g33, List.forall_mem_cons.mpr ⟨xs_g34, List.forall_mem_cons.mpr ⟨xs_g35, List.forall_mem_cons.mpr ⟨xs_g36, List.forall_mem_cons.mpr ⟨xs_g37, List.forall_mem_cons.mpr ⟨xs_g38, List.forall_mem_cons.mpr ⟨xs_g39, List.forall_mem_cons.mpr ⟨xs_g40, List.forall_mem_cons.mpr ⟨xs_g41, List.forall_mem_cons.mpr ⟨xs_g42, List.forall_mem_cons.mpr ⟨xs_g43, List.forall_mem_cons.mpr ⟨xs_g44, List.forall_mem_cons.mpr ⟨xs_g45, List.forall_mem_cons.mpr ⟨xs_g46, List.forall_mem_cons.mpr ⟨xs_g47, fun _ h => absurd h List.not_mem_nil⟩⟩⟩⟩⟩⟩⟩⟩⟩⟩⟩⟩⟩⟩⟩⟩
def xs_h3 : List Jvm.Cond := [xt_cw 48, xt_cw 49, xt_cw 50, xt_cw 51, xt_cw 52, xt_cw 53, xt_cw 54, xt_cw 55, xt_cw 56, xt_cw 57, xt_cw 58, xt_cw 59, xt_cw 60, xt_cw 61, xt_cw 62, xt_cw 63]
theorem xs_hm3 : ∀ w ∈ xs_h3, w ∈ lw_tbl := List.forall_mem_cons.mpr ⟨xs_g48, List.forall_mem_cons.mpr ⟨xs_g49, List.forall_mem_cons.mpr ⟨xs_g50, List.forall_mem_cons.mpr ⟨xs_g51, List.forall_mem_cons.mpr ⟨xs_g52, List.forall_mem_cons.mpr ⟨xs_g53, List.forall_mem_cons.mpr ⟨xs_g54, List.forall_mem_cons.mpr ⟨xs_g55, List.forall_mem_cons.mpr ⟨xs_g56, List.forall_mem_cons.mpr ⟨xs_g57, List.forall_mem_cons.mpr ⟨xs_g58, List.forall_mem_cons.mpr ⟨xs_g59, List.forall_mem_cons.mpr ⟨xs_g60, List.forall_mem_cons.mpr ⟨xs_g61, List.forall_mem_cons.mpr ⟨xs_g62, List.forall_mem_cons.mpr ⟨xs_g63, fun _ h => absurd h List.not_mem_nil⟩⟩⟩⟩⟩⟩⟩⟩⟩⟩⟩⟩⟩⟩⟩⟩
def xs_h4 : List Jvm.Cond := [xt_cw 64, xt_cw 65, xt_cw 66, xt_cw 67, xt_cw 68, xt_cw 69, xt_cw 70, xt_cw 71, xt_cw 72, xt_cw 73, xt_cw 74, xt_cw 75, xt_cw 76, xt_cw 77, xt_cw 78, xt_cw 79]
theorem xs_hm4 : ∀ w ∈ xs_h4, w ∈ lw_tbl := List.forall_mem_cons.mpr ⟨xs_g64, List.forall_mem_cons.mpr ⟨xs_g65, List.forall_mem_cons.mpr ⟨xs_g66, List.forall_mem_cons.mpr ⟨xs_g67, List.forall_mem_cons.mpr ⟨xs_g68, List.forall_mem_cons.mpr ⟨xs_g69, List.forall_mem_cons.mpr ⟨xs_g70, List.forall_mem_cons.mpr ⟨xs_g71, List.forall_mem_cons.mpr ⟨xs_g72, List.forall_mem_cons.mpr ⟨xs_g73, List.forall_mem_cons.mpr ⟨xs_g74, List.forall_mem_cons.mpr ⟨xs_g75, List.forall_mem_cons.mpr ⟨xs_g76, List.forall_mem_cons.mpr ⟨xs_g77, List.forall_mem_cons.mpr ⟨xs_g78, List.forall_mem_cons.mpr ⟨xs_g79, fun _ h => absurd h List.not_mem_nil⟩⟩⟩⟩⟩⟩⟩⟩⟩⟩⟩⟩⟩⟩⟩⟩
def xs_h5 : List Jvm.Cond := [xt_cw 80, xt_cw 81, xt_cw 82, xt_cw 83, xt_cw 84, xt_cw 85, xt_cw 86, xt_cw 87, xt_cw 88, xt_cw 89, xt_cw 90, xt_cw 91, xt_cw 92, xt_cw 93, xt_cw 94, xt_cw 95]
theorem xs_hm5 : ∀ w ∈ xs_h5, w ∈ lw_tbl := List.forall_mem_cons.mpr ⟨xs_g80, List.forall_mem_cons.mpr ⟨xs_g81, List.forall_mem_cons.mpr ⟨xs_g82, List.forall_mem_cons.mpr ⟨xs_g83, List.forall_mem_cons.mpr ⟨xs_g84, List.forall_mem_cons.mpr ⟨xs_g85, List.forall_mem_cons.mpr ⟨xs_g86, List.forall_mem_cons.mpr ⟨xs_g87, List.forall_mem_cons.mpr ⟨xs_g88, List.forall_mem_cons.mpr ⟨xs_g89, List.forall_mem_cons.mpr ⟨xs_g90, List.forall_mem_cons.mpr ⟨xs_g91, List.forall_mem_cons.mpr ⟨xs_g92, List.forall_mem_cons.mpr ⟨xs_g93, List.forall_mem_cons.mpr ⟨xs_g94, List.forall_mem_cons.mpr ⟨xs_g95, fun _ h => absurd h List.not_mem_nil⟩⟩⟩⟩⟩⟩⟩⟩⟩⟩⟩⟩⟩⟩⟩⟩
def xs_h6 : List Jvm.Cond := [xt_cw 96, xt_cw 97, xt_cw 98, xt_cw 99, xt_cw 100, xt_cw 101, xt_cw 102, xt_cw 103, xt_cw 104, xt_cw 105, xt_cw 106, xt_cw 107, xt_cw 108, xt_cw 109, xt_cw 110, xt_cw 111]
theorem xs_hm6 : ∀ w ∈ xs_h6, w ∈ lw_tbl := List.forall_mem_cons.mpr ⟨xs_g96, List.forall_mem_cons.mpr ⟨xs_g97, List.forall_mem_cons.mpr ⟨xs_g98, List.forall_mem_cons.mpr ⟨xs_g99, List.forall_mem_cons.mpr ⟨xs_g100, List.forall_mem_cons.mpr ⟨xs_g101, List.forall_mem_cons.mpr ⟨xs_g102, List.forall_mem_cons.mpr ⟨xs_g103, List.forall_mem_cons.mpr ⟨xs_g104, List.forall_mem_cons.mpr ⟨xs_g105, List.forall_mem_cons.mpr ⟨xs_g106, List.forall_mem_cons.mpr ⟨xs_g107, List.forall_mem_cons.mpr ⟨xs_g108, List.forall_mem_cons.mpr ⟨xs_g109, List.forall_mem_cons.mpr ⟨xs_g110, List.forall_mem_cons.mpr ⟨xs_g111, fun _ h => absurd h List.not_mem_nil⟩⟩⟩⟩⟩⟩⟩⟩⟩⟩⟩⟩⟩⟩⟩⟩
def xs_h7 : List Jvm.Cond := [xt_cw 112, xt_cw 113, xt_cw 114, xt_cw 115, xt_cw 116, xt_cw 117, xt_cw 118, xt_cw 119, xt_cw 120, xt_cw 121, xt_cw 122, xt_cw 123, xt_cw 124, xt_cw 125, xt_cw 126, xt_cw 127]
theorem xs_hm7 : ∀ w ∈ xs_h7, w ∈ lw_tbl := List.forall_mem_cons.mpr ⟨xs_g112, List.forall_mem_cons.mpr ⟨xs_g113, List.forall_mem_cons.mpr ⟨xs_g114, List.forall_mem_cons.mpr ⟨xs_g115, List.forall_mem_cons.mpr ⟨xs_g116, List.forall_mem_cons.mpr ⟨xs_g117, List.forall_mem_cons.mpr ⟨xs_g118, List.forall_mem_cons.mpr ⟨xs_g119, List.forall_mem_cons.mpr ⟨xs_g120, List.forall_mem_cons.mpr ⟨xs_g121, List.forall_mem_cons.mpr ⟨xs_g122, List.forall_mem_cons.mpr ⟨xs_g123, List.forall_mem_cons.mpr ⟨xs_g124, List.forall_mem_cons.mpr ⟨xs_g125, List.forall_mem_cons.mpr ⟨xs_g126, List.forall_mem_cons.mpr ⟨xs_g127, fun _ h => absurd h List.not_mem_nil⟩⟩⟩⟩⟩⟩⟩⟩⟩⟩⟩⟩⟩⟩⟩⟩
def xs_h8 : List Jvm.Cond := [xt_cw 128, xt_cw 129, xt_cw 130, xt_cw 131, xt_cw 132, xt_cw 133, xt_cw 134, xt_cw 135, xt_cw 136, xt_cw 137, xt_cw 138, xt_cw 139, xt_cw 140, xt_cw 141, xt_cw 142, xt_cw 143]
theorem xs_hm8 : ∀ w ∈ xs_h8, w ∈ lw_tbl := List.forall_mem_cons.mpr ⟨xs_g128, List.forall_mem_cons.mpr ⟨xs_g129, List.forall_mem_cons.mpr ⟨xs_g130, List.forall_mem_cons.mpr ⟨xs_g131, List.forall_mem_cons.mpr ⟨xs_g132, List.forall_mem_cons.mpr ⟨xs_g133, List.forall_mem_cons.mpr ⟨xs_g134, List.forall_mem_cons.mpr ⟨xs_g135, List.forall_mem_cons.mpr ⟨xs_g136, List.forall_mem_cons.mpr ⟨xs_g137, List.forall_mem_cons.mpr ⟨xs_g138, List.forall_mem_cons.mpr ⟨xs_g139, List.forall_mem_cons.mpr ⟨xs_g140, List.forall_mem_cons.mpr ⟨xs_g141, List.forall_mem_cons.mpr ⟨xs_g142, List.forall_mem_cons.mpr ⟨xs_g143, fun _ h => absurd h List.not_mem_nil⟩⟩⟩⟩⟩⟩⟩⟩⟩⟩⟩⟩⟩⟩⟩⟩
def xs_h9 : List Jvm.Cond := [xt_cw 144, xt_cw 145, xt_cw 146, xt_cw 147, xt_cw 148, xt_cw 149, xt_cw 150, xt_cw 151, xt_cw 152, xt_cw 153, xt_cw 154, xt_cw 155, xt_cw 156, xt_cw 157, xt_cw 158, xt_cw 159]
theorem xs_hm9 : ∀ w ∈ xs_h9, w ∈ lw_tbl := List.forall_mem_cons.mpr ⟨xs_g144, List.forall_mem_cons.mpr ⟨xs_g145, List.forall_mem_cons.mpr ⟨xs_g146, List.forall_mem_cons.mpr ⟨xs_g147, List.forall_mem_cons.mpr ⟨xs_g148, List.forall_mem_cons.mpr ⟨xs_g149, List.forall_mem_cons.mpr ⟨xs_g150, List.forall_mem_cons.mpr ⟨xs_g151, List.forall_mem_cons.mpr ⟨xs_g152, List.forall_mem_cons.mpr ⟨xs_g153, List.forall_mem_cons.mpr ⟨xs_g154, List.forall_mem_cons.mpr ⟨xs_g155, List.forall_mem_cons.mpr ⟨xs_g156, List.forall_mem_cons.mpr ⟨xs_g157, List.forall_mem_cons.mpr ⟨xs_g158, List.forall_mem_cons.mpr ⟨xs_g159, fun _ h => absurd h List.not_mem_nil⟩⟩⟩⟩⟩⟩⟩⟩⟩⟩⟩⟩⟩⟩⟩⟩
def xs_h10 : List Jvm.Cond := [xt_cw 160, xt_cw 161, xt_cw 162, xt_cw 163, xt_cw 164, xt_cw 165, xt_cw 166, xt_cw 167, xt_cw 168, xt_cw 169, xt_cw 170, xt_cw 171, xt_cw 172, xt_cw 173, xt_cw 174, xt_cw 175]
theorem xs_hm10 : ∀ w ∈ xs_h10, w ∈ lw_tbl := List.forall_mem_cons.mpr ⟨xs_g160, List.forall_mem_cons.mpr ⟨xs_g161, List.forall_mem_cons.mpr ⟨xs_g162, List.forall_mem_cons.mpr ⟨xs_g163, List.forall_mem_cons.mpr ⟨xs_g164, List.forall_mem_cons.mpr ⟨xs_g165, List.forall_mem_cons.mpr ⟨xs_g166, List.forall_mem_cons.mpr ⟨xs_g167, List.forall_mem_cons.mpr ⟨xs_g168, List.forall_mem_cons.mpr ⟨xs_g169, List.forall_mem_cons.mpr ⟨xs_g170, List.forall_mem_cons.mpr ⟨xs_g171, List.forall_mem_cons.mpr ⟨xs_g172, List.forall_mem_cons.mpr ⟨xs_g173, List.forall_mem_cons.mpr ⟨xs_g174, List.forall_mem_cons.mpr ⟨xs_g175, fun _ h => absurd h List.not_mem_nil⟩⟩⟩⟩⟩⟩⟩⟩⟩⟩⟩⟩⟩⟩⟩⟩
theorem xs_gc : ∀ w ∈ xt_Gc, w ∈ lw_tbl := by
  have e : xt_Gc = xs_h0 ++ (xs_h1 ++ (xs_h2 ++ (xs_h3 ++ (xs_h4 ++ (xs_h5 ++ (xs_h6 ++ (xs_h7 ++ (xs_h8 ++ (xs_h9 ++ (xs_h10)))))))))) := rfl
  rw [e]
  exact List.forall_mem_append.mpr ⟨xs_hm0, List.forall_mem_append.mpr ⟨xs_hm1, List.forall_mem_append.mpr ⟨xs_hm2, List.forall_mem_append.mpr ⟨xs_hm3, List.forall_mem_append.mpr ⟨xs_hm4, List.forall_mem_append.mpr ⟨xs_hm5, List.forall_mem_append.mpr ⟨xs_hm6, List.forall_mem_append.mpr ⟨xs_hm7, List.forall_mem_append.mpr ⟨xs_hm8, List.forall_mem_append.mpr ⟨xs_hm9, xs_hm10⟩⟩⟩⟩⟩⟩⟩⟩⟩⟩
theorem xs_gx : ∀ w ∈ xt_Gx, w ∈ lw_tbl := by
  intro w hw
  simp only [xt_Gx, List.mem_cons, List.not_mem_nil, or_false] at hw
  rcases hw with rfl | rfl | rfl
  · exact xs_mi (t := 1) (i := 24) rfl
  · exact xs_mi (t := 1) (i := 39) rfl
  · exact xs_mi (t := 1) (i := 36) rfl
theorem xs_in : ∀ w ∈ xt_G, w ∈ lw_tbl := by
  intro w hw
  rcases List.mem_append.mp hw with h | h
  · exact xs_inw w h
  · rcases List.mem_append.mp h with h | h
    · exact xs_gx w h
    · exact xs_gc w h
theorem xs_nin : ∀ w ∈ xt_nw, w ∈ lw_tbl := by
  intro w hw
  simp only [xt_nw, List.mem_cons, List.not_mem_nil, or_false] at hw
  rcases hw with rfl | rfl | rfl | rfl | rfl | rfl | rfl | rfl
  · exact xs_mi (t := 1) (i := 179) rfl
  · exact xs_mi (t := 1) (i := 218) rfl
  · exact xs_mi (t := 2) (i := 29) rfl
  · exact xs_mi (t := 1) (i := 76) rfl
  · exact xs_mi (t := 1) (i := 74) rfl
  · exact xs_mi (t := 2) (i := 77) rfl
  · exact xs_mi (t := 1) (i := 215) rfl
  · exact xs_mi (t := 1) (i := 184) rfl
theorem xs_inst : ∀ r ∈ xt_cs, Jvm.Cond.instantiable r.1 r.2.2 ∈ xt_G := by
  have key : (xt_cs.all (fun r => decide (Jvm.Cond.instantiable r.1 r.2.2 ∈ xt_Gw))) = true := by decide +kernel
  intro r hr
  have := List.all_eq_true.mp key r hr
  simp only [decide_eq_true_eq] at this
  exact List.mem_append_left _ this
