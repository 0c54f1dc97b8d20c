/-! What the tables say, row by row. Written by prog/gen_tables.py. -/
theorem xt_lk {α β : Type} [BEq α] [LawfulBEq α] {l : List (α × β)} {k : α} {v : β} (h : l.lookup k = some v) : (k, v) ∈ l := by
  induction l with
  | nil => cases h
  | cons a l ih =>
    obtain ⟨a1, a2⟩ := a
    rw [List.lookup_cons] at h
    split at h
    · rename_i he
      cases h
      rw [eq_of_beq he]
      exact List.mem_cons_self
    · exact List.mem_cons_of_mem _ (ih h)
theorem xt_gm (i : Nat) {w : Jvm.Cond} (h : xt_Gw[i]? = some w) : w ∈ xt_G := List.mem_append_left _ (List.mem_of_getElem? h)
theorem xt_gx (i : Nat) {w : Jvm.Cond} (h : xt_Gx[i]? = some w) : w ∈ xt_G := List.mem_append_right _ (List.mem_append_left _ (List.mem_of_getElem? h))
theorem xt_gc' {y : Nat} (h : y < xt_N) : xt_cw y ∈ xt_G := List.mem_append_right _ (List.mem_append_right _ (List.mem_map.mpr ⟨y, List.mem_range.mpr h, rfl⟩))
def xt_flq (e : (Nat × Nat) × (Nat × Nat)) : Prop := ∃ (C : String) (T : u_T) (N : Nat), xt_cs[e.2.1]? = some (C, T, N) ∧ e.2.2 < N ∧ (T e.2.2).1 = C ∧ Jvm.Cond.fieldLink (xt_cn e.1.1) e.1.2 C (T e.2.2).2.1 (T e.2.2).2.2.1 ∈ xt_G ∧ True
set_option maxRecDepth 100000 in
theorem xt_fl0 : xt_flq ((0, 12), (0, 0)) := ⟨_, _, _, rfl, by decide, rfl, xt_gm 141 (by rfl), trivial⟩
set_option maxRecDepth 100000 in
theorem xt_fl1 : xt_flq ((0, 21), (0, 1)) := ⟨_, _, _, rfl, by decide, rfl, xt_gm 142 (by rfl), trivial⟩
set_option maxRecDepth 100000 in
theorem xt_fl2 : xt_flq ((0, 28), (0, 2)) := ⟨_, _, _, rfl, by decide, rfl, xt_gm 143 (by rfl), trivial⟩
set_option maxRecDepth 100000 in
theorem xt_fl3 : xt_flq ((0, 35), (0, 3)) := ⟨_, _, _, rfl, by decide, rfl, xt_gm 144 (by rfl), trivial⟩
set_option maxRecDepth 100000 in
theorem xt_fl4 : xt_flq ((0, 44), (0, 4)) := ⟨_, _, _, rfl, by decide, rfl, xt_gm 145 (by rfl), trivial⟩
set_option maxRecDepth 100000 in
theorem xt_fl5 : xt_flq ((0, 50), (0, 5)) := ⟨_, _, _, rfl, by decide, rfl, xt_gm 146 (by rfl), trivial⟩
set_option maxRecDepth 100000 in
theorem xt_fl6 : xt_flq ((0, 100), (6, 0)) := ⟨_, _, _, rfl, by decide, rfl, xt_gm 147 (by rfl), trivial⟩
set_option maxRecDepth 100000 in
theorem xt_fl7 : xt_flq ((0, 109), (2, 3)) := ⟨_, _, _, rfl, by decide, rfl, xt_gm 148 (by rfl), trivial⟩
set_option maxRecDepth 100000 in
theorem xt_fl8 : xt_flq ((0, 112), (3, 5)) := ⟨_, _, _, rfl, by decide, rfl, xt_gm 149 (by rfl), trivial⟩
set_option maxRecDepth 100000 in
theorem xt_fl9 : xt_flq ((0, 121), (11, 1)) := ⟨_, _, _, rfl, by decide, rfl, xt_gm 150 (by rfl), trivial⟩
set_option maxRecDepth 100000 in
theorem xt_fl10 : xt_flq ((0, 128), (11, 0)) := ⟨_, _, _, rfl, by decide, rfl, xt_gm 151 (by rfl), trivial⟩
set_option maxRecDepth 100000 in
theorem xt_fl11 : xt_flq ((0, 136), (9, 3)) := ⟨_, _, _, rfl, by decide, rfl, xt_gm 152 (by rfl), trivial⟩
set_option maxRecDepth 100000 in
theorem xt_fl12 : xt_flq ((0, 148), (8, 5)) := ⟨_, _, _, rfl, by decide, rfl, xt_gm 153 (by rfl), trivial⟩
set_option maxRecDepth 100000 in
theorem xt_fl13 : xt_flq ((0, 157), (8, 6)) := ⟨_, _, _, rfl, by decide, rfl, xt_gm 154 (by rfl), trivial⟩
set_option maxRecDepth 100000 in
theorem xt_fl14 : xt_flq ((0, 161), (7, 3)) := ⟨_, _, _, rfl, by decide, rfl, xt_gm 155 (by rfl), trivial⟩
set_option maxRecDepth 100000 in
theorem xt_fl15 : xt_flq ((0, 168), (6, 5)) := ⟨_, _, _, rfl, by decide, rfl, xt_gm 156 (by rfl), trivial⟩
set_option maxRecDepth 100000 in
theorem xt_fl16 : xt_flq ((0, 171), (6, 1)) := ⟨_, _, _, rfl, by decide, rfl, xt_gm 157 (by rfl), trivial⟩
set_option maxRecDepth 100000 in
theorem xt_fl17 : xt_flq ((0, 188), (6, 3)) := ⟨_, _, _, rfl, by decide, rfl, xt_gm 158 (by rfl), trivial⟩
set_option maxRecDepth 100000 in
theorem xt_fl18 : xt_flq ((0, 204), (9, 5)) := ⟨_, _, _, rfl, by decide, rfl, xt_gm 159 (by rfl), trivial⟩
set_option maxRecDepth 100000 in
theorem xt_fl19 : xt_flq ((1, 11), (1, 2)) := ⟨_, _, _, rfl, by decide, rfl, xt_gm 160 (by rfl), trivial⟩
set_option maxRecDepth 100000 in
theorem xt_fl20 : xt_flq ((1, 17), (1, 3)) := ⟨_, _, _, rfl, by decide, rfl, xt_gm 161 (by rfl), trivial⟩
set_option maxRecDepth 100000 in
theorem xt_fl21 : xt_flq ((1, 20), (1, 4)) := ⟨_, _, _, rfl, by decide, rfl, xt_gm 162 (by rfl), trivial⟩
set_option maxRecDepth 100000 in
theorem xt_fl22 : xt_flq ((1, 23), (1, 5)) := ⟨_, _, _, rfl, by decide, rfl, xt_gm 163 (by rfl), trivial⟩
set_option maxRecDepth 100000 in
theorem xt_fl23 : xt_flq ((1, 26), (1, 6)) := ⟨_, _, _, rfl, by decide, rfl, xt_gm 164 (by rfl), trivial⟩
set_option maxRecDepth 100000 in
theorem xt_fl24 : xt_flq ((1, 29), (1, 0)) := ⟨_, _, _, rfl, by decide, rfl, xt_gm 165 (by rfl), trivial⟩
set_option maxRecDepth 100000 in
theorem xt_fl25 : xt_flq ((1, 33), (1, 1)) := ⟨_, _, _, rfl, by decide, rfl, xt_gm 166 (by rfl), trivial⟩
set_option maxRecDepth 100000 in
theorem xt_fl26 : xt_flq ((1, 43), (2, 3)) := ⟨_, _, _, rfl, by decide, rfl, xt_gm 167 (by rfl), trivial⟩
set_option maxRecDepth 100000 in
theorem xt_fl27 : xt_flq ((2, 13), (2, 0)) := ⟨_, _, _, rfl, by decide, rfl, xt_gm 168 (by rfl), trivial⟩
set_option maxRecDepth 100000 in
theorem xt_fl28 : xt_flq ((2, 17), (2, 1)) := ⟨_, _, _, rfl, by decide, rfl, xt_gm 169 (by rfl), trivial⟩
set_option maxRecDepth 100000 in
theorem xt_fl29 : xt_flq ((2, 22), (2, 2)) := ⟨_, _, _, rfl, by decide, rfl, xt_gm 170 (by rfl), trivial⟩
set_option maxRecDepth 100000 in
theorem xt_fl30 : xt_flq ((2, 34), (2, 4)) := ⟨_, _, _, rfl, by decide, rfl, xt_gm 171 (by rfl), trivial⟩
set_option maxRecDepth 100000 in
theorem xt_fl31 : xt_flq ((3, 11), (3, 0)) := ⟨_, _, _, rfl, by decide, rfl, xt_gm 172 (by rfl), trivial⟩
set_option maxRecDepth 100000 in
theorem xt_fl32 : xt_flq ((3, 15), (3, 1)) := ⟨_, _, _, rfl, by decide, rfl, xt_gm 173 (by rfl), trivial⟩
set_option maxRecDepth 100000 in
theorem xt_fl33 : xt_flq ((3, 18), (3, 2)) := ⟨_, _, _, rfl, by decide, rfl, xt_gm 174 (by rfl), trivial⟩
set_option maxRecDepth 100000 in
theorem xt_fl34 : xt_flq ((3, 21), (3, 3)) := ⟨_, _, _, rfl, by decide, rfl, xt_gm 175 (by rfl), trivial⟩
set_option maxRecDepth 100000 in
theorem xt_fl35 : xt_flq ((3, 24), (3, 4)) := ⟨_, _, _, rfl, by decide, rfl, xt_gm 176 (by rfl), trivial⟩
set_option maxRecDepth 100000 in
theorem xt_fl36 : xt_flq ((3, 34), (3, 5)) := ⟨_, _, _, rfl, by decide, rfl, xt_gm 177 (by rfl), trivial⟩
set_option maxRecDepth 100000 in
theorem xt_fl37 : xt_flq ((4, 11), (4, 0)) := ⟨_, _, _, rfl, by decide, rfl, xt_gm 178 (by rfl), trivial⟩
set_option maxRecDepth 100000 in
theorem xt_fl38 : xt_flq ((4, 14), (4, 1)) := ⟨_, _, _, rfl, by decide, rfl, xt_gm 179 (by rfl), trivial⟩
set_option maxRecDepth 100000 in
theorem xt_fl39 : xt_flq ((4, 18), (4, 2)) := ⟨_, _, _, rfl, by decide, rfl, xt_gm 180 (by rfl), trivial⟩
set_option maxRecDepth 100000 in
theorem xt_fl40 : xt_flq ((4, 21), (4, 3)) := ⟨_, _, _, rfl, by decide, rfl, xt_gm 181 (by rfl), trivial⟩
set_option maxRecDepth 100000 in
theorem xt_fl41 : xt_flq ((4, 24), (4, 4)) := ⟨_, _, _, rfl, by decide, rfl, xt_gm 182 (by rfl), trivial⟩
set_option maxRecDepth 100000 in
theorem xt_fl42 : xt_flq ((4, 48), (4, 5)) := ⟨_, _, _, rfl, by decide, rfl, xt_gm 183 (by rfl), trivial⟩
set_option maxRecDepth 100000 in
theorem xt_fl43 : xt_flq ((5, 15), (5, 4)) := ⟨_, _, _, rfl, by decide, rfl, xt_gm 184 (by rfl), trivial⟩
set_option maxRecDepth 100000 in
theorem xt_fl44 : xt_flq ((5, 19), (5, 0)) := ⟨_, _, _, rfl, by decide, rfl, xt_gm 185 (by rfl), trivial⟩
set_option maxRecDepth 100000 in
theorem xt_fl45 : xt_flq ((5, 23), (5, 1)) := ⟨_, _, _, rfl, by decide, rfl, xt_gm 186 (by rfl), trivial⟩
set_option maxRecDepth 100000 in
theorem xt_fl46 : xt_flq ((5, 27), (5, 2)) := ⟨_, _, _, rfl, by decide, rfl, xt_gm 187 (by rfl), trivial⟩
set_option maxRecDepth 100000 in
theorem xt_fl47 : xt_flq ((5, 31), (5, 3)) := ⟨_, _, _, rfl, by decide, rfl, xt_gm 188 (by rfl), trivial⟩
set_option maxRecDepth 100000 in
theorem xt_fl48 : xt_flq ((5, 35), (5, 11)) := ⟨_, _, _, rfl, by decide, rfl, xt_gm 189 (by rfl), trivial⟩
set_option maxRecDepth 100000 in
theorem xt_fl49 : xt_flq ((5, 38), (5, 10)) := ⟨_, _, _, rfl, by decide, rfl, xt_gm 190 (by rfl), trivial⟩
set_option maxRecDepth 100000 in
theorem xt_fl50 : xt_flq ((5, 41), (5, 6)) := ⟨_, _, _, rfl, by decide, rfl, xt_gm 191 (by rfl), trivial⟩
set_option maxRecDepth 100000 in
theorem xt_fl51 : xt_flq ((5, 44), (5, 5)) := ⟨_, _, _, rfl, by decide, rfl, xt_gm 192 (by rfl), trivial⟩
set_option maxRecDepth 100000 in
theorem xt_fl52 : xt_flq ((5, 47), (4, 5)) := ⟨_, _, _, rfl, by decide, rfl, xt_gm 193 (by rfl), trivial⟩
set_option maxRecDepth 100000 in
theorem xt_fl53 : xt_flq ((5, 54), (5, 7)) := ⟨_, _, _, rfl, by decide, rfl, xt_gm 194 (by rfl), trivial⟩
set_option maxRecDepth 100000 in
theorem xt_fl54 : xt_flq ((5, 63), (6, 3)) := ⟨_, _, _, rfl, by decide, rfl, xt_gm 195 (by rfl), trivial⟩
set_option maxRecDepth 100000 in
theorem xt_fl55 : xt_flq ((5, 66), (4, 2)) := ⟨_, _, _, rfl, by decide, rfl, xt_gm 196 (by rfl), trivial⟩
set_option maxRecDepth 100000 in
theorem xt_fl56 : xt_flq ((5, 69), (6, 4)) := ⟨_, _, _, rfl, by decide, rfl, xt_gm 197 (by rfl), trivial⟩
set_option maxRecDepth 100000 in
theorem xt_fl57 : xt_flq ((5, 80), (6, 6)) := ⟨_, _, _, rfl, by decide, rfl, xt_gm 198 (by rfl), trivial⟩
set_option maxRecDepth 100000 in
theorem xt_fl58 : xt_flq ((5, 81), (2, 2)) := ⟨_, _, _, rfl, by decide, rfl, xt_gm 199 (by rfl), trivial⟩
set_option maxRecDepth 100000 in
theorem xt_fl59 : xt_flq ((5, 97), (2, 3)) := ⟨_, _, _, rfl, by decide, rfl, xt_gm 200 (by rfl), trivial⟩
set_option maxRecDepth 100000 in
theorem xt_fl60 : xt_flq ((5, 100), (5, 9)) := ⟨_, _, _, rfl, by decide, rfl, xt_gm 201 (by rfl), trivial⟩
set_option maxRecDepth 100000 in
theorem xt_fl61 : xt_flq ((5, 103), (5, 8)) := ⟨_, _, _, rfl, by decide, rfl, xt_gm 202 (by rfl), trivial⟩
set_option maxRecDepth 100000 in
theorem xt_fl62 : xt_flq ((5, 106), (2, 1)) := ⟨_, _, _, rfl, by decide, rfl, xt_gm 203 (by rfl), trivial⟩
set_option maxRecDepth 100000 in
theorem xt_fl63 : xt_flq ((5, 109), (4, 3)) := ⟨_, _, _, rfl, by decide, rfl, xt_gm 204 (by rfl), trivial⟩
set_option maxRecDepth 100000 in
theorem xt_fl64 : xt_flq ((5, 116), (4, 4)) := ⟨_, _, _, rfl, by decide, rfl, xt_gm 205 (by rfl), trivial⟩
set_option maxRecDepth 100000 in
theorem xt_fl65 : xt_flq ((5, 119), (6, 7)) := ⟨_, _, _, rfl, by decide, rfl, xt_gm 206 (by rfl), trivial⟩
set_option maxRecDepth 100000 in
theorem xt_fl66 : xt_flq ((6, 11), (6, 7)) := ⟨_, _, _, rfl, by decide, rfl, xt_gm 207 (by rfl), trivial⟩
set_option maxRecDepth 100000 in
theorem xt_fl67 : xt_flq ((6, 21), (6, 6)) := ⟨_, _, _, rfl, by decide, rfl, xt_gm 208 (by rfl), trivial⟩
set_option maxRecDepth 100000 in
theorem xt_fl68 : xt_flq ((6, 25), (6, 0)) := ⟨_, _, _, rfl, by decide, rfl, xt_gm 209 (by rfl), trivial⟩
set_option maxRecDepth 100000 in
theorem xt_fl69 : xt_flq ((6, 28), (6, 1)) := ⟨_, _, _, rfl, by decide, rfl, xt_gm 210 (by rfl), trivial⟩
set_option maxRecDepth 100000 in
theorem xt_fl70 : xt_flq ((6, 31), (6, 2)) := ⟨_, _, _, rfl, by decide, rfl, xt_gm 211 (by rfl), trivial⟩
set_option maxRecDepth 100000 in
theorem xt_fl71 : xt_flq ((6, 34), (6, 3)) := ⟨_, _, _, rfl, by decide, rfl, xt_gm 212 (by rfl), trivial⟩
set_option maxRecDepth 100000 in
theorem xt_fl72 : xt_flq ((6, 37), (6, 4)) := ⟨_, _, _, rfl, by decide, rfl, xt_gm 213 (by rfl), trivial⟩
set_option maxRecDepth 100000 in
theorem xt_fl73 : xt_flq ((6, 40), (6, 5)) := ⟨_, _, _, rfl, by decide, rfl, xt_gm 214 (by rfl), trivial⟩
set_option maxRecDepth 100000 in
theorem xt_fl74 : xt_flq ((7, 9), (7, 0)) := ⟨_, _, _, rfl, by decide, rfl, xt_gm 215 (by rfl), trivial⟩
set_option maxRecDepth 100000 in
theorem xt_fl75 : xt_flq ((7, 13), (7, 1)) := ⟨_, _, _, rfl, by decide, rfl, xt_gm 216 (by rfl), trivial⟩
set_option maxRecDepth 100000 in
theorem xt_fl76 : xt_flq ((7, 16), (7, 2)) := ⟨_, _, _, rfl, by decide, rfl, xt_gm 217 (by rfl), trivial⟩
set_option maxRecDepth 100000 in
theorem xt_fl77 : xt_flq ((7, 19), (7, 3)) := ⟨_, _, _, rfl, by decide, rfl, xt_gm 218 (by rfl), trivial⟩
set_option maxRecDepth 100000 in
theorem xt_fl78 : xt_flq ((8, 13), (8, 4)) := ⟨_, _, _, rfl, by decide, rfl, xt_gm 219 (by rfl), trivial⟩
set_option maxRecDepth 100000 in
theorem xt_fl79 : xt_flq ((8, 22), (8, 6)) := ⟨_, _, _, rfl, by decide, rfl, xt_gm 220 (by rfl), trivial⟩
set_option maxRecDepth 100000 in
theorem xt_fl80 : xt_flq ((8, 26), (8, 0)) := ⟨_, _, _, rfl, by decide, rfl, xt_gm 221 (by rfl), trivial⟩
set_option maxRecDepth 100000 in
theorem xt_fl81 : xt_flq ((8, 30), (8, 1)) := ⟨_, _, _, rfl, by decide, rfl, xt_gm 222 (by rfl), trivial⟩
set_option maxRecDepth 100000 in
theorem xt_fl82 : xt_flq ((8, 34), (8, 2)) := ⟨_, _, _, rfl, by decide, rfl, xt_gm 223 (by rfl), trivial⟩
set_option maxRecDepth 100000 in
theorem xt_fl83 : xt_flq ((8, 38), (8, 3)) := ⟨_, _, _, rfl, by decide, rfl, xt_gm 224 (by rfl), trivial⟩
set_option maxRecDepth 100000 in
theorem xt_fl84 : xt_flq ((8, 47), (8, 5)) := ⟨_, _, _, rfl, by decide, rfl, xt_gm 225 (by rfl), trivial⟩
set_option maxRecDepth 100000 in
theorem xt_fl85 : xt_flq ((8, 52), (6, 0)) := ⟨_, _, _, rfl, by decide, rfl, xt_gm 226 (by rfl), trivial⟩
set_option maxRecDepth 100000 in
theorem xt_fl86 : xt_flq ((8, 77), (10, 0)) := ⟨_, _, _, rfl, by decide, rfl, xt_gm 227 (by rfl), trivial⟩
set_option maxRecDepth 100000 in
theorem xt_fl87 : xt_flq ((8, 81), (7, 3)) := ⟨_, _, _, rfl, by decide, rfl, xt_gm 228 (by rfl), trivial⟩
set_option maxRecDepth 100000 in
theorem xt_fl88 : xt_flq ((8, 84), (7, 0)) := ⟨_, _, _, rfl, by decide, rfl, xt_gm 229 (by rfl), trivial⟩
set_option maxRecDepth 100000 in
theorem xt_fl89 : xt_flq ((8, 88), (7, 1)) := ⟨_, _, _, rfl, by decide, rfl, xt_gm 230 (by rfl), trivial⟩
set_option maxRecDepth 100000 in
theorem xt_fl90 : xt_flq ((8, 91), (7, 2)) := ⟨_, _, _, rfl, by decide, rfl, xt_gm 231 (by rfl), trivial⟩
set_option maxRecDepth 100000 in
theorem xt_fl91 : xt_flq ((8, 98), (3, 5)) := ⟨_, _, _, rfl, by decide, rfl, xt_gm 232 (by rfl), trivial⟩
set_option maxRecDepth 100000 in
theorem xt_fl92 : xt_flq ((8, 101), (2, 3)) := ⟨_, _, _, rfl, by decide, rfl, xt_gm 233 (by rfl), trivial⟩
set_option maxRecDepth 100000 in
theorem xt_fl93 : xt_flq ((8, 106), (10, 4)) := ⟨_, _, _, rfl, by decide, rfl, xt_gm 234 (by rfl), trivial⟩
set_option maxRecDepth 100000 in
theorem xt_fl94 : xt_flq ((8, 109), (10, 3)) := ⟨_, _, _, rfl, by decide, rfl, xt_gm 235 (by rfl), trivial⟩
set_option maxRecDepth 100000 in
theorem xt_fl95 : xt_flq ((8, 112), (2, 1)) := ⟨_, _, _, rfl, by decide, rfl, xt_gm 236 (by rfl), trivial⟩
set_option maxRecDepth 100000 in
theorem xt_fl96 : xt_flq ((8, 119), (6, 1)) := ⟨_, _, _, rfl, by decide, rfl, xt_gm 237 (by rfl), trivial⟩
set_option maxRecDepth 100000 in
theorem xt_fl97 : xt_flq ((8, 135), (6, 2)) := ⟨_, _, _, rfl, by decide, rfl, xt_gm 238 (by rfl), trivial⟩
set_option maxRecDepth 100000 in
theorem xt_fl98 : xt_flq ((8, 162), (6, 3)) := ⟨_, _, _, rfl, by decide, rfl, xt_gm 239 (by rfl), trivial⟩
set_option maxRecDepth 100000 in
theorem xt_fl99 : xt_flq ((8, 184), (2, 0)) := ⟨_, _, _, rfl, by decide, rfl, xt_gm 240 (by rfl), trivial⟩
set_option maxRecDepth 100000 in
theorem xt_fl100 : xt_flq ((8, 200), (10, 1)) := ⟨_, _, _, rfl, by decide, rfl, xt_gm 241 (by rfl), trivial⟩
set_option maxRecDepth 100000 in
theorem xt_fl101 : xt_flq ((8, 203), (10, 2)) := ⟨_, _, _, rfl, by decide, rfl, xt_gm 242 (by rfl), trivial⟩
set_option maxRecDepth 100000 in
theorem xt_fl102 : xt_flq ((8, 206), (6, 4)) := ⟨_, _, _, rfl, by decide, rfl, xt_gm 243 (by rfl), trivial⟩
set_option maxRecDepth 100000 in
theorem xt_fl103 : xt_flq ((8, 207), (10, 5)) := ⟨_, _, _, rfl, by decide, rfl, xt_gm 244 (by rfl), trivial⟩
set_option maxRecDepth 100000 in
theorem xt_fl104 : xt_flq ((8, 210), (2, 2)) := ⟨_, _, _, rfl, by decide, rfl, xt_gm 245 (by rfl), trivial⟩
set_option maxRecDepth 100000 in
theorem xt_fl105 : xt_flq ((8, 217), (6, 6)) := ⟨_, _, _, rfl, by decide, rfl, xt_gm 246 (by rfl), trivial⟩
set_option maxRecDepth 100000 in
theorem xt_fl106 : xt_flq ((9, 11), (9, 4)) := ⟨_, _, _, rfl, by decide, rfl, xt_gm 247 (by rfl), trivial⟩
set_option maxRecDepth 100000 in
theorem xt_fl107 : xt_flq ((9, 17), (9, 5)) := ⟨_, _, _, rfl, by decide, rfl, xt_gm 248 (by rfl), trivial⟩
set_option maxRecDepth 100000 in
theorem xt_fl108 : xt_flq ((9, 20), (9, 0)) := ⟨_, _, _, rfl, by decide, rfl, xt_gm 249 (by rfl), trivial⟩
set_option maxRecDepth 100000 in
theorem xt_fl109 : xt_flq ((9, 23), (9, 1)) := ⟨_, _, _, rfl, by decide, rfl, xt_gm 250 (by rfl), trivial⟩
set_option maxRecDepth 100000 in
theorem xt_fl110 : xt_flq ((9, 27), (9, 2)) := ⟨_, _, _, rfl, by decide, rfl, xt_gm 251 (by rfl), trivial⟩
set_option maxRecDepth 100000 in
theorem xt_fl111 : xt_flq ((9, 36), (9, 3)) := ⟨_, _, _, rfl, by decide, rfl, xt_gm 252 (by rfl), trivial⟩
set_option maxRecDepth 100000 in
theorem xt_fl112 : xt_flq ((9, 40), (9, 8)) := ⟨_, _, _, rfl, by decide, rfl, xt_gm 253 (by rfl), trivial⟩
set_option maxRecDepth 100000 in
theorem xt_fl113 : xt_flq ((9, 43), (9, 11)) := ⟨_, _, _, rfl, by decide, rfl, xt_gm 254 (by rfl), trivial⟩
set_option maxRecDepth 100000 in
theorem xt_fl114 : xt_flq ((9, 52), (6, 0)) := ⟨_, _, _, rfl, by decide, rfl, xt_gm 255 (by rfl), trivial⟩
set_option maxRecDepth 100000 in
theorem xt_fl115 : xt_flq ((9, 80), (2, 3)) := ⟨_, _, _, rfl, by decide, rfl, xt_gm 256 (by rfl), trivial⟩
set_option maxRecDepth 100000 in
theorem xt_fl116 : xt_flq ((9, 85), (9, 9)) := ⟨_, _, _, rfl, by decide, rfl, xt_gm 257 (by rfl), trivial⟩
set_option maxRecDepth 100000 in
theorem xt_fl117 : xt_flq ((9, 94), (9, 7)) := ⟨_, _, _, rfl, by decide, rfl, xt_gm 258 (by rfl), trivial⟩
set_option maxRecDepth 100000 in
theorem xt_fl118 : xt_flq ((9, 97), (2, 0)) := ⟨_, _, _, rfl, by decide, rfl, xt_gm 259 (by rfl), trivial⟩
set_option maxRecDepth 100000 in
theorem xt_fl119 : xt_flq ((9, 110), (9, 6)) := ⟨_, _, _, rfl, by decide, rfl, xt_gm 260 (by rfl), trivial⟩
set_option maxRecDepth 100000 in
theorem xt_fl120 : xt_flq ((9, 113), (5, 11)) := ⟨_, _, _, rfl, by decide, rfl, xt_gm 261 (by rfl), trivial⟩
set_option maxRecDepth 100000 in
theorem xt_fl121 : xt_flq ((9, 116), (5, 10)) := ⟨_, _, _, rfl, by decide, rfl, xt_gm 262 (by rfl), trivial⟩
set_option maxRecDepth 100000 in
theorem xt_fl122 : xt_flq ((9, 126), (9, 10)) := ⟨_, _, _, rfl, by decide, rfl, xt_gm 263 (by rfl), trivial⟩
set_option maxRecDepth 100000 in
theorem xt_fl123 : xt_flq ((9, 141), (2, 1)) := ⟨_, _, _, rfl, by decide, rfl, xt_gm 264 (by rfl), trivial⟩
set_option maxRecDepth 100000 in
theorem xt_fl124 : xt_flq ((9, 151), (6, 2)) := ⟨_, _, _, rfl, by decide, rfl, xt_gm 265 (by rfl), trivial⟩
set_option maxRecDepth 100000 in
theorem xt_fl125 : xt_flq ((9, 152), (6, 3)) := ⟨_, _, _, rfl, by decide, rfl, xt_gm 266 (by rfl), trivial⟩
set_option maxRecDepth 100000 in
theorem xt_fl126 : xt_flq ((11, 11), (11, 0)) := ⟨_, _, _, rfl, by decide, rfl, xt_gm 267 (by rfl), trivial⟩
set_option maxRecDepth 100000 in
theorem xt_fl127 : xt_flq ((11, 16), (11, 2)) := ⟨_, _, _, rfl, by decide, rfl, xt_gm 268 (by rfl), trivial⟩
set_option maxRecDepth 100000 in
theorem xt_fl128 : xt_flq ((11, 20), (11, 3)) := ⟨_, _, _, rfl, by decide, rfl, xt_gm 269 (by rfl), trivial⟩
set_option maxRecDepth 100000 in
theorem xt_fl129 : xt_flq ((11, 23), (11, 1)) := ⟨_, _, _, rfl, by decide, rfl, xt_gm 270 (by rfl), trivial⟩
set_option maxRecDepth 100000 in
theorem xt_fl130 : xt_flq ((11, 27), (6, 0)) := ⟨_, _, _, rfl, by decide, rfl, xt_gm 271 (by rfl), trivial⟩
set_option maxRecDepth 100000 in
theorem xt_fl131 : xt_flq ((11, 30), (6, 1)) := ⟨_, _, _, rfl, by decide, rfl, xt_gm 272 (by rfl), trivial⟩
set_option maxRecDepth 100000 in
theorem xt_fl132 : xt_flq ((11, 33), (6, 5)) := ⟨_, _, _, rfl, by decide, rfl, xt_gm 273 (by rfl), trivial⟩
set_option maxRecDepth 100000 in
theorem xt_fl133 : xt_flq ((11, 36), (6, 2)) := ⟨_, _, _, rfl, by decide, rfl, xt_gm 274 (by rfl), trivial⟩
set_option maxRecDepth 100000 in
theorem xt_fl134 : xt_flq ((11, 39), (6, 3)) := ⟨_, _, _, rfl, by decide, rfl, xt_gm 275 (by rfl), trivial⟩
set_option maxRecDepth 100000 in
theorem xt_fl135 : xt_flq ((11, 42), (6, 4)) := ⟨_, _, _, rfl, by decide, rfl, xt_gm 276 (by rfl), trivial⟩
set_option maxRecDepth 100000 in
theorem xt_fl136 : xt_flq ((11, 45), (6, 6)) := ⟨_, _, _, rfl, by decide, rfl, xt_gm 277 (by rfl), trivial⟩
set_option maxRecDepth 100000 in
theorem xt_fl137 : xt_flq ((11, 52), (6, 7)) := ⟨_, _, _, rfl, by decide, rfl, xt_gm 278 (by rfl), trivial⟩
set_option maxRecDepth 100000 in
theorem xt_fl138 : xt_flq ((12, 7), (12, 5)) := ⟨_, _, _, rfl, by decide, rfl, xt_gm 279 (by rfl), trivial⟩
set_option maxRecDepth 100000 in
theorem xt_fl139 : xt_flq ((12, 13), (12, 6)) := ⟨_, _, _, rfl, by decide, rfl, xt_gm 280 (by rfl), trivial⟩
set_option maxRecDepth 100000 in
theorem xt_fl140 : xt_flq ((12, 16), (12, 7)) := ⟨_, _, _, rfl, by decide, rfl, xt_gm 281 (by rfl), trivial⟩
set_option maxRecDepth 100000 in
theorem xt_fl141 : xt_flq ((12, 19), (12, 8)) := ⟨_, _, _, rfl, by decide, rfl, xt_gm 282 (by rfl), trivial⟩
set_option maxRecDepth 100000 in
theorem xt_fl142 : xt_flq ((12, 23), (12, 10)) := ⟨_, _, _, rfl, by decide, rfl, xt_gm 283 (by rfl), trivial⟩
set_option maxRecDepth 100000 in
theorem xt_fl143 : xt_flq ((12, 26), (12, 11)) := ⟨_, _, _, rfl, by decide, rfl, xt_gm 284 (by rfl), trivial⟩
set_option maxRecDepth 100000 in
theorem xt_fl144 : xt_flq ((12, 29), (12, 12)) := ⟨_, _, _, rfl, by decide, rfl, xt_gm 285 (by rfl), trivial⟩
set_option maxRecDepth 100000 in
theorem xt_fl145 : xt_flq ((12, 32), (12, 13)) := ⟨_, _, _, rfl, by decide, rfl, xt_gm 286 (by rfl), trivial⟩
set_option maxRecDepth 100000 in
theorem xt_fl146 : xt_flq ((12, 35), (12, 14)) := ⟨_, _, _, rfl, by decide, rfl, xt_gm 287 (by rfl), trivial⟩
set_option maxRecDepth 100000 in
theorem xt_fl147 : xt_flq ((12, 38), (12, 15)) := ⟨_, _, _, rfl, by decide, rfl, xt_gm 288 (by rfl), trivial⟩
set_option maxRecDepth 100000 in
theorem xt_fl148 : xt_flq ((12, 41), (12, 16)) := ⟨_, _, _, rfl, by decide, rfl, xt_gm 289 (by rfl), trivial⟩
set_option maxRecDepth 100000 in
theorem xt_fl149 : xt_flq ((12, 44), (12, 17)) := ⟨_, _, _, rfl, by decide, rfl, xt_gm 290 (by rfl), trivial⟩
set_option maxRecDepth 100000 in
theorem xt_fl150 : xt_flq ((12, 47), (12, 18)) := ⟨_, _, _, rfl, by decide, rfl, xt_gm 291 (by rfl), trivial⟩
set_option maxRecDepth 100000 in
theorem xt_fl151 : xt_flq ((12, 50), (12, 19)) := ⟨_, _, _, rfl, by decide, rfl, xt_gm 292 (by rfl), trivial⟩
set_option maxRecDepth 100000 in
theorem xt_fl152 : xt_flq ((12, 53), (12, 21)) := ⟨_, _, _, rfl, by decide, rfl, xt_gm 293 (by rfl), trivial⟩
set_option maxRecDepth 100000 in
theorem xt_fl153 : xt_flq ((12, 56), (12, 22)) := ⟨_, _, _, rfl, by decide, rfl, xt_gm 294 (by rfl), trivial⟩
set_option maxRecDepth 100000 in
theorem xt_fl154 : xt_flq ((12, 59), (12, 23)) := ⟨_, _, _, rfl, by decide, rfl, xt_gm 295 (by rfl), trivial⟩
set_option maxRecDepth 100000 in
theorem xt_fl155 : xt_flq ((12, 62), (12, 24)) := ⟨_, _, _, rfl, by decide, rfl, xt_gm 296 (by rfl), trivial⟩
set_option maxRecDepth 100000 in
theorem xt_fl156 : xt_flq ((12, 65), (12, 25)) := ⟨_, _, _, rfl, by decide, rfl, xt_gm 297 (by rfl), trivial⟩
set_option maxRecDepth 100000 in
theorem xt_fl157 : xt_flq ((12, 68), (12, 26)) := ⟨_, _, _, rfl, by decide, rfl, xt_gm 298 (by rfl), trivial⟩
set_option maxRecDepth 100000 in
theorem xt_fl158 : xt_flq ((12, 71), (12, 27)) := ⟨_, _, _, rfl, by decide, rfl, xt_gm 299 (by rfl), trivial⟩
set_option maxRecDepth 100000 in
theorem xt_fl159 : xt_flq ((12, 74), (12, 28)) := ⟨_, _, _, rfl, by decide, rfl, xt_gm 300 (by rfl), trivial⟩
set_option maxRecDepth 100000 in
theorem xt_fl160 : xt_flq ((12, 77), (12, 30)) := ⟨_, _, _, rfl, by decide, rfl, xt_gm 301 (by rfl), trivial⟩
set_option maxRecDepth 100000 in
theorem xt_fl161 : xt_flq ((12, 80), (12, 31)) := ⟨_, _, _, rfl, by decide, rfl, xt_gm 302 (by rfl), trivial⟩
set_option maxRecDepth 100000 in
theorem xt_fl162 : xt_flq ((12, 83), (12, 32)) := ⟨_, _, _, rfl, by decide, rfl, xt_gm 303 (by rfl), trivial⟩
set_option maxRecDepth 100000 in
theorem xt_fl163 : xt_flq ((12, 86), (12, 33)) := ⟨_, _, _, rfl, by decide, rfl, xt_gm 304 (by rfl), trivial⟩
set_option maxRecDepth 100000 in
theorem xt_fl164 : xt_flq ((12, 89), (12, 34)) := ⟨_, _, _, rfl, by decide, rfl, xt_gm 305 (by rfl), trivial⟩
set_option maxRecDepth 100000 in
theorem xt_fl165 : xt_flq ((12, 92), (12, 35)) := ⟨_, _, _, rfl, by decide, rfl, xt_gm 306 (by rfl), trivial⟩
set_option maxRecDepth 100000 in
theorem xt_fl166 : xt_flq ((12, 95), (12, 36)) := ⟨_, _, _, rfl, by decide, rfl, xt_gm 307 (by rfl), trivial⟩
set_option maxRecDepth 100000 in
theorem xt_fl167 : xt_flq ((12, 98), (12, 37)) := ⟨_, _, _, rfl, by decide, rfl, xt_gm 308 (by rfl), trivial⟩
set_option maxRecDepth 100000 in
theorem xt_fl168 : xt_flq ((12, 101), (12, 39)) := ⟨_, _, _, rfl, by decide, rfl, xt_gm 309 (by rfl), trivial⟩
set_option maxRecDepth 100000 in
theorem xt_fl169 : xt_flq ((12, 104), (12, 40)) := ⟨_, _, _, rfl, by decide, rfl, xt_gm 310 (by rfl), trivial⟩
set_option maxRecDepth 100000 in
theorem xt_fl170 : xt_flq ((12, 107), (12, 41)) := ⟨_, _, _, rfl, by decide, rfl, xt_gm 311 (by rfl), trivial⟩
set_option maxRecDepth 100000 in
theorem xt_fl171 : xt_flq ((12, 110), (12, 42)) := ⟨_, _, _, rfl, by decide, rfl, xt_gm 312 (by rfl), trivial⟩
set_option maxRecDepth 100000 in
theorem xt_fl172 : xt_flq ((12, 113), (12, 43)) := ⟨_, _, _, rfl, by decide, rfl, xt_gm 313 (by rfl), trivial⟩
set_option maxRecDepth 100000 in
theorem xt_fl173 : xt_flq ((12, 116), (12, 44)) := ⟨_, _, _, rfl, by decide, rfl, xt_gm 314 (by rfl), trivial⟩
set_option maxRecDepth 100000 in
theorem xt_fl174 : xt_flq ((12, 119), (12, 45)) := ⟨_, _, _, rfl, by decide, rfl, xt_gm 315 (by rfl), trivial⟩
set_option maxRecDepth 100000 in
theorem xt_fl175 : xt_flq ((12, 122), (12, 46)) := ⟨_, _, _, rfl, by decide, rfl, xt_gm 316 (by rfl), trivial⟩
set_option maxRecDepth 100000 in
theorem xt_fl176 : xt_flq ((12, 125), (12, 47)) := ⟨_, _, _, rfl, by decide, rfl, xt_gm 317 (by rfl), trivial⟩
set_option maxRecDepth 100000 in
theorem xt_fl177 : xt_flq ((12, 128), (12, 48)) := ⟨_, _, _, rfl, by decide, rfl, xt_gm 318 (by rfl), trivial⟩
set_option maxRecDepth 100000 in
theorem xt_fl178 : xt_flq ((12, 131), (12, 49)) := ⟨_, _, _, rfl, by decide, rfl, xt_gm 319 (by rfl), trivial⟩
set_option maxRecDepth 100000 in
theorem xt_fl179 : xt_flq ((12, 134), (12, 50)) := ⟨_, _, _, rfl, by decide, rfl, xt_gm 320 (by rfl), trivial⟩
set_option maxRecDepth 100000 in
theorem xt_fl180 : xt_flq ((12, 137), (12, 51)) := ⟨_, _, _, rfl, by decide, rfl, xt_gm 321 (by rfl), trivial⟩
set_option maxRecDepth 100000 in
theorem xt_fl181 : xt_flq ((12, 140), (12, 52)) := ⟨_, _, _, rfl, by decide, rfl, xt_gm 322 (by rfl), trivial⟩
set_option maxRecDepth 100000 in
theorem xt_fl182 : xt_flq ((12, 143), (12, 53)) := ⟨_, _, _, rfl, by decide, rfl, xt_gm 323 (by rfl), trivial⟩
set_option maxRecDepth 100000 in
theorem xt_fl183 : xt_flq ((12, 146), (12, 54)) := ⟨_, _, _, rfl, by decide, rfl, xt_gm 324 (by rfl), trivial⟩
set_option maxRecDepth 100000 in
theorem xt_fl184 : xt_flq ((12, 149), (12, 55)) := ⟨_, _, _, rfl, by decide, rfl, xt_gm 325 (by rfl), trivial⟩
set_option maxRecDepth 100000 in
theorem xt_fl185 : xt_flq ((12, 152), (12, 56)) := ⟨_, _, _, rfl, by decide, rfl, xt_gm 326 (by rfl), trivial⟩
set_option maxRecDepth 100000 in
theorem xt_fl186 : xt_flq ((12, 155), (12, 57)) := ⟨_, _, _, rfl, by decide, rfl, xt_gm 327 (by rfl), trivial⟩
set_option maxRecDepth 100000 in
theorem xt_fl187 : xt_flq ((12, 158), (12, 0)) := ⟨_, _, _, rfl, by decide, rfl, xt_gm 328 (by rfl), trivial⟩
set_option maxRecDepth 100000 in
theorem xt_fl188 : xt_flq ((12, 162), (12, 1)) := ⟨_, _, _, rfl, by decide, rfl, xt_gm 329 (by rfl), trivial⟩
set_option maxRecDepth 100000 in
theorem xt_fl189 : xt_flq ((12, 165), (12, 2)) := ⟨_, _, _, rfl, by decide, rfl, xt_gm 330 (by rfl), trivial⟩
set_option maxRecDepth 100000 in
theorem xt_fl190 : xt_flq ((12, 168), (12, 38)) := ⟨_, _, _, rfl, by decide, rfl, xt_gm 331 (by rfl), trivial⟩
set_option maxRecDepth 100000 in
theorem xt_fl191 : xt_flq ((12, 181), (12, 20)) := ⟨_, _, _, rfl, by decide, rfl, xt_gm 332 (by rfl), trivial⟩
set_option maxRecDepth 100000 in
theorem xt_fl192 : xt_flq ((12, 189), (12, 9)) := ⟨_, _, _, rfl, by decide, rfl, xt_gm 333 (by rfl), trivial⟩
set_option maxRecDepth 100000 in
theorem xt_fl193 : xt_flq ((12, 220), (12, 3)) := ⟨_, _, _, rfl, by decide, rfl, xt_gm 334 (by rfl), trivial⟩
set_option maxRecDepth 100000 in
theorem xt_fl194 : xt_flq ((12, 254), (12, 29)) := ⟨_, _, _, rfl, by decide, rfl, xt_gm 335 (by rfl), trivial⟩
set_option maxRecDepth 100000 in
theorem xt_fl195 : xt_flq ((12, 263), (12, 4)) := ⟨_, _, _, rfl, by decide, rfl, xt_gm 336 (by rfl), trivial⟩
set_option maxRecDepth 100000 in
theorem xt_fla : ∀ e ∈ xt_fl, xt_flq e := List.forall_mem_cons.mpr ⟨xt_fl0, List.forall_mem_cons.mpr ⟨xt_fl1, List.forall_mem_cons.mpr ⟨xt_fl2, List.forall_mem_cons.mpr ⟨xt_fl3, List.forall_mem_cons.mpr ⟨xt_fl4, List.forall_mem_cons.mpr ⟨xt_fl5, List.forall_mem_cons.mpr ⟨xt_fl6, List.forall_mem_cons.mpr ⟨xt_fl7, List.forall_mem_cons.mpr ⟨xt_fl8, List.forall_mem_cons.mpr ⟨xt_fl9, List.forall_mem_cons.mpr ⟨xt_fl10, List.forall_mem_cons.mpr ⟨xt_fl11, List.forall_mem_cons.mpr ⟨xt_fl12, List.forall_mem_cons.mpr ⟨xt_fl13, List.forall_mem_cons.mpr ⟨xt_fl14, List.forall_mem_cons.mpr ⟨xt_fl15, List.forall_mem_cons.mpr ⟨xt_fl16, List.forall_mem_cons.mpr ⟨xt_fl17, List.forall_mem_cons.mpr ⟨xt_fl18, List.forall_mem_cons.mpr ⟨xt_fl19, List.forall_mem_cons.mpr ⟨xt_fl20, List.forall_mem_cons.mpr ⟨xt_fl21, List.forall_mem_cons.mpr ⟨xt_fl22, List.forall_mem_cons.mpr ⟨xt_fl23, List.forall_mem_cons.mpr ⟨xt_fl24, List.forall_mem_cons.mpr ⟨xt_fl25, List.forall_mem_cons.mpr ⟨xt_fl26, List.forall_mem_cons.mpr ⟨xt_fl27, List.forall_mem_cons.mpr ⟨xt_fl28, List.forall_mem_cons.mpr ⟨xt_fl29, List.forall_mem_cons.mpr ⟨xt_fl30, List.forall_mem_cons.mpr ⟨xt_fl31, List.forall_mem_cons.mpr ⟨xt_fl32, List.forall_mem_cons.mpr ⟨xt_fl33, List.forall_mem_cons.mpr ⟨xt_fl34, List.forall_mem_cons.mpr ⟨xt_fl35, List.forall_mem_cons.mpr ⟨xt_fl36, List.forall_mem_cons.mpr ⟨xt_fl37, List.forall_mem_cons.mpr ⟨xt_fl38, List.forall_mem_cons.mpr ⟨xt_fl39, List.forall_mem_cons.mpr ⟨xt_fl40, List.forall_mem_cons.mpr ⟨xt_fl41, List.forall_mem_cons.mpr ⟨xt_fl42, List.forall_mem_cons.mpr ⟨xt_fl43, List.forall_mem_cons.mpr ⟨xt_fl44, List.forall_mem_cons.mpr ⟨xt_fl45, List.forall_mem_cons.mpr ⟨xt_fl46, List.forall_mem_cons.mpr ⟨xt_fl47, List.forall_mem_cons.mpr ⟨xt_fl48, List.forall_mem_cons.mpr ⟨xt_fl49, List.forall_mem_cons.mpr ⟨xt_fl50, List.forall_mem_cons.mpr ⟨xt_fl51, List.forall_mem_cons.mpr ⟨xt_fl52, List.forall_mem_cons.mpr ⟨xt_fl53, List.forall_mem_cons.mpr ⟨xt_fl54, List.forall_mem_cons.mpr ⟨xt_fl55, List.forall_mem_cons.mpr ⟨xt_fl56, List.forall_mem_cons.mpr ⟨xt_fl57, List.forall_mem_cons.mpr ⟨xt_fl58, List.forall_mem_cons.mpr ⟨xt_fl59, List.forall_mem_cons.mpr ⟨xt_fl60, List.forall_mem_cons.mpr ⟨xt_fl61, List.forall_mem_cons.mpr ⟨xt_fl62, List.forall_mem_cons.mpr ⟨xt_fl63, List.forall_mem_cons.mpr ⟨xt_fl64, List.forall_mem_cons.mpr ⟨xt_fl65, List.forall_mem_cons.mpr ⟨xt_fl66, List.forall_mem_cons.mpr ⟨xt_fl67, List.forall_mem_cons.mpr ⟨xt_fl68, List.forall_mem_cons.mpr ⟨xt_fl69, List.forall_mem_cons.mpr ⟨xt_fl70, List.forall_mem_cons.mpr ⟨xt_fl71, List.forall_mem_cons.mpr ⟨xt_fl72, List.forall_mem_cons.mpr ⟨xt_fl73, List.forall_mem_cons.mpr ⟨xt_fl74, List.forall_mem_cons.mpr ⟨xt_fl75, List.forall_mem_cons.mpr ⟨xt_fl76, List.forall_mem_cons.mpr ⟨xt_fl77, List.forall_mem_cons.mpr ⟨xt_fl78, List.forall_mem_cons.mpr ⟨xt_fl79, List.forall_mem_cons.mpr ⟨xt_fl80, List.forall_mem_cons.mpr ⟨xt_fl81, List.forall_mem_cons.mpr ⟨xt_fl82, List.forall_mem_cons.mpr ⟨xt_fl83, List.forall_mem_cons.mpr ⟨xt_fl84, List.forall_mem_cons.mpr ⟨xt_fl85, List.forall_mem_cons.mpr ⟨xt_fl86, List.forall_mem_cons.mpr ⟨xt_fl87, List.forall_mem_cons.mpr ⟨xt_fl88, List.forall_mem_cons.mpr ⟨xt_fl89, List.forall_mem_cons.mpr ⟨xt_fl90, List.forall_mem_cons.mpr ⟨xt_fl91, List.forall_mem_cons.mpr ⟨xt_fl92, List.forall_mem_cons.mpr ⟨xt_fl93, List.forall_mem_cons.mpr ⟨xt_fl94, List.forall_mem_cons.mpr ⟨xt_fl95, List.forall_mem_cons.mpr ⟨xt_fl96, List.forall_mem_cons.mpr ⟨xt_fl97, List.forall_mem_cons.mpr ⟨xt_fl98, List.forall_mem_cons.mpr ⟨xt_fl99, List.forall_mem_cons.mpr ⟨xt_fl100, List.forall_mem_cons.mpr ⟨xt_fl101, List.forall_mem_cons.mpr ⟨xt_fl102, List.forall_mem_cons.mpr ⟨xt_fl103, List.forall_mem_cons.mpr ⟨xt_fl104, List.forall_mem_cons.mpr ⟨xt_fl105, List.forall_mem_cons.mpr ⟨xt_fl106, List.forall_mem_cons.mpr ⟨xt_fl107, List.forall_mem_cons.mpr ⟨xt_fl108, List.forall_mem_cons.mpr ⟨xt_fl109, List.forall_mem_cons.mpr ⟨xt_fl110, List.forall_mem_cons.mpr ⟨xt_fl111, List.forall_mem_cons.mpr ⟨xt_fl112, List.forall_mem_cons.mpr ⟨xt_fl113, List.forall_mem_cons.mpr ⟨xt_fl114, List.forall_mem_cons.mpr ⟨xt_fl115, List.forall_mem_cons.mpr ⟨xt_fl116, List.forall_mem_cons.mpr ⟨xt_fl117, List.forall_mem_cons.mpr ⟨xt_fl118, List.forall_mem_cons.mpr ⟨xt_fl119, List.forall_mem_cons.mpr ⟨xt_fl120, List.forall_mem_cons.mpr ⟨xt_fl121, List.forall_mem_cons.mpr ⟨xt_fl122, List.forall_mem_cons.mpr ⟨xt_fl123, List.forall_mem_cons.mpr ⟨xt_fl124, List.forall_mem_cons.mpr ⟨xt_fl125, List.forall_mem_cons.mpr ⟨xt_fl126, List.forall_mem_cons.mpr ⟨xt_fl127, List.forall_mem_cons.mpr ⟨xt_fl128, List.forall_mem_cons.mpr ⟨xt_fl129, List.forall_mem_cons.mpr ⟨xt_fl130, List.forall_mem_cons.mpr ⟨xt_fl131, List.forall_mem_cons.mpr ⟨xt_fl132, List.forall_mem_cons.mpr ⟨xt_fl133, List.forall_mem_cons.mpr ⟨xt_fl134, List.forall_mem_cons.mpr ⟨xt_fl135, List.forall_mem_cons.mpr ⟨xt_fl136, List.forall_mem_cons.mpr ⟨xt_fl137, List.forall_mem_cons.mpr ⟨xt_fl138, List.forall_mem_cons.mpr ⟨xt_fl139, List.forall_mem_cons.mpr ⟨xt_fl140, List.forall_mem_cons.mpr ⟨xt_fl141, List.forall_mem_cons.mpr ⟨xt_fl142, List.forall_mem_cons.mpr ⟨xt_fl143, List.forall_mem_cons.mpr ⟨xt_fl144, List.forall_mem_cons.mpr ⟨xt_fl145, List.forall_mem_cons.mpr ⟨xt_fl146, List.forall_mem_cons.mpr ⟨xt_fl147, List.forall_mem_cons.mpr ⟨xt_fl148, List.forall_mem_cons.mpr ⟨xt_fl149, List.forall_mem_cons.mpr ⟨xt_fl150, List.forall_mem_cons.mpr ⟨xt_fl151, List.forall_mem_cons.mpr ⟨xt_fl152, List.forall_mem_cons.mpr ⟨xt_fl153, List.forall_mem_cons.mpr ⟨xt_fl154, List.forall_mem_cons.mpr ⟨xt_fl155, List.forall_mem_cons.mpr ⟨xt_fl156, List.forall_mem_cons.mpr ⟨xt_fl157, List.forall_mem_cons.mpr ⟨xt_fl158, List.forall_mem_cons.mpr ⟨xt_fl159, List.forall_mem_cons.mpr ⟨xt_fl160, List.forall_mem_cons.mpr ⟨xt_fl161, List.forall_mem_cons.mpr ⟨xt_fl162, List.forall_mem_cons.mpr ⟨xt_fl163, List.forall_mem_cons.mpr ⟨xt_fl164, List.forall_mem_cons.mpr ⟨xt_fl165, List.forall_mem_cons.mpr ⟨xt_fl166, List.forall_mem_cons.mpr ⟨xt_fl167, List.forall_mem_cons.mpr ⟨xt_fl168, List.forall_mem_cons.mpr ⟨xt_fl169, List.forall_mem_cons.mpr ⟨xt_fl170, List.forall_mem_cons.mpr ⟨xt_fl171, List.forall_mem_cons.mpr ⟨xt_fl172, List.forall_mem_cons.mpr ⟨xt_fl173, List.forall_mem_cons.mpr ⟨xt_fl174, List.forall_mem_cons.mpr ⟨xt_fl175, List.forall_mem_cons.mpr ⟨xt_fl176, List.forall_mem_cons.mpr ⟨xt_fl177, List.forall_mem_cons.mpr ⟨xt_fl178, List.forall_mem_cons.mpr ⟨xt_fl179, List.forall_mem_cons.mpr ⟨xt_fl180, List.forall_mem_cons.mpr ⟨xt_fl181, List.forall_mem_cons.mpr ⟨xt_fl182, List.forall_mem_cons.mpr ⟨xt_fl183, List.forall_mem_cons.mpr ⟨xt_fl184, List.forall_mem_cons.mpr ⟨xt_fl185, List.forall_mem_cons.mpr ⟨xt_fl186, List.forall_mem_cons.mpr ⟨xt_fl187, List.forall_mem_cons.mpr ⟨xt_fl188, List.forall_mem_cons.mpr ⟨xt_fl189, List.forall_mem_cons.mpr ⟨xt_fl190, List.forall_mem_cons.mpr ⟨xt_fl191, List.forall_mem_cons.mpr ⟨xt_fl192, List.forall_mem_cons.mpr ⟨xt_fl193, List.forall_mem_cons.mpr ⟨xt_fl194, List.forall_mem_cons.mpr ⟨xt_fl195, fun _ h => absurd h List.not_mem_nil⟩⟩⟩⟩⟩⟩⟩⟩⟩⟩⟩⟩⟩⟩⟩⟩⟩⟩⟩⟩⟩⟩⟩⟩⟩⟩⟩⟩⟩⟩⟩⟩⟩⟩⟩⟩⟩⟩⟩⟩⟩⟩⟩⟩⟩⟩⟩⟩⟩⟩⟩⟩⟩⟩⟩⟩⟩⟩⟩⟩⟩⟩⟩⟩⟩⟩⟩⟩⟩⟩⟩⟩⟩⟩⟩⟩⟩⟩⟩⟩⟩⟩⟩⟩⟩⟩⟩⟩⟩⟩⟩⟩⟩⟩⟩⟩⟩⟩⟩⟩⟩⟩⟩⟩⟩⟩⟩⟩⟩⟩⟩⟩⟩⟩⟩⟩⟩⟩⟩⟩⟩⟩⟩⟩⟩⟩⟩⟩⟩⟩⟩⟩⟩⟩⟩⟩⟩⟩⟩⟩⟩⟩⟩⟩⟩⟩⟩⟩⟩⟩⟩⟩⟩⟩⟩⟩⟩⟩⟩⟩⟩⟩⟩⟩⟩⟩⟩⟩⟩⟩⟩⟩⟩⟩⟩⟩⟩⟩⟩⟩⟩⟩⟩⟩⟩⟩⟩⟩⟩⟩⟩⟩⟩⟩⟩⟩
theorem xt_fl_ok {y n a b : Nat} (h : xt_fl.lookup (xt_oc y, n) = some (a, b)) : ∃ (C : String) (T : u_T) (N : Nat), xt_cs[a]? = some (C, T, N) ∧ b < N ∧ (T b).1 = C ∧ Jvm.Cond.fieldLink (xt_ow y) n C (T b).2.1 (T b).2.2.1 ∈ xt_G ∧ True := xt_fla _ (xt_lk h)
