/-! The law's body out of the pure functions. -/
section XH
set_option maxHeartbeats 4000000 in
set_option maxRecDepth 100000 in
/-- the law's end -/
theorem xh_ret {p : Program} {l : Launch} {e : Env} {s : State} {m : MethodId} {below : List Frame} {meth : Method} {c : Code} {b : Nat} (hx : p.tables.exec = Jvm.exec) (hb : c.code = code) (hr : meth.sig.returnType = ret) (hlocks : meth.locks = false) {L : Nat} {xs : Nat → Int32} {adr : tm_R → Nat} {pc : Nat} {ls : xm_L tm_R} {st : xm_S tm_R} {μ : tm_M} {H : Heap} {locs : List Loc} {arr : Array Slot} {cells slots : Nat}
    (hst : xm_st (tm_I L xs) 176 pc ls st μ = .inr (.inl (some (.inl 1)))) (hS : va_S (fun q => s.heap.size ≤ q) s.heap H locs) (hc : cells ≤ 600000) (hs : slots ≤ 7302250) :
    W p l e room_1 s m #[Value.ref b] below meth c H locs cells slots (lw_Z below #[Value.ref b] s) (F0 m pc arr (st.map (xm_e adr))) := by
  have hz0 : (Sum.inr (Sum.inl (some (Sum.inl 1))) : xm_R tm_M tm_R) ≠ xm_no := fun h => by cases h
  unfold xm_st at hst
  cases hat : xt_at 176 pc with
  | none => rw [hat] at hst; exact absurd hst.symm hz0
  | some w =>
    obtain ⟨i, ln, ra, rb, rv⟩ := w
    have hck := xt_ok hat
    rw [hat] at hst
    dsimp only at hst
    cases i
    all_goals try dsimp only at hst
    case ireturn =>
      simp only [xt_ck, Bool.and_eq_true, decide_eq_true_eq] at hck
      obtain ⟨hd, rfl, -⟩ := hck
      split at hst
      · rename_i x
        split at hst
        · exact absurd hst.symm hz0
        · cases hst
          exact va_forget (fun q hq => hS.2.2 q hq) (W.widen hc hs (lw_ret hx hb hr hlocks hd))
      · exact absurd hst.symm hz0
    all_goals exfalso
    all_goals first
      | exact absurd hst.symm hz0
      | (simp only [xm_nx, xm_no, xm_cl, xm_rt, xm_i1, xm_i2, xm_v1, xm_v2, xm_r1, xm_ri, xm_rii, xm_rir, xm_rv, xm_li, xm_lr, xm_o, xm_c5] at hst
         repeat' split at hst
         all_goals cases hst)
set_option maxHeartbeats 4000000 in
set_option maxRecDepth 100000 in
theorem whole_of {p : Program} {e : Env} {s : State} {m : MethodId} {below : List Frame} {meth : Method} {c : Code} (l : Launch) {b L : Nat} {xs : Nat → Int32} (C0 : lw_At p s m meth c b L xs)
    (hp : ∃ n, ci_176_48 L xs n 3 (mu1 (cn_c L xs 0) (cn_c L xs 1) (cn_c L xs 2)) ∧ cv_176_48 L xs n 3 (mu1 (cn_c L xs 0) (cn_c L xs 1) (cn_c L xs 2)) = 1) :
    W p l e room_1 s m #[Value.ref b] below meth c s.heap [] 0 0 (lw_Z below #[Value.ref b] s) (entryFrame m ([Value.ref b] : List Value).toArray 4) := by
  obtain ⟨hx, hb, hr, hml, hown, hts, hX, hbl, hlk, hgv⟩ := C0
  obtain ⟨D, tys, hty, hWo⟩ := xs_Wo hts hX hbl
  have hG : ∀ w ∈ xt_G, w.before #[Value.ref b] s = true := fun w hw => hts w (xs_in w hw)
  have hF : xm_Fx 176 p s m #[Value.ref b] meth c := ⟨hx, hb, hml, hown, hG, fun h => absurd h (by decide +kernel)⟩
  obtain ⟨n, hci, hcv⟩ := hp
  generalize ha1 : cn_c L xs 0 = a1 at hci hcv
  generalize ha2 : cn_c L xs 1 = a2 at hci hcv
  generalize ha3 : cn_c L xs 2 = a3 at hci hcv
  obtain ⟨n1, hn1⟩ := tl_176_48 (d := 0) (Q := fun v _ => v = some (.inl 1)) n 3 _ hci (fun _ => rfl) hcv
  rw [lg_entry_eq]
  have hle := lv_entry ([Value.ref b]) (n := 4) (by first | (show (1 : Nat) ≤ 4; decide) | simp [lg_sl])
  generalize (lg_sl [Value.ref b] ++ List.replicate (4 - (lg_sl [Value.ref b]).length) Slot.unset).toArray = arr at hle ⊢
  obtain ⟨n0, hn0⟩ := cn_pre (L := L) (xs := xs) (Q := fun _ _ => False) (Z := fun _ _ pc ls st h => pc = 48 ∧ ls = [some (.inr (some 999999)), some (.inr (some 0)), some (.inr (some 125)), some (.inl 3)] ∧ st = [] ∧ h = mh_c153 a1 a2 a3) ha1 ha2 ha3 (fun _ _ => ⟨rfl, rfl, rfl, rfl⟩)
  have hl0 : xm_lh (ml_ad s.heap.size b) 4 arr [some (.inr (some 999999)), none, none, none] := by
    refine ⟨⟨hle.1, hle.2.1, fun q hq => hle.2.2 q ?_⟩, rfl⟩
    obtain ⟨i, w⟩ := q
    obtain ⟨v, hv, rfl⟩ := xm_lo_mem.mp hq
    have hi : i < 4 := (List.getElem?_eq_some_iff.mp hv).1
    rcases (by omega : i = 0 ∨ i = 1 ∨ i = 2 ∨ i = 3) with rfl | rfl | rfl | rfl <;> cases hv
    exact List.mem_cons_self
  refine xm_run (ml_Lw s.heap.size b L xs hty) (xm_snd (ml_Lw s.heap.size b L xs hty) 8) hF hWo (by decide) (by decide) (s1 := []) (Qm := fun _ _ => False) (Z := _) ?_ (fun _ _ _ _ _ _ _ _ _ _ _ h => h.elim) n0 200 10000 0 _ [] [] s.heap [] arr 0 0 hn0 ?_ va_S.rf hl0 ?_ (fun _ h => by cases h) (fun _ h => h) (by decide) (by decide)
  · intro mc ms pc ls st h H locs arr1 cells slots hZ hRp hS hl hvl hvs hmo hc hs
    obtain ⟨rfl, rfl, rfl, rfl⟩ := hZ
    refine xm_run (tm_Lw s.heap.size b L xs tys hty) (xm_snd (tm_Lw s.heap.size b L xs tys hty) 8) hF hWo (by decide) (by decide) (s1 := mu1 a1 a2 a3) (Qm := fun v _ => v = some (.inl 1)) (Z := xm_F) (fun _ _ _ _ _ _ _ _ _ _ _ h => h.elim) ?_ n1 0 0 48 [some (.inr (some (99, 0))), some (.inr (some (0, 0))), some (.inr (some (36, 0))), some (.inl 3)] [] (mu1 a1 a2 a3) H locs arr1 cells slots hn1 ⟨xs_Gd, fun h => h.elim, xs_mem hRp.2.2⟩ hS ?_ ?_ (fun _ h => by cases h) (fun _ h => h) (by omega) (by omega)
    · intro pc ls st μ v H' locs' arr' cells' slots' hst hQ _ hS' _ _ hc' hs'
      subst hQ
      exact xh_ret hx hb hr hlk hst hS' hc' hs'
    · exact hl
    · intro i v hv
      have hi : i < 4 := (List.getElem?_eq_some_iff.mp hv).1
      rcases (by omega : i = 0 ∨ i = 1 ∨ i = 2 ∨ i = 3) with rfl | rfl | rfl | rfl <;> cases hv
      · exact xm_vv_r (Or.inl ⟨rfl, rfl⟩)
      · exact xm_vv_r (Or.inr ⟨by decide, by decide +kernel⟩)
      · exact xm_vv_r (Or.inr ⟨by decide, by decide +kernel⟩)
      · exact xm_vv_i _
  · exact ⟨⟨Nat.zero_le _, fun q h => by cases h⟩, fun _ => rfl, fun k q h => by cases h⟩
  · intro i v hv
    have hi : i < 4 := (List.getElem?_eq_some_iff.mp hv).1
    rcases (by omega : i = 0 ∨ i = 1 ∨ i = 2 ∨ i = 3) with rfl | rfl | rfl | rfl <;> cases hv
    exact xm_vv_r (Or.inr rfl)
end XH
