/-! Soundness of calls, returns and whole methods. -/
section XC
variable {σ R : Type}
def xm_Pc (Zk : Prop) (adr : R → Nat) (wl : σ → va_W) (Gd : σ → Prop) (cz : σ → Nat) (D : va_G) (tys : List (ClassId × FieldType)) (base b0 L0 : Nat) (xs0 : Nat → Int32) (as : xm_S R) (s : σ) : Array Value → State → Prop :=
  va_Pc (as.map (xm_e adr)) (fun U => xm_Wo D tys base b0 L0 xs0 U ∧ xm_Rp Zk wl Gd cz D base s U.heap)
def xm_Qc (Zk : Prop) (adr : R → Nat) (wl : σ → va_W) (Lv : σ → R → Prop) (Gd : σ → Prop) (cz : σ → Nat) (D : va_G) (base : Nat) (s : σ) (Q : Option (xm_V R) → σ → Prop) : Array Value → State → Outcome → State → Prop := fun _ st o t =>
  (∃ (v : Option (xm_V R)) (u : σ), o = .returned (v.map (xm_e adr)) ∧ Q v u ∧ (∀ w, v = some w → xm_vv Lv u w) ∧ (∀ q, Lv s q → Lv u q) ∧ xm_Rp Zk wl Gd cz D base u t.heap) ∧ va_F (fun q => base ≤ q) st t
def xm_rm (d mc ms : Nat) : Room := { frames := d + 1, cells := mc, slots := ms, locals := 40 + 30 * d }
end XC
section XD0
theorem xm_sl {R : Type} (adr : R → Nat) (as : xm_S R) : (lg_sl (as.map (xm_e adr))).length = as.length := by
  induction as with
  | nil => rfl
  | cons v as ih =>
    unfold lg_sl at ih ⊢
    rw [List.map_cons, List.flatMap_cons, List.length_append, ih, if_neg (by rw [xm_e_cat]; decide), List.length_cons, List.length_cons, List.length_nil]
    omega
end XD0
section XD
variable {σ R : Type} {Zk : Prop} {I : xm_I σ R} {adr : R → Nat} {wl : σ → va_W} {Lv : σ → R → Prop} {Gd : σ → Prop} {cz : σ → Nat} {D : va_G} {tys : List (ClassId × FieldType)} {base b0 L0 : Nat} {xs0 : Nat → Int32}
theorem xm_Wo_sm {u U : State} (hh : U.heap = u.heap) (hvm : u.vm = U.vm) (h : xm_Wo D tys base b0 L0 xs0 u) : xm_Wo D tys base b0 L0 xs0 U := by
  obtain ⟨hK, hX, h1, h2, hN⟩ := h
  have ha : u.vm.Alike U.vm := by rw [hvm]; exact Vm.Alike.refl _
  exact ⟨va_K.moved ha hK, by rw [hh]; exact hX.moved ha, h1, by rw [hh]; exact h2, fun w hw => xt_nw_sm w hw hvm (hN w hw)⟩
theorem xm_Wo_mv {u U : State} {locs : List Loc} (hS : va_S (fun q => base ≤ q) u.heap U.heap locs) (hW : u.WarmedH U.vm) (h : xm_Wo D tys base b0 L0 xs0 u) : xm_Wo D tys base b0 L0 xs0 U := by
  obtain ⟨hK, hX, h1, h2, hN⟩ := h
  refine ⟨va_K.moved hW.alike hK, (hX.moved hW.alike).kept ?_, h1, Nat.le_trans h2 hS.1, fun w hw => xt_nw_mv w hw hW (hN w hw)⟩
  exact hS.2.1 b0 (Nat.lt_of_lt_of_le h1 h2) (Nat.not_le.mpr h1)
theorem xm_Pc_bl {as : xm_S R} {s : σ} : FrameBlind (xm_Pc Zk adr wl Gd cz D tys base b0 L0 xs0 as s) := fun a U g mk h => ⟨h.1, xm_Wo_sm (u := U) (U := U.calling g mk a) rfl rfl h.2.1, h.2.2⟩
variable {p : Program} {l : Launch} {e : Env} {Rm : Room} {s0 : State} {m : MethodId} {args : Array Value} {below : List Frame} {meth : Method} {c : Code} {H : Heap} {locs : List Loc} {cells slots : Nat} {Q : State → Prop}
variable {y pc : Nat} {ls : xm_L R} {st : xm_S R} {s : σ} {arr : Array Slot}
theorem xm_go {rest : xm_S R} {Q' : Option (xm_V R) → σ → Prop} {mc ms : Nat} {a : Array Value} (hS : va_S (fun q => base ≤ q) s0.heap H locs)
    (hr : va_Run p l e Rm s0 m args below meth c H locs cells slots mc ms (F0 m pc arr (st.map (xm_e adr))) (rest.map (xm_e adr)) (xm_Qc Zk adr wl Lv Gd cz D base s Q' a) (fun q => base ≤ q))
    (kk : ∀ (v : Option (xm_V R)) (u : σ) (H' : Heap) (locs' : List Loc), Q' v u → (∀ w, v = some w → xm_vv Lv u w) → (∀ q, Lv s q → Lv u q) → xm_Rp Zk wl Gd cz D base u H' → va_S (fun q => base ≤ q) s0.heap H' locs' → W p l e Rm s0 m args below meth c H' locs' (cells + mc) (slots + ms) Q (F0 m (pc + 3) arr ((v.toList ++ rest).map (xm_e adr)))) :
    W p l e Rm s0 m args below meth c H locs cells slots Q (F0 m pc arr (st.map (xm_e adr))) := by
  intro T hT X
  obtain ⟨v, st₀, t, T', L, h0, X', hL, e1, e2, ⟨⟨v', u, hv, hq, hl, hmo, hR⟩, hz, hk⟩, go⟩ := hr T hT X
  cases hv
  rw [h0] at hz hk
  have hS' : va_S (fun q => base ≤ q) s0.heap T'.heap (locs ++ L) := ⟨Nat.le_trans hS.1 (by rw [e1]; exact hz), fun q h1 h2 => by rw [e1, hk q (Nat.lt_of_lt_of_le h1 hS.1) h2]; exact hS.2.1 q h1 h2, fun q hq => by
    rcases List.mem_append.mp hq with h | h
    · exact hS.2.2 q h
    · exact hL q h⟩
  obtain ⟨t2, a1, b1⟩ := kk v' u T'.heap (locs ++ L) hq hl hmo (by rw [e1]; exact hR) hS' T' rfl X'
  refine ⟨t2, go t2 ?_, b1⟩
  have hst : (v'.map (xm_e adr)).toList ++ rest.map (xm_e adr) = (v'.toList ++ rest).map (xm_e adr) := by cases v' <;> simp
  rw [hst]
  exact a1
set_option maxHeartbeats 4000000 in
/-- a step that calls -/
theorem xm_s2 (Lw : xm_Lw Zk I adr wl Lv Gd cz tys base b0 L0 xs0) (hF : xm_Fx y p s0 m args meth c) (hW : xm_Wo D tys base b0 L0 xs0 s0) (hRp : xm_Rp Zk wl Gd cz D base s H) (hS : va_S (fun q => base ≤ q) s0.heap H locs) (hl : xm_lh adr (xt_ml y) arr ls) (hvs : xm_vs Lv s st)
    {q : Nat × xm_S R × xm_S R} (hst : xm_st I y pc ls st s = .inr (.inr (.inl q))) (hy : q.1 < xt_N) (h8 : q.2.2.length ≤ 8) {Q' : Option (xm_V R) → σ → Prop} {rm : Room}
    (hM : xm_vs Lv s q.2.1 → Met l (xt_nm q.1) (xt_ws q.1) rm (xm_Pc Zk adr wl Gd cz D tys base b0 L0 xs0 q.2.1 s) (xm_Qc Zk adr wl Lv Gd cz D base s Q') (xt_gc q.1) (xt_gs q.1) (fun q => base ≤ q))
    (hrc : rm.cells = xt_gc q.1) (hrs : rm.slots = xt_gs q.1) (hfr : rm.frames + 1 ≤ Rm.frames) (hlo : 8 + (xt_ml q.1 + 11) + rm.locals ≤ Rm.locals) (hc : cells + xt_gc q.1 ≤ Rm.cells) (hs : slots + xt_gs q.1 ≤ Rm.slots)
    (kk : xm_vs Lv s q.2.2 → ∀ (v : Option (xm_V R)) (u : σ) (H' : Heap) (locs' : List Loc), Q' v u → (∀ w, v = some w → xm_vv Lv u w) → (∀ q, Lv s q → Lv u q) → xm_Rp Zk wl Gd cz D base u H' → va_S (fun q => base ≤ q) s0.heap H' locs' → W p l e Rm s0 m args below meth c H' locs' (cells + xt_gc q.1) (slots + xt_gs q.1) Q (F0 m (pc + 3) arr ((v.toList ++ q.2.2).map (xm_e adr)))) :
    W p l e Rm s0 m args below meth c H locs cells slots Q (F0 m pc arr (st.map (xm_e adr))) := by
  obtain ⟨hx, hb, hml, hown, hts, hini⟩ := hF
  have hfix : CallFix p m c (xt_bc y) (xt_ml y) s0 args xt_G (xt_ow y) := ⟨hx, hb, hml, hown, hts⟩
  have hz0 : (Sum.inr (Sum.inr (Sum.inl q)) : xm_R σ R) ≠ xm_no := fun h => by cases h
  have hPcU : ∀ as : xm_S R, ∀ U : State, U.heap = H → s0.WarmedH U.vm → xm_Pc Zk adr wl Gd cz D tys base b0 L0 xs0 as s (as.map (xm_e adr)).toArray U := fun as U hU hWm => ⟨rfl, xm_Wo_mv (locs := locs) (by rw [hU]; exact hS) hWm hW, by rw [hU]; exact hRp⟩
  have hrest : (((q.2.2).map (xm_e adr)).map fun v => v.category).sum ≤ 8 := by rw [xm_e_sum]; exact h8
  have hGd := xt_good q.1 hy
  have hwq : xt_ws q.1 = Cond.code (xt_nm q.1) (xt_bc q.1) (xt_ml q.1) (xt_rt q.1) :: xt_G := rfl
  obtain ⟨hpl, hd1, hd2, hd3, -⟩ := xt_nmq q.1 hy
  unfold xm_st at hst
  cases hat : xt_at y pc with
  | none => rw [hat] at hst; exact absurd hst.symm hz0
  | some w =>
    obtain ⟨i, ln, ra, rb, rv⟩ := w
    have hck := xt_ok hat
    rw [hat] at hst
    dsimp only at hst
    cases i
    all_goals try dsimp only at hst
    case invokevirtual n =>
      simp only [xt_ck, Bool.and_eq_true, decide_eq_true_eq] at hck
      obtain ⟨hd, rfl, rfl, hmt⟩ := hck
      split at hst
      · rename_i o r hdr
        split at hst
        · rename_i hoc
          cases hst
          obtain ⟨hbN, w1, w2, w3, w4, row, hcs, hrow⟩ := (xt_mt_ok hmt).1 rfl
          have hsplit : st = (st.take (xt_na rb)).reverse.reverse ++ (.inr (some o) :: r) := by rw [List.reverse_reverse, ← hdr, List.take_append_drop]
          have hnl : (st.take (xt_na rb)).reverse.length = xt_na rb := by
            have : st.length - xt_na rb = (Sum.inr (some o) :: r : xm_S R).length := by rw [← hdr, List.length_drop]
            simp only [List.length_reverse, List.length_take, List.length_cons] at this ⊢
            omega
          generalize (st.take (xt_na rb)).reverse = as at hsplit hnl hM hc hs kk hPcU ⊢
          subst hsplit
          have hva : xm_vs Lv s (.inr (some o) :: as) := fun v hv => hvs v (by
            rcases List.mem_cons.mp hv with h | h
            · exact List.mem_append_right _ (by rw [h]; exact List.mem_cons_self)
            · exact List.mem_append_left _ (List.mem_reverse.mpr h))
          have hvr : xm_vs Lv s r := fun v hv => hvs v (List.mem_append_right _ (List.mem_cons_of_mem _ hv))
          obtain ⟨q0, fs, he⟩ := Lw.2.2.2.2.2.2.2.2.1 s (xt_oc rb) o hRp.1 (xm_vv_u (xm_vs_h hva)) hoc
          have hrc2 := va_recv hW.1 hRp.2.2 hcs he
          rw [hrow] at hrc2
          refine xm_go hS (va_runV (C := (xt_nm rb).cls) (As := as.map (xm_e adr)) (b := adr o) (rest := r.map (xm_e adr)) hfix (hM hva) ⟨callB_of (xt_na rb) hts hGd hwq hrc hrs (hts _ w4) (hts _ w1) ⟨hd1, hd2, hd3⟩ ⟨hfr, hlo⟩, hts _ w2, hts _ w3⟩ ⟨xm_Pc_bl, hrc2, fun U hU hWm => hPcU (.inr (some o) :: as) U hU hWm⟩ rfl (by rw [List.length_map]; exact hnl) hl.1.1 ?_ (lv_room hrest) hd ⟨hc, hs⟩) (kk hvr)
          show List.map _ (as.reverse ++ _) = _
          rw [List.map_append, List.map_reverse]
          rfl
        · exact absurd hst.symm hz0
      · exact absurd hst.symm hz0
    case invokespecial n =>
      simp only [xt_ck, Bool.and_eq_true, decide_eq_true_eq] at hck
      obtain ⟨hd, rfl, hkd, hmt⟩ := hck
      split at hst
      · obtain ⟨o, r, rfl, hs2⟩ := xm_r1_i hst hz0
        clear hst
        have hst := hs2
        clear hs2
        try dsimp only at hst
        split at hst
        · cases hst
        · exact absurd hst.symm hz0
      · rename_i hna
        split at hst
        · rename_i o r hdr
          cases hst
          have hsplit : st = (st.take (xt_na rb)).reverse.reverse ++ (.inr (some o) :: r) := by rw [List.reverse_reverse, ← hdr, List.take_append_drop]
          have hnl : (st.take (xt_na rb)).reverse.length = xt_na rb := by
            have : st.length - xt_na rb = (Sum.inr (some o) :: r : xm_S R).length := by rw [← hdr, List.length_drop]
            simp only [List.length_reverse, List.length_take, List.length_cons] at this ⊢
            omega
          generalize (st.take (xt_na rb)).reverse = as at hsplit hnl hM hc hs kk hPcU ⊢
          subst hsplit
          have hva : xm_vs Lv s (.inr (some o) :: as) := fun v hv => hvs v (by
            rcases List.mem_cons.mp hv with h | h
            · exact List.mem_append_right _ (by rw [h]; exact List.mem_cons_self)
            · exact List.mem_append_left _ (List.mem_reverse.mpr h))
          have hvr : xm_vs Lv s r := fun v hv => hvs v (List.mem_append_right _ (List.mem_cons_of_mem _ hv))
          have hstk : ((as.reverse ++ (.inr (some o) :: r)).map (xm_e adr)) = (as.map (xm_e adr)).reverse ++ .ref (adr o) :: r.map (xm_e adr) := by
            rw [List.map_append, List.map_reverse]
            rfl
          obtain ⟨hbN, hrn, hin1, w2, w4, hlk⟩ := (xt_mt_ok hmt).2.2.2.2.2.2 (by show ra = 5 ∨ ra = 7; omega)
          have hrn' : xt_rt rb = none := hrn
          have hwq' : xt_ws rb = Cond.code (xt_nm rb) (xt_bc rb) (xt_ml rb) none :: xt_G := by rw [hwq, hrn']
          rcases hlk with w1 | ⟨host, w1⟩
          · exact xm_go hS (va_runI (bytes := xt_bc rb) (maxL := xt_ml rb) (As := as.map (xm_e adr)) (b := adr o) (rest := r.map (xm_e adr)) hfix (hM hva) ⟨callB_of (xt_na rb) hts hGd hwq' hrc hrs (hts _ w4) (hts _ w1) ⟨hd1, hd2, hd3⟩ ⟨hfr, hlo⟩, hin1, hts _ w2⟩ ⟨xm_Pc_bl, fun U hU hWm => hPcU (.inr (some o) :: as) U hU hWm⟩ rfl (by rw [List.length_map]; exact hnl) hl.1.1 hstk (lv_room hrest) hd ⟨hc, hs⟩) (kk hvr)
          · exact xm_go hS (va_runIN (host := host) (bytes := xt_bc rb) (maxL := xt_ml rb) (As := as.map (xm_e adr)) (b := adr o) (rest := r.map (xm_e adr)) hfix (hM hva) ⟨va_cnB (xt_na rb) hts hGd hwq' hrc hrs (hW.2.2.2.2 _ w1) (hts _ w4) ⟨hd1, hd2, hd3⟩ ⟨hfr, hlo⟩, hin1, hts _ w2⟩ ⟨xm_Pc_bl, fun U hU hWm => hPcU (.inr (some o) :: as) U hU hWm⟩ rfl (by rw [List.length_map]; exact hnl) hl.1.1 hstk (lv_room hrest) hd ⟨hc, hs⟩) (kk hvr)
        · exact absurd hst.symm hz0
    case invokestatic n =>
      simp only [xt_ck, Bool.and_eq_true, decide_eq_true_eq] at hck
      obtain ⟨hd, rfl, hkd, hmt⟩ := hck
      split at hst
      · obtain ⟨x, z, r, rfl, hs2⟩ := xm_i2_i hst hz0
        clear hst
        have hst := hs2
        clear hs2
        try dsimp only at hst
        split at hst
        · cases hst
        · exact absurd hst.symm hz0
      · rename_i n2
        split at hst
        · obtain ⟨x, z, r, rfl, hs2⟩ := xm_i2_i hst hz0
          clear hst
          have hst := hs2
          clear hs2
          try dsimp only at hst
          split at hst
          · cases hst
          · exact absurd hst.symm hz0
        · rename_i n3
          split at hst
          · obtain ⟨o, sp, d, dp, k, r, rfl, hs2⟩ := xm_c5_i hst hz0
            clear hst
            have hst := hs2
            clear hs2
            try dsimp only at hst
            split at hst
            · obtain ⟨u, hu, hst⟩ := xm_o_i hst hz0
              cases hst
            · exact absurd hst.symm hz0
          · rename_i n4
            split at hst
            · rename_i hle
              cases hst
              obtain ⟨hbN, w1, w2, w4⟩ := (xt_mt_ok hmt).2.2.2.2.2.1 (by show ra = 6; omega)
              have hsplit : st = (st.take (xt_na rb)).reverse.reverse ++ st.drop (xt_na rb) := by rw [List.reverse_reverse, List.take_append_drop]
              have hnl : (st.take (xt_na rb)).reverse.length = xt_na rb := by
                simp only [List.length_reverse, List.length_take]
                omega
              generalize (st.take (xt_na rb)).reverse = as at hsplit hnl hM hc hs kk hPcU ⊢
              generalize st.drop (xt_na rb) = r at hsplit hrest kk h8
              subst hsplit
              have hva : xm_vs Lv s as := fun v hv => hvs v (List.mem_append_left _ (List.mem_reverse.mpr hv))
              have hvr : xm_vs Lv s r := fun v hv => hvs v (List.mem_append_right _ hv)
              exact xm_go hS (va_runS (As := as.map (xm_e adr)) (rest := r.map (xm_e adr)) hfix (hM hva) ⟨callB_of (xt_na rb) hts hGd hwq hrc hrs (hts _ w4) (hts _ w1) ⟨hd1, hd2, hd3⟩ ⟨hfr, hlo⟩, hts _ w2⟩ ⟨xm_Pc_bl, fun U hU hWm => hPcU as U hU hWm⟩ rfl (by rw [List.length_map]; exact hnl) hl.1.1 (by show List.map _ (as.reverse ++ _) = _; rw [List.map_append, List.map_reverse]) (lv_room hrest) hd ⟨hc, hs⟩) (kk hvr)
            · exact absurd hst.symm hz0
    all_goals exfalso
    all_goals first
      | exact absurd hst.symm hz0
      | (simp only [xm_nx, xm_no, xm_rt, xm_i1, xm_i2, xm_v1, xm_v2, xm_r1, xm_ri, xm_rii, xm_rir, xm_rv, xm_li, xm_lr, xm_o] at hst
         repeat' split at hst
         all_goals cases hst)
set_option maxHeartbeats 4000000 in
/-- a step that answers -/
theorem xm_s3 (hF : xm_Fx y p s0 m args meth c) (hr : meth.sig.returnType = xt_rt y) (hlk : meth.locks = false) (hRp : xm_Rp Zk wl Gd cz D base s H) (hS : va_S (fun q => base ≤ q) s0.heap H locs) (hvs : xm_vs Lv s st) {s1 : σ} (hmo : ∀ q, Lv s1 q → Lv s q)
    {v : Option (xm_V R)} (hst : xm_st I y pc ls st s = .inr (.inl v)) {Qm : Option (xm_V R) → σ → Prop} (hQ : Qm v s) :
    W p l e Rm s0 m args below meth c H locs cells slots (MQ below (xm_Qc Zk adr wl Lv Gd cz D base s1 Qm) args s0 cells slots (fun q => base ≤ q)) (F0 m pc arr (st.map (xm_e adr))) := by
  obtain ⟨hx, hb, hml, hown, hts, hini⟩ := hF
  have hz0 : (Sum.inr (Sum.inl v) : xm_R σ R) ≠ xm_no := fun h => by cases h
  have hq : (∀ w, v = some w → xm_vv Lv s w) → ∀ t : State, t.heap = H → s0.WarmedH t.vm → xm_Qc Zk adr wl Lv Gd cz D base s1 Qm args s0 (.returned (v.map (xm_e adr))) t := fun hv t ht _ => ⟨⟨v, s, rfl, hQ, hv, hmo, by rw [ht]; exact hRp⟩, hS.F ht⟩
  unfold xm_st at hst
  cases hat : xt_at y pc with
  | none => rw [hat] at hst; exact absurd hst.symm hz0
  | some w =>
    obtain ⟨i, ln, ra, rb, rv⟩ := w
    have hck := xt_ok hat
    rw [hat] at hst
    dsimp only at hst
    cases i
    all_goals try dsimp only at hst
    case ireturn =>
      simp only [xt_ck, Bool.and_eq_true, decide_eq_true_eq] at hck
      obtain ⟨hd, rfl, hrt⟩ := hck
      split at hst
      · rename_i x
        split at hst
        · exact absurd hst.symm hz0
        · rename_i hbo
          cases hst
          have hq := hq (fun w h => by cases h; exact xm_vv_i _)
          rcases hrt with ⟨rfl, h⟩ | ⟨rfl, h⟩
          · have hx01 : x = 0 ∨ x = 1 := Classical.byContradiction fun h => hbo ⟨rfl, h⟩
            exact W.zret hx hb (hr.trans h) (by rcases hx01 with rfl | rfl <;> rfl) hq hS.2.2 hd hlk
          · exact W.iret hx hb (hr.trans h) hq hS.2.2 hd hlk
      · exact absurd hst.symm hz0
    case areturn =>
      simp only [xt_ck, Bool.and_eq_true, decide_eq_true_eq] at hck
      obtain ⟨hd, rfl, hrt⟩ := hck
      split at hst
      · rename_i o
        cases hst
        have hq := hq (fun w h => by cases h; exact xm_vs_h hvs)
        obtain ⟨nm, hrt⟩ := xt_isob hrt
        exact W.aret hx hb (hr.trans hrt) (Or.inl ⟨nm, rfl⟩) (Or.inr ⟨adr o, rfl⟩) hq hS.2.2 hd hlk
      · exact absurd hst.symm hz0
    case return_ =>
      simp only [xt_ck, Bool.and_eq_true, decide_eq_true_eq] at hck
      obtain ⟨hd, rfl, hrt⟩ := hck
      split at hst
      · cases hst
        exact W.vret hx hb (hr.trans hrt) (hq (fun w h => by cases h)) hS.2.2 hd hlk
      · exact absurd hst.symm hz0
    all_goals exfalso
    all_goals first
      | exact absurd hst.symm hz0
      | (simp only [xm_nx, xm_no, xm_cl, xm_i1, xm_i2, xm_v1, xm_v2, xm_r1, xm_ri, xm_rii, xm_rir, xm_rv, xm_li, xm_lr, xm_o, xm_c5] at hst
         repeat' split at hst
         all_goals cases hst)
/-- a run of a method's body -/
theorem xm_run (Lw : xm_Lw Zk I adr wl Lv Gd cz tys base b0 L0 xs0) {k : Nat} (hcall : ∀ (y : Nat) (as : xm_S R) (s : σ) (Q : Option (xm_V R) → σ → Prop), y < xt_N → as.length ≤ xt_ml y → xm_MW I k y as s Q → xm_vs Lv s as → Met l (xt_nm y) (xt_ws y) (xm_rm (k - 1) (xt_gc y) (xt_gs y)) (xm_Pc Zk adr wl Gd cz D tys base b0 L0 xs0 as s) (xm_Qc Zk adr wl Lv Gd cz D base s Q) (xt_gc y) (xt_gs y) (fun q => base ≤ q))
    (hF : xm_Fx y p s0 m args meth c) (hW : xm_Wo D tys base b0 L0 xs0 s0) (hfr : k + 1 ≤ Rm.frames) (hlo : 40 + 30 * k ≤ Rm.locals) {s1 : σ} {Qm : Option (xm_V R) → σ → Prop} {Z : Nat → Nat → Nat → xm_L R → xm_S R → σ → Prop}
    (hz : ∀ (mc ms pc : Nat) (ls : xm_L R) (st : xm_S R) (s : σ) (H : Heap) (locs : List Loc) (arr : Array Slot) (cells slots : Nat), Z mc ms pc ls st s → xm_Rp Zk wl Gd cz D base s H → va_S (fun q => base ≤ q) s0.heap H locs → xm_lh adr (xt_ml y) arr ls → xm_vl Lv s ls → xm_vs Lv s st → (∀ q, Lv s1 q → Lv s q) → cells + mc ≤ Rm.cells → slots + ms ≤ Rm.slots → W p l e Rm s0 m args below meth c H locs cells slots Q (F0 m pc arr (st.map (xm_e adr))))
    (hret : ∀ (pc : Nat) (ls : xm_L R) (st : xm_S R) (s : σ) (v : Option (xm_V R)) (H : Heap) (locs : List Loc) (arr : Array Slot) (cells slots : Nat), xm_st I y pc ls st s = .inr (.inl v) → Qm v s → xm_Rp Zk wl Gd cz D base s H → va_S (fun q => base ≤ q) s0.heap H locs → xm_vs Lv s st → (∀ q, Lv s1 q → Lv s q) → cells ≤ Rm.cells → slots ≤ Rm.slots → W p l e Rm s0 m args below meth c H locs cells slots Q (F0 m pc arr (st.map (xm_e adr)))) :
    ∀ (n mc ms pc : Nat) (ls : xm_L R) (st : xm_S R) (s : σ) (H : Heap) (locs : List Loc) (arr : Array Slot) (cells slots : Nat), xm_lp I (xm_MW I k) y Z n mc ms pc ls st s Qm → xm_Rp Zk wl Gd cz D base s H → va_S (fun q => base ≤ q) s0.heap H locs → xm_lh adr (xt_ml y) arr ls → xm_vl Lv s ls → xm_vs Lv s st → (∀ q, Lv s1 q → Lv s q) → cells + mc ≤ Rm.cells → slots + ms ≤ Rm.slots → W p l e Rm s0 m args below meth c H locs cells slots Q (F0 m pc arr (st.map (xm_e adr))) := by
  intro n
  induction n with
  | zero => intro mc ms pc ls st s H locs arr cells slots h hRp hS hl hvl hvs hmo hc hs; exact hz mc ms pc ls st s H locs arr cells slots h hRp hS hl hvl hvs hmo hc hs
  | succ n ih =>
    intro mc ms pc ls st s H locs arr cells slots h hRp hS hl hvl hvs hmo hc hs
    unfold xm_lp at h
    split at h
    · rename_i q hst
      obtain ⟨h1, h2, h3⟩ := h
      refine xm_s1 Lw hF hW hRp hS hl hvl hvs (by omega) (by omega) hst (by omega) (by omega) (fun hmo' H' locs' arr' hRp' hS' hl' hvl' hvs' => ?_)
      exact ih _ _ _ _ _ _ _ _ _ _ _ h3 hRp' hS' hl' hvl' hvs' (fun q h => hmo' q (hmo q h)) (by omega) (by omega)
    · rename_i v hst
      exact hret pc ls st s v H locs arr cells slots hst h hRp hS hvs hmo (by omega) (by omega)
    · rename_i q hst
      obtain ⟨h1, h2, h3, h4, h5, h6⟩ := h
      obtain ⟨-, -, -, -, hm45⟩ := xt_nmq q.1 h1
      cases k with
      | zero => exact h6.elim
      | succ k =>
        refine xm_s2 Lw hF hW hRp hS hl hvs hst h1 h4 (rm := xm_rm k (xt_gc q.1) (xt_gs q.1)) (hcall q.1 q.2.1 s _ h1 h5 h6) rfl rfl ?_ ?_ (by omega) (by omega) (fun hvr v u H' locs' hQ' hv hmo' hRp' hS' => ?_)
        · show k + 1 + 1 ≤ _; omega
        · show 8 + (_ + 11) + (40 + 30 * k) ≤ _; omega
        · refine ih _ _ _ _ _ _ _ _ _ _ _ hQ' hRp' hS' hl (xm_vl_m hmo' hvl) ?_ (fun q h => hmo' q (hmo q h)) (by omega) (by omega)
          cases v with
          | none => exact xm_vs_m hmo' hvr
          | some w => exact xm_vs_c (hv w rfl) (xm_vs_m hmo' hvr)
    · exact h.elim
set_option maxHeartbeats 4000000 in
/-- what the X machine does, the machine does -/
theorem xm_snd (Lw : xm_Lw Zk I adr wl Lv Gd cz tys base b0 L0 xs0) : ∀ (k y : Nat) (as : xm_S R) (s : σ) (Qm : Option (xm_V R) → σ → Prop), y < xt_N → as.length ≤ xt_ml y → xm_MW I k y as s Qm → xm_vs Lv s as → Met l (xt_nm y) (xt_ws y) (xm_rm (k - 1) (xt_gc y) (xt_gs y)) (xm_Pc Zk adr wl Gd cz D tys base b0 L0 xs0 as s) (xm_Qc Zk adr wl Lv Gd cz D base s Qm) (xt_gc y) (xt_gs y) (fun q => base ≤ q) := by
  intro k
  induction k with
  | zero => intro y as s Qm _ _ h; exact h.elim
  | succ k ihk =>
    intro y as s Qm hy hal hMW hva
    obtain ⟨n, hn⟩ := hMW
    refine Met.ofW (cc := xt_bc y) (maxL := xt_ml y) (ret := xt_rt y) (xt_nmq y hy).1 rfl ?_
    intro p e s0 m args below meth c s₁ B hml hv
    obtain ⟨rfl, hWo, hRp⟩ := hv
    have hts : ∀ w ∈ xt_G, w.before (as.map (xm_e adr)).toArray s0 = true := fun w hw => atoms_spec (ws := xt_ws y) B.pre w (List.mem_cons_of_mem _ hw)
    have hown : s0.vm.findClass (xt_ow y) = some m.cls := by rw [xt_owq y hy]; exact findClass_of_methodNamed B.named
    have hF : xm_Fx y p s0 m (as.map (xm_e adr)).toArray meth c := ⟨B.exec, B.bytes, hml, hown, hts, fun hi => ((name_of_methodNamed B.named B.method).1).trans (xt_inq y hi)⟩
    rw [lg_entry_eq]
    have hsl := xm_sl adr as
    have hle := lv_entry (as.map (xm_e adr)) (n := xt_ml y) (by rw [hsl]; exact hal)
    generalize (lg_sl (as.map (xm_e adr)) ++ List.replicate (xt_ml y - (lg_sl (as.map (xm_e adr))).length) Slot.unset).toArray = arr at hle ⊢
    have hl : xm_lh adr (xt_ml y) arr (xm_in y as) := by
      refine ⟨⟨hle.1, hle.2.1, fun q hq => hle.2.2 q ?_⟩, ?_⟩
      · obtain ⟨i, w⟩ := q
        obtain ⟨v, hv, rfl⟩ := xm_lo_mem.mp hq
        exact xm_in_mem hv
      · unfold xm_in
        rw [List.length_append, List.length_map, List.length_replicate]
        omega
    refine xm_run Lw ihk hF hWo (Nat.le_refl _) (Nat.le_refl _) (s1 := s) (Qm := Qm) (Z := xm_F) (fun _ _ _ _ _ _ _ _ _ _ _ h => h.elim) ?_ n (xt_gc y) (xt_gs y) 0 (xm_in y as) [] s s0.heap [] arr 0 0 hn hRp va_S.rf hl ?_ (fun _ h => by cases h) (fun _ h => h) (by show 0 + _ ≤ xt_gc y; omega) (by show 0 + _ ≤ xt_gs y; omega)
    · intro pc ls st s2 v H locs arr cells slots hst hQ hRp2 hS hvs hmo hc hs
      exact W.widen hc hs (xm_s3 hF B.returns B.notSynchronized hRp2 hS hvs hmo hst hQ)
    · intro i v hv
      obtain ⟨w, hw⟩ : ∃ w, w ∈ as ∧ w = v := xm_in_at hv
      rw [← hw.2]
      exact hva w hw.1
end XD
