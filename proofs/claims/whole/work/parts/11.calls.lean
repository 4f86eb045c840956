section SNC
variable {l : Launch} {D : va_G} {cA : Nat → ClassId} {base : Nat}
def PcN (D : va_G) (cA : Nat → ClassId) (base : Nat) (vs : List Value) (G : PH) : Array Value → State → Prop := va_Pc vs (fun U => HR D cA base U G U.heap ∧ va_K D vwCl (tysOf cA) U ∧ (∀ w ∈ lw_n, va_Nw w U) ∧ va_AO RX1 U)
def QcN (D : va_G) (cA : Nat → ClassId) (base : Nat) (v : Option Value) (G1 : PH) : Array Value → State → Outcome → State → Prop := fun _ st oc t => oc = .returned v ∧ HR D cA base t G1 t.heap ∧ va_F (fun q => base ≤ q) st t
theorem nest_is {w : Cond} (h : w ∈ lw_n) : ∃ a i x h', w = .methodLinkNest a i x h' := by
  have := (List.mem_filter.mp h).2
  unfold isNest at this
  split at this
  · exact ⟨_, _, _, _, rfl⟩
  · cases this
theorem PcN.blind {vs : List Value} {G : PH} : FrameBlind (PcN D cA base vs G) := by
  intro a U g mk q
  obtain ⟨h1, h2, h3, h4, h5⟩ := q
  refine ⟨h1, HR.moved (u := U) (U := U.calling g mk a) (Vm.Alike.refl U.vm) h2, va_K.moved (u := U) (U := U.calling g mk a) (Vm.Alike.refl U.vm) h3, fun w hw => ?_, va_AO.moved (u := U) (U := U.calling g mk a) (Vm.Alike.refl U.vm) h5⟩
  obtain ⟨x1, x2, x3, x4, rfl⟩ := nest_is hw
  exact va_Nw.same (u := U) (U := U.calling g mk a) rfl rfl (h4 _ hw)
theorem PcN.at_ {p : Program} {e : Env} {R : Room} {s : State} {m : MethodId} {args : Array Value} {below : List Frame} {meth : Method} {cd : Code} {M : MI} {r : Rs} {mc ms : Nat} {Q : State → Prop} {vs : List Value} {G : PH} {H : Heap} (S : CxS l D cA base p e R s m args below meth cd M r mc ms Q) (hH : HR D cA base s G H) : ∀ U : State, U.heap = H → s.WarmedH U.vm → PcN D cA base vs G vs.toArray U := by
  intro U hU hW
  obtain ⟨-, -, -, -, -, -, h7, h8, h9, -⟩ := S
  refine ⟨rfl, by rw [hU]; exact hH.moved hW.alike, va_K.moved hW.alike h9, fun w hw => ?_, va_AO.moved hW.alike h8⟩
  obtain ⟨x1, x2, x3, x4, rfl⟩ := nest_is hw
  exact va_Nw.warmM hW (h7 _ hw)
set_option maxHeartbeats 1000000 in
theorem Sn.met {N : MI} (hN : okM N) {vs : List Value} (hlen : (entL vs).length ≤ mL N) {G G1 : PH} {v : Option Value} (h : Sn l D cA base N 0 (ent N vs) [] G (v, G1)) : Met l (mY N) (wd N) (rmN N (G1.1 - G.1) (G1.2.1 - G.2.1)) (PcN D cA base vs G) (QcN D cA base v G1) (G1.1 - G.1) (G1.2.1 - G.2.1) (fun q => base ≤ q) := by
  refine Met.ofW (cc := mC N) (maxL := mL N) (ret := mR N) hN.2.2.1 rfl ?_
  intro p e s m args below meth c s₁ B hml hv
  obtain ⟨rfl, hH, hK, hnw, hao⟩ := hv
  have hts := atoms_spec (ws := wd N) B.pre
  have hown : s.vm.findClass (mY N).cls = some m.cls := findClass_of_methodNamed B.named
  have hnm : meth.name = (mY N).name := (name_of_methodNamed B.named B.method).1
  have hlocks := B.notSynchronized
  have hret : meth.sig.returnType = mR N := B.returns
  have hl := lv_entry vs (n := mL N) (by rw [← entL_len]; exact hlen)
  rw [lg_entry_eq]
  refine h.2.2 p e _ s m _ below meth c (G1.1 - G.1) (G1.2.1 - G.2.1) _ ⟨B.exec, B.bytes, hml, hown, fun hi => by rw [hnm]; exact hi, fun w hw => hts w (List.mem_cons_of_mem _ hw), hnw, hao, hK, hH.2.1, ⟨Nat.le_refl _, Nat.le_refl _⟩, ⟨Nat.le_refl _, Nat.le_refl _⟩, ?_⟩ s.heap [] 0 0 _ ⟨⟨hl.1, hl.2.1, fun j w hj => hl.2.2 (j, w) (ent_mem N vs j w hj)⟩, hH, va_S.rf, by simp, by simp⟩
  intro pc' ls' H' locs' hH' hS' hro
  have hq : ∀ t : State, t.heap = H' → s.WarmedH t.vm → QcN D cA base v G1 vs.toArray s (.returned v) t := fun t ht hW => ⟨rfl, by rw [ht]; exact hH'.moved hW.alike, hS'.F ht⟩
  rcases hro with ⟨x, ty, hv, hdg, hr, hn⟩ | ⟨x, hv, hdg, hr⟩ | ⟨x, rt, hv, hdg, hr, hrt, hx⟩ | ⟨hv, hdg, hr⟩
  · dsimp only at hv
    subst hv
    exact W.zret (cc := mC N) B.exec B.bytes (hret.trans hr) hn hq hS'.2.2 hdg
  · dsimp only at hv
    subst hv
    exact W.lret (cc := mC N) B.exec B.bytes (hret.trans hr) hq hS'.2.2 hdg
  · dsimp only at hv
    subst hv
    exact W.aret (cc := mC N) B.exec B.bytes (hret.trans hr) hrt hx hq hS'.2.2 hdg
  · dsimp only at hv
    subst hv
    exact W.vret (cc := mC N) B.exec B.bytes (hret.trans hr) hq hS'.2.2 hdg
theorem Sn.after {M : MI} {pc : Nat} {L : PLoc} {st st0 : List Value} {G G1 : PH} {v : Option Value} {r : Rs} {a : Array Value} (h2 : Sn l D cA base M (pc + 3) L (v.toList ++ st) G1 r) (hm1 : G.1 ≤ G1.1) (hm2 : G.2.1 ≤ G1.2.1) {p : Program} {e : Env} {R : Room} {s : State} {m : MethodId} {args : Array Value} {below : List Frame} {meth : Method} {cd : Code} {mc ms : Nat} {Q : State → Prop} {H : Heap} {locs : List Loc} {cells slots : Nat} {ls : Array Slot} (S : CxS l D cA base p e R s m args below meth cd M r mc ms Q) (Dn : CxD D cA base s M L G r mc ms H locs cells slots ls)
    (run : va_Run p l e R s m args below meth cd H locs cells slots (G1.1 - G.1) (G1.2.1 - G.2.1) (F0 m pc ls st0) st (QcN D cA base v G1 a) (fun q => base ≤ q)) : W p l e R s m args below meth cd H locs cells slots Q (F0 m pc ls st0) := by
  intro T hT X
  obtain ⟨v', st₀, t, T', L', e0, X', hL', e1, e2, ⟨hv, hH1, hF1⟩, go⟩ := run T hT X
  cases hv
  obtain ⟨d1, d2, d3, d4, d5⟩ := Dn
  have hal : t.vm.Alike s.vm := by rw [← e2]; exact X'.warmed.alike.symm
  have g1 := h2.1
  have g2 := h2.2.1
  obtain ⟨t2, a1, b1⟩ := h2.2.2 p e R s m args below meth cd mc ms Q S T'.heap (locs ++ L') (cells + (G1.1 - G.1)) (slots + (G1.2.1 - G.2.1)) ls ⟨d1, by rw [e1]; exact hH1.moved hal, ⟨Nat.le_trans d3.1 (by rw [e1, ← e0]; exact hF1.1), fun q k1 k2 => by
      rw [e1, hF1.2 q (by rw [e0]; exact Nat.lt_of_lt_of_le k1 d3.1) k2, e0]
      exact d3.2.1 q k1 k2, fun q hq => by
      rcases List.mem_append.mp hq with h | h
      · exact d3.2.2 q h
      · exact hL' q h⟩, by omega, by omega⟩ T' rfl X'
  exact ⟨t2, go t2 a1, b1⟩

set_option maxHeartbeats 1000000 in
theorem sn_callV : Ru_callV (Sn l D cA base) := by
  intro M pc L st G r idx b ci N As fs v G1 hd hl hcell hcls hlen hcat hfr hlc hel h1 h2
  have hok := hl.1
  have hM := h1.met hok hel
  have hw := wd_good hok
  have m1 := h1.1
  have m2 := h1.2.1
  have m3 := h2.1
  have m4 := h2.2.1
  refine ⟨Nat.le_trans m1 m3, Nat.le_trans m2 m4, fun p e R s m args below meth cd mc ms Q S H locs cells slots ls Dn => ?_⟩
  have hR := S.2.2.2.2.2.2.2.2.2.2.2.1
  have hC := S.2.2.2.2.2.2.2.2.2.2.1
  have c1 := Dn.2.2.2.1
  have c2 := Dn.2.2.2.2
  dsimp only at m1 m2 m3 m4
  have room : cells + (G1.1 - G.1) ≤ R.cells ∧ slots + (G1.2.1 - G.2.1) ≤ R.slots := ⟨by omega, by omega⟩
  have rm2 : (rmN N (G1.1 - G.1) (G1.2.1 - G.2.1)).frames + 1 ≤ R.frames ∧ 8 + (mL N + 11) + (rmN N (G1.1 - G.1) (G1.2.1 - G.2.1)).locals ≤ R.locals := ⟨Nat.le_trans hfr hR.1, Nat.le_trans hlc hR.2⟩
  have fix : CallFix p m cd (mC M) (mL M) s args lw_g (mY M).cls := ⟨S.1, S.2.1, S.2.2.1, S.2.2.2.1, S.2.2.2.2.2.1⟩
  have hpre := PcN.at_ (vs := (.ref b :: As)) S Dn.2.1
  obtain ⟨q, hq⟩ : ∃ q : vw_C, vwCl[ci]? = some q := by
    cases hc : vwCl[ci]? with
    | none => rw [hc] at hcls; cases hcls
    | some q => exact ⟨q, rfl⟩
  have hqn : q.1 = (mY N).cls := by rw [hq] at hcls; simpa using hcls
  have hrecv := va_recv S.2.2.2.2.2.2.2.2.1 (vP1 (a := b) (e := .inr (ci, fs)) (Dn.2.1.2.2 _ _ hcell).1) hq (q0 := 0) rfl
  rw [hqn] at hrecv
  exact h2.after m1 m2 S Dn (va_runV (As := As) (rest := st) fix hM (cwV (mNp N) S.2.2.2.2.2.1 (lw_gIn (fun w hw' => by
    rcases List.mem_append.mp hw' with h | h
    · simp only [List.mem_cons, List.not_mem_nil, or_false] at h
      rcases h with rfl | rfl | rfl | rfl
      · exact ⟨hl.2.1, rfl⟩
      · exact ⟨hl.2.2.1, rfl⟩
      · exact ⟨hl.2.2.2, rfl⟩
      · exact ⟨hok.2.1, rfl⟩
    · exact hw w h)) rfl rfl rfl ⟨rfl, hok.2.2.2.1, hok.2.2.2.2.1, hok.2.2.2.2.2⟩ rm2) ⟨PcN.blind, hrecv, hpre⟩ rfl hlen Dn.1.1 rfl (lv_room hcat) hd room)
set_option maxHeartbeats 1000000 in
theorem sn_callS : Ru_callS (Sn l D cA base) := by
  intro M pc L st G r idx N As v G1 hd hl hlen hcat hfr hlc hel h1 h2
  have hok := hl.1
  have hM := h1.met hok hel
  have hw := wd_good hok
  have m1 := h1.1
  have m2 := h1.2.1
  have m3 := h2.1
  have m4 := h2.2.1
  refine ⟨Nat.le_trans m1 m3, Nat.le_trans m2 m4, fun p e R s m args below meth cd mc ms Q S H locs cells slots ls Dn => ?_⟩
  have hR := S.2.2.2.2.2.2.2.2.2.2.2.1
  have hC := S.2.2.2.2.2.2.2.2.2.2.1
  have c1 := Dn.2.2.2.1
  have c2 := Dn.2.2.2.2
  dsimp only at m1 m2 m3 m4
  have room : cells + (G1.1 - G.1) ≤ R.cells ∧ slots + (G1.2.1 - G.2.1) ≤ R.slots := ⟨by omega, by omega⟩
  have rm2 : (rmN N (G1.1 - G.1) (G1.2.1 - G.2.1)).frames + 1 ≤ R.frames ∧ 8 + (mL N + 11) + (rmN N (G1.1 - G.1) (G1.2.1 - G.2.1)).locals ≤ R.locals := ⟨Nat.le_trans hfr hR.1, Nat.le_trans hlc hR.2⟩
  have fix : CallFix p m cd (mC M) (mL M) s args lw_g (mY M).cls := ⟨S.1, S.2.1, S.2.2.1, S.2.2.2.1, S.2.2.2.2.2.1⟩
  have hpre := PcN.at_ (vs := As) S Dn.2.1
  exact h2.after m1 m2 S Dn (va_runS (As := As) (rest := st) fix hM ⟨callB_of (mNp N) S.2.2.2.2.2.1 (lw_gIn hw) rfl rfl rfl (S.tb hok.2.1 rfl) (S.tb hl.2.1 rfl) ⟨hok.2.2.2.1, hok.2.2.2.2.1, hok.2.2.2.2.2⟩ rm2, S.tb hl.2.2 rfl⟩ ⟨PcN.blind, hpre⟩ rfl hlen Dn.1.1 rfl (lv_room hcat) hd room)
set_option maxHeartbeats 1000000 in
theorem sn_callN : Ru_callN (Sn l D cA base) := by
  intro M pc L st G r idx N As v G1 hd hl hlen hcat hfr hlc hel h1 h2
  have hok := hl.1
  have hM := h1.met hok hel
  have hw := wd_good hok
  have m1 := h1.1
  have m2 := h1.2.1
  have m3 := h2.1
  have m4 := h2.2.1
  refine ⟨Nat.le_trans m1 m3, Nat.le_trans m2 m4, fun p e R s m args below meth cd mc ms Q S H locs cells slots ls Dn => ?_⟩
  have hR := S.2.2.2.2.2.2.2.2.2.2.2.1
  have hC := S.2.2.2.2.2.2.2.2.2.2.1
  have c1 := Dn.2.2.2.1
  have c2 := Dn.2.2.2.2
  dsimp only at m1 m2 m3 m4
  have room : cells + (G1.1 - G.1) ≤ R.cells ∧ slots + (G1.2.1 - G.2.1) ≤ R.slots := ⟨by omega, by omega⟩
  have rm2 : (rmN N (G1.1 - G.1) (G1.2.1 - G.2.1)).frames + 1 ≤ R.frames ∧ 8 + (mL N + 11) + (rmN N (G1.1 - G.1) (G1.2.1 - G.2.1)).locals ≤ R.locals := ⟨Nat.le_trans hfr hR.1, Nat.le_trans hlc hR.2⟩
  have fix : CallFix p m cd (mC M) (mL M) s args lw_g (mY M).cls := ⟨S.1, S.2.1, S.2.2.1, S.2.2.2.1, S.2.2.2.2.2.1⟩
  have hpre := PcN.at_ (vs := As) S Dn.2.1
  obtain ⟨host, hhost⟩ := hl.2.1
  have hnw := S.2.2.2.2.2.2.1 _ (List.mem_filter.mpr ⟨hhost, rfl⟩)
  exact h2.after m1 m2 S Dn (va_runSN (As := As) (rest := st) fix hM ⟨va_cnB (mNp N) S.2.2.2.2.2.1 (lw_gIn hw) rfl rfl rfl hnw (S.tb hok.2.1 rfl) ⟨hok.2.2.2.1, hok.2.2.2.2.1, hok.2.2.2.2.2⟩ rm2, S.tb hl.2.2 rfl, trivial⟩ ⟨PcN.blind, hpre⟩ rfl hlen Dn.1.1 rfl (lv_room hcat) hd room)
set_option maxHeartbeats 1000000 in
theorem sn_callI : Ru_callI (Sn l D cA base) := by
  intro M pc L st G r idx b N As v G1 hd hl hlen hcat hfr hlc hel h1 h2
  have hok := hl.1
  have hM := h1.met hok hel
  have hw := wd_good hok
  have m1 := h1.1
  have m2 := h1.2.1
  have m3 := h2.1
  have m4 := h2.2.1
  refine ⟨Nat.le_trans m1 m3, Nat.le_trans m2 m4, fun p e R s m args below meth cd mc ms Q S H locs cells slots ls Dn => ?_⟩
  have hR := S.2.2.2.2.2.2.2.2.2.2.2.1
  have hC := S.2.2.2.2.2.2.2.2.2.2.1
  have c1 := Dn.2.2.2.1
  have c2 := Dn.2.2.2.2
  dsimp only at m1 m2 m3 m4
  have room : cells + (G1.1 - G.1) ≤ R.cells ∧ slots + (G1.2.1 - G.2.1) ≤ R.slots := ⟨by omega, by omega⟩
  have rm2 : (rmN N (G1.1 - G.1) (G1.2.1 - G.2.1)).frames + 1 ≤ R.frames ∧ 8 + (mL N + 11) + (rmN N (G1.1 - G.1) (G1.2.1 - G.2.1)).locals ≤ R.locals := ⟨Nat.le_trans hfr hR.1, Nat.le_trans hlc hR.2⟩
  have fix : CallFix p m cd (mC M) (mL M) s args lw_g (mY M).cls := ⟨S.1, S.2.1, S.2.2.1, S.2.2.2.1, S.2.2.2.2.2.1⟩
  have hpre := PcN.at_ (vs := (.ref b :: As)) S Dn.2.1
  have hnone : mR N = none := hl.2.2.2.2
  exact h2.after m1 m2 S Dn (va_runI (As := As) (rest := st) fix hM ⟨callB_of (mNp N) S.2.2.2.2.2.1 (lw_gIn hw) (by unfold wd; rw [hnone]) rfl rfl (S.tb hok.2.1 rfl) (S.tb hl.2.1 rfl) ⟨hok.2.2.2.1, hok.2.2.2.2.1, hok.2.2.2.2.2⟩ rm2, hl.2.2.2.1, S.tb hl.2.2.1 rfl⟩ ⟨PcN.blind, hpre⟩ rfl hlen Dn.1.1 rfl (lv_room hcat) hd room)
theorem sn_iret : Ru_iret (Sn l D cA base) := by
  intro M pc L G v ty hd hr hn
  refine ⟨Nat.le_refl _, Nat.le_refl _, fun p e R s m args below meth cd mc ms Q S H locs cells slots ls Dn => ?_⟩
  have h1 := Dn.2.2.2.1
  have h2 := Dn.2.2.2.2
  exact W.widen (by omega) (by omega) (S.2.2.2.2.2.2.2.2.2.2.2.2 pc ls H locs Dn.2.1 Dn.2.2.1 (Or.inl ⟨v, ty, rfl, hd, hr, hn⟩))
theorem sn_lret : Ru_lret (Sn l D cA base) := by
  intro M pc L G v hd hr
  refine ⟨Nat.le_refl _, Nat.le_refl _, fun p e R s m args below meth cd mc ms Q S H locs cells slots ls Dn => ?_⟩
  have h1 := Dn.2.2.2.1
  have h2 := Dn.2.2.2.2
  exact W.widen (by omega) (by omega) (S.2.2.2.2.2.2.2.2.2.2.2.2 pc ls H locs Dn.2.1 Dn.2.2.1 (Or.inr (Or.inl ⟨v, rfl, hd, hr⟩)))
theorem sn_aret : Ru_aret (Sn l D cA base) := by
  intro M pc L G v rt hd hr hrt hx
  refine ⟨Nat.le_refl _, Nat.le_refl _, fun p e R s m args below meth cd mc ms Q S H locs cells slots ls Dn => ?_⟩
  have h1 := Dn.2.2.2.1
  have h2 := Dn.2.2.2.2
  exact W.widen (by omega) (by omega) (S.2.2.2.2.2.2.2.2.2.2.2.2 pc ls H locs Dn.2.1 Dn.2.2.1 (Or.inr (Or.inr (Or.inl ⟨v, rt, rfl, hd, hr, hrt, hx⟩))))
theorem sn_vret : Ru_vret (Sn l D cA base) := by
  intro M pc L G hd hr
  refine ⟨Nat.le_refl _, Nat.le_refl _, fun p e R s m args below meth cd mc ms Q S H locs cells slots ls Dn => ?_⟩
  have h1 := Dn.2.2.2.1
  have h2 := Dn.2.2.2.2
  exact W.widen (by omega) (by omega) (S.2.2.2.2.2.2.2.2.2.2.2.2 pc ls H locs Dn.2.1 Dn.2.2.1 (Or.inr (Or.inr (Or.inr ⟨rfl, hd, hr⟩))))
/-- the machine follows the pure one -/
theorem sn_closed : Closed (Sn l D cA base) := ⟨sn_iconst, sn_bipush, sn_sipush, sn_lconst, sn_null, sn_ldc, sn_ldc2, sn_iload_n, sn_iload, sn_lload_n, sn_lload, sn_aload_n, sn_aload, sn_istore_n, sn_istore, sn_lstore_n, sn_lstore, sn_astore_n, sn_astore, sn_iinc, sn_iadd, sn_isub, sn_imul, sn_iand, sn_ineg, sn_ladd, sn_lmul, sn_land, sn_lor, sn_lxor, sn_lrem, sn_i2l, sn_l2i, sn_lushr, sn_lshl, sn_lcmp, sn_dup, sn_pop, sn_dup2, sn_pop2, sn_if_eq, sn_if_ne, sn_if_lt, sn_if_ge, sn_if_gt, sn_if_le, sn_icmp_eq, sn_icmp_ne, sn_icmp_lt, sn_icmp_ge, sn_icmp_gt, sn_icmp_le, sn_goto, sn_ifnull_r, sn_ifnull_n, sn_ifnonnull_r, sn_ifnonnull_n, sn_tswOut, sn_tswIn, sn_get, sn_put, sn_putF, sn_iald, sn_zald, sn_lald, sn_aald, sn_iast, sn_zast, sn_last, sn_aast, sn_alen, sn_sld, sn_slen, sn_new, sn_newi, sn_newl, sn_newz, sn_anew, sn_copyi, sn_copyl, sn_mmax, sn_mmin, sn_objI, sn_callV, sn_callS, sn_callN, sn_callI, sn_iret, sn_lret, sn_aret, sn_vret⟩
theorem Ex.sn {M : MI} {pc : Nat} {L : PLoc} {st : List Value} {G : PH} {r : Rs} (h : Ex M pc L st G r) : Sn l D cA base M pc L st G r := h _ sn_closed
end SNC
