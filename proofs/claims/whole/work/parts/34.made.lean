/-- a heap and new cells behind it, each with its slots -/
def phX (G : PH) (l : List (Nat × PE)) : PH := (G.1 + l.length, G.2.1 + (l.map Prod.fst).sum, fun q => if q < G.1 then G.2.2 q else match l[q - G.1]? with | some e => some e.2 | none => G.2.2 q)
theorem phX_nil {G : PH} : phX G [] = G := by
  unfold phX
  obtain ⟨a, b, f⟩ := G
  simp
theorem phX_at {G : PH} {l : List (Nat × PE)} {i k : Nat} {e : PE} (h : l[i]? = some (k, e)) : (phX G l).2.2 (G.1 + i) = some e := by
  unfold phX
  dsimp only
  rw [if_neg (by omega), show G.1 + i - G.1 = i by omega, h]
theorem phX_lt {G : PH} {l : List (Nat × PE)} {a : Nat} (h : a < G.1) : (phX G l).2.2 a = G.2.2 a := by
  unfold phX
  dsimp only
  rw [if_pos h]
theorem phX_new {G : PH} {l : List (Nat × PE)} {k : Nat} {e : PE} : phNew (phX G l) k e = phX G (l ++ [(k, e)]) := by
  unfold phNew
  refine Prod.ext ?_ (Prod.ext ?_ ?_)
  · show G.1 + l.length + 1 = G.1 + (l ++ [(k, e)]).length
    rw [List.length_append]; rfl
  · show G.2.1 + (l.map Prod.fst).sum + k = G.2.1 + ((l ++ [(k, e)]).map Prod.fst).sum
    rw [List.map_append, List.sum_append]
    show _ = G.2.1 + ((l.map Prod.fst).sum + (k + 0))
    omega
  · funext q
    show (if q = G.1 + l.length then some e else if q < G.1 then G.2.2 q else match l[q - G.1]? with | some e => some e.2 | none => G.2.2 q) = if q < G.1 then G.2.2 q else match (l ++ [(k, e)])[q - G.1]? with | some e => some e.2 | none => G.2.2 q
    by_cases h1 : q = G.1 + l.length
    · rw [if_pos h1, if_neg (by omega), List.getElem?_append_right (by omega), show q - G.1 - l.length = 0 by omega]
      rfl
    · rw [if_neg h1]
      by_cases h2 : q < G.1
      · rw [if_pos h2, if_pos h2]
      · rw [if_neg h2, if_neg h2]
        by_cases h3 : q - G.1 < l.length
        · rw [List.getElem?_append_left h3]
        · rw [List.getElem?_eq_none (by omega), List.getElem?_eq_none (by rw [List.length_append]; show l.length + 1 ≤ _; omega)]
theorem phX_up {G : PH} {l : List (Nat × PE)} {i k : Nat} {e e' : PE} (h : l[i]? = some (k, e)) : phUp (phX G l) (G.1 + i) e' = phX G (l.set i (k, e')) := by
  have hi : i < l.length := by
    rcases Nat.lt_or_ge i l.length with h1 | h1
    · exact h1
    · rw [List.getElem?_eq_none h1] at h; cases h
  unfold phUp
  refine Prod.ext ?_ (Prod.ext ?_ ?_)
  · show G.1 + l.length = G.1 + (l.set i (k, e')).length
    rw [List.length_set]
  · show G.2.1 + (l.map Prod.fst).sum = G.2.1 + ((l.set i (k, e')).map Prod.fst).sum
    rw [List.map_set]
    have e1 : (l.map Prod.fst).set i k = l.map Prod.fst := by
      have : (l.map Prod.fst)[i]? = some k := by rw [List.getElem?_map, h]; rfl
      refine List.ext_getElem? (fun j => ?_)
      rw [List.getElem?_set]
      by_cases hj : i = j
      · subst hj
        rw [if_pos rfl, if_pos (by rw [List.length_map]; exact hi), this]
      · rw [if_neg hj]
    show _ = G.2.1 + ((l.map Prod.fst).set i k).sum
    rw [e1]
  · funext q
    show (if q = G.1 + i then some e' else if q < G.1 then G.2.2 q else match l[q - G.1]? with | some e => some e.2 | none => G.2.2 q) = if q < G.1 then G.2.2 q else match (l.set i (k, e'))[q - G.1]? with | some e => some e.2 | none => G.2.2 q
    by_cases h1 : q = G.1 + i
    · rw [if_pos h1, if_neg (by omega), show q - G.1 = i by omega, List.getElem?_set, if_pos rfl, if_pos hi]
    · rw [if_neg h1]
      by_cases h2 : q < G.1
      · rw [if_pos h2, if_pos h2]
      · rw [if_neg h2, if_neg h2, List.getElem?_set, if_neg (by omega)]
theorem phX_app {G : PH} {l s : List (Nat × PE)} : phX (phX G l) s = phX G (l ++ s) := by
  refine Prod.ext ?_ (Prod.ext ?_ ?_)
  · show G.1 + l.length + s.length = G.1 + (l ++ s).length
    rw [List.length_append]; omega
  · show G.2.1 + (l.map Prod.fst).sum + (s.map Prod.fst).sum = G.2.1 + ((l ++ s).map Prod.fst).sum
    rw [List.map_append, List.sum_append]; omega
  · funext q
    show (if q < G.1 + l.length then (if q < G.1 then G.2.2 q else match l[q - G.1]? with | some e => some e.2 | none => G.2.2 q) else match s[q - (G.1 + l.length)]? with | some e => some e.2 | none => (if q < G.1 then G.2.2 q else match l[q - G.1]? with | some e => some e.2 | none => G.2.2 q)) = if q < G.1 then G.2.2 q else match (l ++ s)[q - G.1]? with | some e => some e.2 | none => G.2.2 q
    by_cases h2 : q < G.1
    · rw [if_pos (by omega), if_pos h2, if_pos h2]
    · by_cases h1 : q < G.1 + l.length
      · rw [if_pos h1, if_neg h2, if_neg h2, List.getElem?_append_left (by omega)]
      · rw [if_neg h1, if_neg h2, if_neg h2, List.getElem?_append_right (by omega), show q - (G.1 + l.length) = q - G.1 - l.length by omega, List.getElem?_eq_none (l := l) (by omega)]
section PX
variable {M : MI} {pc q : Nat} {L : PLoc} {st : List Value} {G : PH} {l l' : List (Nat × PE)} {Q : Option Value → PH → Prop}
theorem px_new {idx ci a : Nat} {fs : List Value} (hd : decode (mC M) pc = .ok (.new idx, 3)) (hl : linkNew (mY M).cls idx ci fs) (ha : G.1 + l.length = a) (hl' : l ++ [(fs.length, .inr (ci, fs))] = l') (hp : pc + 3 = q) (kk : PP M q L (.ref a :: st) (fun H => H = phX G l') Q) : PP M pc L st (fun H => H = phX G l) Q := by
  refine pp_new (a := a) (I' := fun H => H = phX G l') hd hl (fun H hH => ?_) (fun H hH => ?_) hp kk
  · rw [hH]; exact ha
  · rw [hH, phX_new, hl']
theorem px_newi {a n : Nat} {x : Int32} (hd : decode (mC M) pc = .ok (.newarray .int, 2)) (h0 : ¬ x < 0) (hn : x.toNatClampNeg = n) (hle : n ≤ 1000000) (ha : G.1 + l.length = a) (hl' : l ++ [(n, .inl (0, n, .inl (fun _ => 0)))] = l') (hp : pc + 2 = q) (kk : PP M q L (.ref a :: st) (fun H => H = phX G l') Q) : PP M pc L (.int x :: st) (fun H => H = phX G l) Q := by
  refine pp_newi (a := a) (I' := fun H => H = phX G l') hd h0 hn hle (fun H hH => ?_) (fun H hH => ?_) hp kk
  · rw [hH]; exact ha
  · rw [hH, phX_new, hl']
theorem px_newl {a n : Nat} {x : Int32} (hd : decode (mC M) pc = .ok (.newarray .long, 2)) (h0 : ¬ x < 0) (hn : x.toNatClampNeg = n) (hle : n ≤ 1000000) (ha : G.1 + l.length = a) (hl' : l ++ [(n, .inl (1, n, .inr (.inl (fun _ => 0))))] = l') (hp : pc + 2 = q) (kk : PP M q L (.ref a :: st) (fun H => H = phX G l') Q) : PP M pc L (.int x :: st) (fun H => H = phX G l) Q := by
  refine pp_newl (a := a) (I' := fun H => H = phX G l') hd h0 hn hle (fun H hH => ?_) (fun H hH => ?_) hp kk
  · rw [hH]; exact ha
  · rw [hH, phX_new, hl']
theorem px_newz {a n : Nat} {x : Int32} (hd : decode (mC M) pc = .ok (.newarray .boolean, 2)) (h0 : ¬ x < 0) (hn : x.toNatClampNeg = n) (hle : n ≤ 1000000) (ha : G.1 + l.length = a) (hl' : l ++ [(n, .inl (2, n, .inl (fun _ => 0)))] = l') (hp : pc + 2 = q) (kk : PP M q L (.ref a :: st) (fun H => H = phX G l') Q) : PP M pc L (.int x :: st) (fun H => H = phX G l) Q := by
  refine pp_newz (a := a) (I' := fun H => H = phX G l') hd h0 hn hle (fun H hH => ?_) (fun H hH => ?_) hp kk
  · rw [hH]; exact ha
  · rw [hH, phX_new, hl']
theorem px_anew {idx a n : Nat} {x : Int32} (hd : decode (mC M) pc = .ok (.anewarray idx, 3)) (hl : Cond.classLink (mY M).cls idx RX1 ∈ lw_tbl ∧ Cond.arrayOver (.object RX1) ∈ lw_tbl) (h0 : ¬ x < 0) (hn : x.toNatClampNeg = n) (hle : n ≤ 1000000) (ha : G.1 + l.length = a) (hl' : l ++ [(n, .inl (3, n, .inr (.inr (.inr (.inr (fun _ => none))))))] = l') (hp : pc + 3 = q) (kk : PP M q L (.ref a :: st) (fun H => H = phX G l') Q) : PP M pc L (.int x :: st) (fun H => H = phX G l) Q := by
  refine pp_anew (a := a) (I' := fun H => H = phX G l') hd hl h0 hn hle (fun H hH => ?_) (fun H hH => ?_) hp kk
  · rw [hH]; exact ha
  · rw [hH, phX_new, hl']
theorem px_put {i k0 idx ci k : Nat} {t : FieldType} {fs : List Value} {v : Value} (hd : decode (mC M) pc = .ok (.putfield idx, 3)) (hf : FL (mY M).cls idx ci k t false) (hc : l[i]? = some (k0, .inr (ci, fs))) (hk : k < fs.length) (hn : narrow t v = v) (hfit : fits t v = true) (hl' : l.set i (k0, .inr (ci, fs.set k v)) = l') (hp : pc + 3 = q) (kk : PP M q L st (fun H => H = phX G l') Q) : PP M pc L (v :: .ref (G.1 + i) :: st) (fun H => H = phX G l) Q := by
  refine pp_put (I' := fun H => H = phX G l') hd hf (fun H hH => ?_) hk hn hfit (fun H hH => ?_) hp kk
  · rw [hH]; exact phX_at hc
  · rw [hH, phX_up hc, hl']
theorem px_putF {i k0 idx ci k : Nat} {t : FieldType} {fs : List Value} {v : Value} (hd : decode (mC M) pc = .ok (.putfield idx, 3)) (hf : FL (mY M).cls idx ci k t true) (hc : l[i]? = some (k0, .inr (ci, fs))) (hk : k < fs.length) (hn : narrow t v = v) (hfit : fits t v = true) (hin : (mY M).name = "<init>") (hcl : (vwCl[ci]?).map (fun q => q.1) = some (mY M).cls) (hl' : l.set i (k0, .inr (ci, fs.set k v)) = l') (hp : pc + 3 = q) (kk : PP M q L st (fun H => H = phX G l') Q) : PP M pc L (v :: .ref (G.1 + i) :: st) (fun H => H = phX G l) Q := by
  refine pp_putF (I' := fun H => H = phX G l') hd hf (fun H hH => ?_) hk hn hfit hin hcl (fun H hH => ?_) hp kk
  · rw [hH]; exact phX_at hc
  · rw [hH, phX_up hc, hl']
theorem px_get {i k0 idx ci k : Nat} {t : FieldType} {fin : Bool} {fs : List Value} {v : Value} (hd : decode (mC M) pc = .ok (.getfield idx, 3)) (hf : FL (mY M).cls idx ci k t fin) (hc : l[i]? = some (k0, .inr (ci, fs))) (hv : fs[k]? = some v) (hp : pc + 3 = q) (kk : PP M q L (v :: st) (fun H => H = phX G l) Q) : PP M pc L (.ref (G.1 + i) :: st) (fun H => H = phX G l) Q :=
  pp_get hd hf (fun H hH => by rw [hH]; exact phX_at hc) hv hp kk
theorem px_iast {i k0 n j : Nat} {x y : Int32} {f : Nat → Int32} (hd : decode (mC M) pc = .ok (.iastore, 1)) (hc : l[i]? = some (k0, .inl (0, n, .inl f))) (hi : y = nI j) (hj : j < n) (hN : n < 2 ^ 31) (hl' : l.set i (k0, .inl (0, n, .inl (upd f j x))) = l') (hp : pc + 1 = q) (kk : PP M q L st (fun H => H = phX G l') Q) : PP M pc L (.int x :: .int y :: .ref (G.1 + i) :: st) (fun H => H = phX G l) Q := by
  obtain ⟨h1, h2⟩ := clampI hi hj hN
  refine pp_iast (f := f) (I' := fun H => H = phX G l') hd (fun H hH => ?_) h1 (fun H hH => ?_) hp kk
  · rw [hH]; exact phX_at hc
  · rw [hH, h2, phX_up hc, hl']
theorem px_alen {i k0 n : Nat} {f : Nat → Int32} (hd : decode (mC M) pc = .ok (.arraylength, 1)) (hc : l[i]? = some (k0, .inl (0, n, .inl f))) (hp : pc + 1 = q) (kk : PP M q L (.int (nI n) :: st) (fun H => H = phX G l) Q) : PP M pc L (.ref (G.1 + i) :: st) (fun H => H = phX G l) Q :=
  pp_alen (t := 0) (x := (n, .inl f)) (v := nI n) hd (fun H hH => by rw [hH]; exact phX_at hc) (by decide) rfl hp kk
theorem px_callI {idx : Nat} {N : MI} {As : List Value} {S0 : List Value} {e : Nat × PE} {s : Nat → List (Nat × PE)} {l0 : List (Nat × PE)} (hl0 : l0 ++ [e] = l) (hd : decode (mC M) pc = .ok (.invokespecial idx, 3)) (hl : linkI (mY M).cls idx N) (hn : As.length = mNp N) (hcat : (st.map fun v => v.category).sum ≤ 8) (hfr : mFr N + 1 ≤ mFr M) (hlc : 8 + (mL N + 11) + mLc N ≤ mLc M) (hel : (entL (.ref (G.1 + l0.length) :: As)).length ≤ mL N) (hS : S0 = As.reverse ++ .ref (G.1 + l0.length) :: st) (hE : ∀ G' : PH, PP N 0 (ent N (.ref G'.1 :: As)) [] (fun H => H = phX G' [e]) (fun v H => v = none ∧ H = phX G' (s G'.1))) (hl' : l0 ++ s (G.1 + l0.length) = l') (hp : pc + 3 = q) (kk : PP M q L st (fun H => H = phX G l') Q) : PP M pc L S0 (fun H => H = phX G l) Q := by
  refine pp_callI (As := As) (b := G.1 + l0.length) (Q1 := fun v H => v = none ∧ H = phX G l') hd hl hn hcat hfr hlc hel hS ?_ hp (fun v => ?_)
  · have h := hE (phX G l0)
    rw [phX_app, phX_app, hl0, show s (phX G l0).1 = s (G.1 + l0.length) from rfl, hl'] at h
    exact h
  · intro H hH
    obtain ⟨rfl, hH⟩ := hH
    exact kk H hH
end PX
set_option maxRecDepth 20000 in
set_option maxHeartbeats 4000000 in
theorem i_rows8 (G : PH) : PP mX3_init 0 (ent mX3_init (.ref G.1 :: [.int (nI 8), .int (nI 1200)])) [] (fun H => H = phX G [(4, .inr (3, [.int 0, .int 0, .null, .int 0]))]) (fun v H => v = none ∧ H = phX G [(4, .inr (3, [.int (nI 8), .int (nI 1200), .ref (G.1 + 1), .int (nI 0)])), (8 * 16, .inl (0, 8 * 16, .inl (fun _ => 0)))]) := by
  show PP mX3_init 0 [some (.ref (G.1 + 0)), some (.int (nI 8)), some (.int (nI 1200))] [] (fun H => H = phX G [(4, .inr (3, [.int 0, .int 0, .null, .int 0]))]) _
  refine pp_aload_n dX3_init_0 rfl isRf_r (q := 1) rfl ?_
  refine pp_objI dX3_init_1 lo_X3_3 (by decide) (by exact Nat.le_of_ble_eq_true rfl) (q := 4) rfl ?_
  refine pp_aload_n dX3_init_4 rfl isRf_r (q := 5) rfl ?_
  refine pp_iconst dX3_init_5 ci_1 (q := 6) rfl ?_
  refine pp_iload_n dX3_init_6 rfl (q := 7) rfl ?_
  refine pp_mmax dX3_init_7 lm_X3_9 (by decide) (by exact Nat.le_of_ble_eq_true rfl) (q := 10) rfl ?_
  rw [show (if nI 1 < nI 8 then nI 8 else nI 1) = nI 8 from rfl]
  refine px_putF (i := 0) (l' := [(4, .inr (3, [.int (nI 8), .int 0, .null, .int 0]))]) dX3_init_10 fl_X3_15 rfl (by exact Nat.le_of_ble_eq_true rfl) rfl rfl rfl rfl rfl (q := 13) rfl ?_
  refine pp_aload_n dX3_init_13 rfl isRf_r (q := 14) rfl ?_
  refine pp_bipush dX3_init_14 cb_16 (q := 16) rfl ?_
  refine pp_iload_n dX3_init_16 rfl (q := 17) rfl ?_
  refine pp_mmax dX3_init_17 lm_X3_9 (by decide) (by exact Nat.le_of_ble_eq_true rfl) (q := 20) rfl ?_
  rw [show (if nI 16 < nI 1200 then nI 1200 else nI 16) = nI 1200 from rfl]
  refine px_putF (i := 0) (l' := [(4, .inr (3, [.int (nI 8), .int (nI 1200), .null, .int 0]))]) dX3_init_20 fl_X3_21 rfl (by exact Nat.le_of_ble_eq_true rfl) rfl rfl rfl rfl rfl (q := 23) rfl ?_
  refine pp_aload_n dX3_init_23 rfl isRf_r (q := 24) rfl ?_
  refine pp_aload_n dX3_init_24 rfl isRf_r (q := 25) rfl ?_
  refine px_get (i := 0) dX3_init_25 fl_X3_15 rfl rfl (q := 28) rfl ?_
  refine pp_bipush dX3_init_28 cb_16 (q := 30) rfl ?_
  refine pp_imul dX3_init_30 (q := 31) rfl ?_
  rw [show (nI 8) * (nI 16) = nI (8 * 16) from pk_mul _ _]
  refine px_newi (n := 8 * 16) (a := G.1 + 1) (l' := [(4, .inr (3, [.int (nI 8), .int (nI 1200), .null, .int 0])), (8 * 16, .inl (0, 8 * 16, .inl (fun _ => 0)))]) dX3_init_31 (by decide) (by decide) (by decide) rfl rfl (q := 33) rfl ?_
  refine px_put (i := 0) (l' := [(4, .inr (3, [.int (nI 8), .int (nI 1200), .ref (G.1 + 1), .int 0])), (8 * 16, .inl (0, 8 * 16, .inl (fun _ => 0)))]) dX3_init_33 fl_X3_24 rfl (by exact Nat.le_of_ble_eq_true rfl) rfl rfl rfl (q := 36) rfl ?_
  refine pp_aload_n dX3_init_36 rfl isRf_r (q := 37) rfl ?_
  refine pp_iconst dX3_init_37 ci_0 (q := 38) rfl ?_
  refine px_put (i := 0) (l' := [(4, .inr (3, [.int (nI 8), .int (nI 1200), .ref (G.1 + 1), .int (nI 0)])), (8 * 16, .inl (0, 8 * 16, .inl (fun _ => 0)))]) dX3_init_38 fl_X3_28 rfl (by exact Nat.le_of_ble_eq_true rfl) rfl rfl rfl (q := 41) rfl ?_
  exact pp_vret dX3_init_41 rfl (fun H hH => ⟨rfl, hH⟩)
set_option maxRecDepth 20000 in
set_option maxHeartbeats 4000000 in
theorem i_rows4 (G : PH) : PP mX3_init 0 (ent mX3_init (.ref G.1 :: [.int (nI 4), .int (nI 20000)])) [] (fun H => H = phX G [(4, .inr (3, [.int 0, .int 0, .null, .int 0]))]) (fun v H => v = none ∧ H = phX G [(4, .inr (3, [.int (nI 4), .int (nI 20000), .ref (G.1 + 1), .int (nI 0)])), (4 * 16, .inl (0, 4 * 16, .inl (fun _ => 0)))]) := by
  show PP mX3_init 0 [some (.ref (G.1 + 0)), some (.int (nI 4)), some (.int (nI 20000))] [] (fun H => H = phX G [(4, .inr (3, [.int 0, .int 0, .null, .int 0]))]) _
  refine pp_aload_n dX3_init_0 rfl isRf_r (q := 1) rfl ?_
  refine pp_objI dX3_init_1 lo_X3_3 (by decide) (by exact Nat.le_of_ble_eq_true rfl) (q := 4) rfl ?_
  refine pp_aload_n dX3_init_4 rfl isRf_r (q := 5) rfl ?_
  refine pp_iconst dX3_init_5 ci_1 (q := 6) rfl ?_
  refine pp_iload_n dX3_init_6 rfl (q := 7) rfl ?_
  refine pp_mmax dX3_init_7 lm_X3_9 (by decide) (by exact Nat.le_of_ble_eq_true rfl) (q := 10) rfl ?_
  rw [show (if nI 1 < nI 4 then nI 4 else nI 1) = nI 4 from rfl]
  refine px_putF (i := 0) (l' := [(4, .inr (3, [.int (nI 4), .int 0, .null, .int 0]))]) dX3_init_10 fl_X3_15 rfl (by exact Nat.le_of_ble_eq_true rfl) rfl rfl rfl rfl rfl (q := 13) rfl ?_
  refine pp_aload_n dX3_init_13 rfl isRf_r (q := 14) rfl ?_
  refine pp_bipush dX3_init_14 cb_16 (q := 16) rfl ?_
  refine pp_iload_n dX3_init_16 rfl (q := 17) rfl ?_
  refine pp_mmax dX3_init_17 lm_X3_9 (by decide) (by exact Nat.le_of_ble_eq_true rfl) (q := 20) rfl ?_
  rw [show (if nI 16 < nI 20000 then nI 20000 else nI 16) = nI 20000 from rfl]
  refine px_putF (i := 0) (l' := [(4, .inr (3, [.int (nI 4), .int (nI 20000), .null, .int 0]))]) dX3_init_20 fl_X3_21 rfl (by exact Nat.le_of_ble_eq_true rfl) rfl rfl rfl rfl rfl (q := 23) rfl ?_
  refine pp_aload_n dX3_init_23 rfl isRf_r (q := 24) rfl ?_
  refine pp_aload_n dX3_init_24 rfl isRf_r (q := 25) rfl ?_
  refine px_get (i := 0) dX3_init_25 fl_X3_15 rfl rfl (q := 28) rfl ?_
  refine pp_bipush dX3_init_28 cb_16 (q := 30) rfl ?_
  refine pp_imul dX3_init_30 (q := 31) rfl ?_
  rw [show (nI 4) * (nI 16) = nI (4 * 16) from pk_mul _ _]
  refine px_newi (n := 4 * 16) (a := G.1 + 1) (l' := [(4, .inr (3, [.int (nI 4), .int (nI 20000), .null, .int 0])), (4 * 16, .inl (0, 4 * 16, .inl (fun _ => 0)))]) dX3_init_31 (by decide) (by decide) (by decide) rfl rfl (q := 33) rfl ?_
  refine px_put (i := 0) (l' := [(4, .inr (3, [.int (nI 4), .int (nI 20000), .ref (G.1 + 1), .int 0])), (4 * 16, .inl (0, 4 * 16, .inl (fun _ => 0)))]) dX3_init_33 fl_X3_24 rfl (by exact Nat.le_of_ble_eq_true rfl) rfl rfl rfl (q := 36) rfl ?_
  refine pp_aload_n dX3_init_36 rfl isRf_r (q := 37) rfl ?_
  refine pp_iconst dX3_init_37 ci_0 (q := 38) rfl ?_
  refine px_put (i := 0) (l' := [(4, .inr (3, [.int (nI 4), .int (nI 20000), .ref (G.1 + 1), .int (nI 0)])), (4 * 16, .inl (0, 4 * 16, .inl (fun _ => 0)))]) dX3_init_38 fl_X3_28 rfl (by exact Nat.le_of_ble_eq_true rfl) rfl rfl rfl (q := 41) rfl ?_
  exact pp_vret dX3_init_41 rfl (fun H hH => ⟨rfl, hH⟩)
set_option maxRecDepth 20000 in
set_option maxHeartbeats 4000000 in
theorem i_rows5 (G : PH) : PP mX3_init 0 (ent mX3_init (.ref G.1 :: [.int (nI 5), .int (nI 4000)])) [] (fun H => H = phX G [(4, .inr (3, [.int 0, .int 0, .null, .int 0]))]) (fun v H => v = none ∧ H = phX G [(4, .inr (3, [.int (nI 5), .int (nI 4000), .ref (G.1 + 1), .int (nI 0)])), (5 * 16, .inl (0, 5 * 16, .inl (fun _ => 0)))]) := by
  show PP mX3_init 0 [some (.ref (G.1 + 0)), some (.int (nI 5)), some (.int (nI 4000))] [] (fun H => H = phX G [(4, .inr (3, [.int 0, .int 0, .null, .int 0]))]) _
  refine pp_aload_n dX3_init_0 rfl isRf_r (q := 1) rfl ?_
  refine pp_objI dX3_init_1 lo_X3_3 (by decide) (by exact Nat.le_of_ble_eq_true rfl) (q := 4) rfl ?_
  refine pp_aload_n dX3_init_4 rfl isRf_r (q := 5) rfl ?_
  refine pp_iconst dX3_init_5 ci_1 (q := 6) rfl ?_
  refine pp_iload_n dX3_init_6 rfl (q := 7) rfl ?_
  refine pp_mmax dX3_init_7 lm_X3_9 (by decide) (by exact Nat.le_of_ble_eq_true rfl) (q := 10) rfl ?_
  rw [show (if nI 1 < nI 5 then nI 5 else nI 1) = nI 5 from rfl]
  refine px_putF (i := 0) (l' := [(4, .inr (3, [.int (nI 5), .int 0, .null, .int 0]))]) dX3_init_10 fl_X3_15 rfl (by exact Nat.le_of_ble_eq_true rfl) rfl rfl rfl rfl rfl (q := 13) rfl ?_
  refine pp_aload_n dX3_init_13 rfl isRf_r (q := 14) rfl ?_
  refine pp_bipush dX3_init_14 cb_16 (q := 16) rfl ?_
  refine pp_iload_n dX3_init_16 rfl (q := 17) rfl ?_
  refine pp_mmax dX3_init_17 lm_X3_9 (by decide) (by exact Nat.le_of_ble_eq_true rfl) (q := 20) rfl ?_
  rw [show (if nI 16 < nI 4000 then nI 4000 else nI 16) = nI 4000 from rfl]
  refine px_putF (i := 0) (l' := [(4, .inr (3, [.int (nI 5), .int (nI 4000), .null, .int 0]))]) dX3_init_20 fl_X3_21 rfl (by exact Nat.le_of_ble_eq_true rfl) rfl rfl rfl rfl rfl (q := 23) rfl ?_
  refine pp_aload_n dX3_init_23 rfl isRf_r (q := 24) rfl ?_
  refine pp_aload_n dX3_init_24 rfl isRf_r (q := 25) rfl ?_
  refine px_get (i := 0) dX3_init_25 fl_X3_15 rfl rfl (q := 28) rfl ?_
  refine pp_bipush dX3_init_28 cb_16 (q := 30) rfl ?_
  refine pp_imul dX3_init_30 (q := 31) rfl ?_
  rw [show (nI 5) * (nI 16) = nI (5 * 16) from pk_mul _ _]
  refine px_newi (n := 5 * 16) (a := G.1 + 1) (l' := [(4, .inr (3, [.int (nI 5), .int (nI 4000), .null, .int 0])), (5 * 16, .inl (0, 5 * 16, .inl (fun _ => 0)))]) dX3_init_31 (by decide) (by decide) (by decide) rfl rfl (q := 33) rfl ?_
  refine px_put (i := 0) (l' := [(4, .inr (3, [.int (nI 5), .int (nI 4000), .ref (G.1 + 1), .int 0])), (5 * 16, .inl (0, 5 * 16, .inl (fun _ => 0)))]) dX3_init_33 fl_X3_24 rfl (by exact Nat.le_of_ble_eq_true rfl) rfl rfl rfl (q := 36) rfl ?_
  refine pp_aload_n dX3_init_36 rfl isRf_r (q := 37) rfl ?_
  refine pp_iconst dX3_init_37 ci_0 (q := 38) rfl ?_
  refine px_put (i := 0) (l' := [(4, .inr (3, [.int (nI 5), .int (nI 4000), .ref (G.1 + 1), .int (nI 0)])), (5 * 16, .inl (0, 5 * 16, .inl (fun _ => 0)))]) dX3_init_38 fl_X3_28 rfl (by exact Nat.le_of_ble_eq_true rfl) rfl rfl rfl (q := 41) rfl ?_
  exact pp_vret dX3_init_41 rfl (fun H hH => ⟨rfl, hH⟩)
set_option maxRecDepth 20000 in
set_option maxHeartbeats 4000000 in
theorem i_books (G : PH) : PP mX0_init 0 (ent mX0_init (.ref G.1 :: [])) [] (fun H => H = phX G [(4, .inr (0, [.null, .null, .int 0, .int 0]))]) (fun v H => v = none ∧ H = phX G [(4, .inr (0, [.ref (G.1 + 1), .ref (G.1 + 3), .int (nI 0), .int (nI 0)])), (4, .inr (3, [.int (nI 8), .int (nI 1200), .ref (G.1 + 2), .int (nI 0)])), (8 * 16, .inl (0, 8 * 16, .inl (fun _ => 0))), (4, .inr (3, [.int (nI 4), .int (nI 20000), .ref (G.1 + 4), .int (nI 0)])), (4 * 16, .inl (0, 4 * 16, .inl (fun _ => 0)))]) := by
  show PP mX0_init 0 [some (.ref (G.1 + 0))] [] (fun H => H = phX G [(4, .inr (0, [.null, .null, .int 0, .int 0]))]) _
  refine pp_aload_n dX0_init_0 rfl isRf_r (q := 1) rfl ?_
  refine pp_objI dX0_init_1 lo_X0_3 (by decide) (by exact Nat.le_of_ble_eq_true rfl) (q := 4) rfl ?_
  refine pp_aload_n dX0_init_4 rfl isRf_r (q := 5) rfl ?_
  refine px_new (a := G.1 + 1) (l' := [(4, .inr (0, [.null, .null, .int 0, .int 0])), (4, .inr (3, [.int 0, .int 0, .null, .int 0]))]) dX0_init_5 ln_X0_9 rfl rfl (q := 8) rfl ?_
  refine pp_dup dX0_init_8 rfl (q := 9) rfl ?_
  refine pp_bipush dX0_init_9 cb_8 (q := 11) rfl ?_
  refine pp_sipush dX0_init_11 cs_1200 (q := 14) rfl ?_
  refine px_callI (st := [.ref (G.1 + 1), .ref (G.1 + 0)]) (l0 := [(4, .inr (0, [.null, .null, .int 0, .int 0]))]) (As := [.int (nI 8), .int (nI 1200)]) (l' := [(4, .inr (0, [.null, .null, .int 0, .int 0])), (4, .inr (3, [.int (nI 8), .int (nI 1200), .ref (G.1 + 2), .int (nI 0)])), (8 * 16, .inl (0, 8 * 16, .inl (fun _ => 0)))]) (s := fun a => [(4, .inr (3, [.int (nI 8), .int (nI 1200), .ref (a + 1), .int (nI 0)])), (8 * 16, .inl (0, 8 * 16, .inl (fun _ => 0)))]) rfl dX0_init_14 lk_X0_11 (by rfl) (by exact Nat.le_of_ble_eq_true rfl) (by decide) (by decide) (by exact Nat.le_of_ble_eq_true rfl) (by rfl) (fun G' => i_rows8 G') rfl (q := 17) rfl ?_
  refine px_putF (i := 0) (l' := [(4, .inr (0, [.ref (G.1 + 1), .null, .int 0, .int 0])), (4, .inr (3, [.int (nI 8), .int (nI 1200), .ref (G.1 + 2), .int (nI 0)])), (8 * 16, .inl (0, 8 * 16, .inl (fun _ => 0)))]) dX0_init_17 fl_X0_14 rfl (by exact Nat.le_of_ble_eq_true rfl) rfl rfl rfl rfl rfl (q := 20) rfl ?_
  refine pp_aload_n dX0_init_20 rfl isRf_r (q := 21) rfl ?_
  refine px_new (a := G.1 + 3) (l' := [(4, .inr (0, [.ref (G.1 + 1), .null, .int 0, .int 0])), (4, .inr (3, [.int (nI 8), .int (nI 1200), .ref (G.1 + 2), .int (nI 0)])), (8 * 16, .inl (0, 8 * 16, .inl (fun _ => 0))), (4, .inr (3, [.int 0, .int 0, .null, .int 0]))]) dX0_init_21 ln_X0_9 rfl rfl (q := 24) rfl ?_
  refine pp_dup dX0_init_24 rfl (q := 25) rfl ?_
  refine pp_iconst dX0_init_25 ci_4 (q := 26) rfl ?_
  refine pp_sipush dX0_init_26 cs_20000 (q := 29) rfl ?_
  refine px_callI (st := [.ref (G.1 + 3), .ref (G.1 + 0)]) (l0 := [(4, .inr (0, [.ref (G.1 + 1), .null, .int 0, .int 0])), (4, .inr (3, [.int (nI 8), .int (nI 1200), .ref (G.1 + 2), .int (nI 0)])), (8 * 16, .inl (0, 8 * 16, .inl (fun _ => 0)))]) (As := [.int (nI 4), .int (nI 20000)]) (l' := [(4, .inr (0, [.ref (G.1 + 1), .null, .int 0, .int 0])), (4, .inr (3, [.int (nI 8), .int (nI 1200), .ref (G.1 + 2), .int (nI 0)])), (8 * 16, .inl (0, 8 * 16, .inl (fun _ => 0))), (4, .inr (3, [.int (nI 4), .int (nI 20000), .ref (G.1 + 4), .int (nI 0)])), (4 * 16, .inl (0, 4 * 16, .inl (fun _ => 0)))]) (s := fun a => [(4, .inr (3, [.int (nI 4), .int (nI 20000), .ref (a + 1), .int (nI 0)])), (4 * 16, .inl (0, 4 * 16, .inl (fun _ => 0)))]) rfl dX0_init_29 lk_X0_11 (by rfl) (by exact Nat.le_of_ble_eq_true rfl) (by decide) (by decide) (by exact Nat.le_of_ble_eq_true rfl) (by rfl) (fun G' => i_rows4 G') rfl (q := 32) rfl ?_
  refine px_putF (i := 0) (l' := [(4, .inr (0, [.ref (G.1 + 1), .ref (G.1 + 3), .int 0, .int 0])), (4, .inr (3, [.int (nI 8), .int (nI 1200), .ref (G.1 + 2), .int (nI 0)])), (8 * 16, .inl (0, 8 * 16, .inl (fun _ => 0))), (4, .inr (3, [.int (nI 4), .int (nI 20000), .ref (G.1 + 4), .int (nI 0)])), (4 * 16, .inl (0, 4 * 16, .inl (fun _ => 0)))]) dX0_init_32 fl_X0_20 rfl (by exact Nat.le_of_ble_eq_true rfl) rfl rfl rfl rfl rfl (q := 35) rfl ?_
  refine pp_aload_n dX0_init_35 rfl isRf_r (q := 36) rfl ?_
  refine pp_iconst dX0_init_36 ci_0 (q := 37) rfl ?_
  refine px_put (i := 0) (l' := [(4, .inr (0, [.ref (G.1 + 1), .ref (G.1 + 3), .int (nI 0), .int 0])), (4, .inr (3, [.int (nI 8), .int (nI 1200), .ref (G.1 + 2), .int (nI 0)])), (8 * 16, .inl (0, 8 * 16, .inl (fun _ => 0))), (4, .inr (3, [.int (nI 4), .int (nI 20000), .ref (G.1 + 4), .int (nI 0)])), (4 * 16, .inl (0, 4 * 16, .inl (fun _ => 0)))]) dX0_init_37 fl_X0_23 rfl (by exact Nat.le_of_ble_eq_true rfl) rfl rfl rfl (q := 40) rfl ?_
  refine pp_aload_n dX0_init_40 rfl isRf_r (q := 41) rfl ?_
  refine pp_iconst dX0_init_41 ci_0 (q := 42) rfl ?_
  refine px_put (i := 0) (l' := [(4, .inr (0, [.ref (G.1 + 1), .ref (G.1 + 3), .int (nI 0), .int (nI 0)])), (4, .inr (3, [.int (nI 8), .int (nI 1200), .ref (G.1 + 2), .int (nI 0)])), (8 * 16, .inl (0, 8 * 16, .inl (fun _ => 0))), (4, .inr (3, [.int (nI 4), .int (nI 20000), .ref (G.1 + 4), .int (nI 0)])), (4 * 16, .inl (0, 4 * 16, .inl (fun _ => 0)))]) dX0_init_42 fl_X0_27 rfl (by exact Nat.le_of_ble_eq_true rfl) rfl rfl rfl (q := 45) rfl ?_
  exact pp_vret dX0_init_45 rfl (fun H hH => ⟨rfl, hH⟩)
set_option maxRecDepth 20000 in
set_option maxHeartbeats 4000000 in
theorem i_world (G : PH) : PP mX5_init 0 (ent mX5_init (.ref G.1 :: [])) [] (fun H => H = phX G [(8, .inr (5, [.null, .int 0, .null, .null, .null, .null, .null, .null]))]) (fun v H => v = none ∧ H = phX G [(8, .inr (5, [.ref (G.1 + 1), .int (nI 0), .ref (G.1 + 2), .ref (G.1 + 3), .ref (G.1 + 8), .ref (G.1 + 10), .ref (G.1 + 11), .ref (G.1 + 12)])), (64, .inl (3, 64, .inr (.inr (.inr (.inr (fun _ => none)))))), (64, .inl (1, 64, .inr (.inl (fun _ => 0)))), (4, .inr (0, [.ref (G.1 + 4), .ref (G.1 + 6), .int (nI 0), .int (nI 0)])), (4, .inr (3, [.int (nI 8), .int (nI 1200), .ref (G.1 + 5), .int (nI 0)])), (8 * 16, .inl (0, 8 * 16, .inl (fun _ => 0))), (4, .inr (3, [.int (nI 4), .int (nI 20000), .ref (G.1 + 7), .int (nI 0)])), (4 * 16, .inl (0, 4 * 16, .inl (fun _ => 0))), (4, .inr (3, [.int (nI 5), .int (nI 4000), .ref (G.1 + 9), .int (nI 0)])), (5 * 16, .inl (0, 5 * 16, .inl (fun _ => 0))), (12, .inl (0, 12, .inl (fun _ => 0))), (64, .inl (0, 64, .inl (fun _ => 0))), (64, .inl (0, 64, .inl (fun _ => 0)))]) := by
  show PP mX5_init 0 [some (.ref (G.1 + 0))] [] (fun H => H = phX G [(8, .inr (5, [.null, .int 0, .null, .null, .null, .null, .null, .null]))]) _
  refine pp_aload_n dX5_init_0 rfl isRf_r (q := 1) rfl ?_
  refine pp_objI dX5_init_1 lo_X5_3 (by decide) (by exact Nat.le_of_ble_eq_true rfl) (q := 4) rfl ?_
  refine pp_aload_n dX5_init_4 rfl isRf_r (q := 5) rfl ?_
  refine pp_bipush dX5_init_5 cb_64 (q := 7) rfl ?_
  refine px_anew (n := 64) (a := G.1 + 1) (l' := [(8, .inr (5, [.null, .int 0, .null, .null, .null, .null, .null, .null])), (64, .inl (3, 64, .inr (.inr (.inr (.inr (fun _ => none))))))]) dX5_init_7 la_X5_9 (by decide) (by decide) (by decide) rfl rfl (q := 10) rfl ?_
  refine px_putF (i := 0) (l' := [(8, .inr (5, [.ref (G.1 + 1), .int 0, .null, .null, .null, .null, .null, .null])), (64, .inl (3, 64, .inr (.inr (.inr (.inr (fun _ => none))))))]) dX5_init_10 fl_X5_11 rfl (by exact Nat.le_of_ble_eq_true rfl) rfl rfl rfl rfl rfl (q := 13) rfl ?_
  refine pp_aload_n dX5_init_13 rfl isRf_r (q := 14) rfl ?_
  refine pp_iconst dX5_init_14 ci_0 (q := 15) rfl ?_
  refine px_put (i := 0) (l' := [(8, .inr (5, [.ref (G.1 + 1), .int (nI 0), .null, .null, .null, .null, .null, .null])), (64, .inl (3, 64, .inr (.inr (.inr (.inr (fun _ => none))))))]) dX5_init_15 fl_X5_17 rfl (by exact Nat.le_of_ble_eq_true rfl) rfl rfl rfl (q := 18) rfl ?_
  refine pp_aload_n dX5_init_18 rfl isRf_r (q := 19) rfl ?_
  refine pp_bipush dX5_init_19 cb_64 (q := 21) rfl ?_
  refine px_newl (n := 64) (a := G.1 + 2) (l' := [(8, .inr (5, [.ref (G.1 + 1), .int (nI 0), .null, .null, .null, .null, .null, .null])), (64, .inl (3, 64, .inr (.inr (.inr (.inr (fun _ => none)))))), (64, .inl (1, 64, .inr (.inl (fun _ => 0))))]) dX5_init_21 (by decide) (by decide) (by decide) rfl rfl (q := 23) rfl ?_
  refine px_putF (i := 0) (l' := [(8, .inr (5, [.ref (G.1 + 1), .int (nI 0), .ref (G.1 + 2), .null, .null, .null, .null, .null])), (64, .inl (3, 64, .inr (.inr (.inr (.inr (fun _ => none)))))), (64, .inl (1, 64, .inr (.inl (fun _ => 0))))]) dX5_init_23 fl_X5_21 rfl (by exact Nat.le_of_ble_eq_true rfl) rfl rfl rfl rfl rfl (q := 26) rfl ?_
  refine pp_aload_n dX5_init_26 rfl isRf_r (q := 27) rfl ?_
  refine px_new (a := G.1 + 3) (l' := [(8, .inr (5, [.ref (G.1 + 1), .int (nI 0), .ref (G.1 + 2), .null, .null, .null, .null, .null])), (64, .inl (3, 64, .inr (.inr (.inr (.inr (fun _ => none)))))), (64, .inl (1, 64, .inr (.inl (fun _ => 0)))), (4, .inr (0, [.null, .null, .int 0, .int 0]))]) dX5_init_27 ln_X5_25 rfl rfl (q := 30) rfl ?_
  refine pp_dup dX5_init_30 rfl (q := 31) rfl ?_
  refine px_callI (st := [.ref (G.1 + 3), .ref (G.1 + 0)]) (l0 := [(8, .inr (5, [.ref (G.1 + 1), .int (nI 0), .ref (G.1 + 2), .null, .null, .null, .null, .null])), (64, .inl (3, 64, .inr (.inr (.inr (.inr (fun _ => none)))))), (64, .inl (1, 64, .inr (.inl (fun _ => 0))))]) (As := []) (l' := [(8, .inr (5, [.ref (G.1 + 1), .int (nI 0), .ref (G.1 + 2), .null, .null, .null, .null, .null])), (64, .inl (3, 64, .inr (.inr (.inr (.inr (fun _ => none)))))), (64, .inl (1, 64, .inr (.inl (fun _ => 0)))), (4, .inr (0, [.ref (G.1 + 4), .ref (G.1 + 6), .int (nI 0), .int (nI 0)])), (4, .inr (3, [.int (nI 8), .int (nI 1200), .ref (G.1 + 5), .int (nI 0)])), (8 * 16, .inl (0, 8 * 16, .inl (fun _ => 0))), (4, .inr (3, [.int (nI 4), .int (nI 20000), .ref (G.1 + 7), .int (nI 0)])), (4 * 16, .inl (0, 4 * 16, .inl (fun _ => 0)))]) (s := fun a => [(4, .inr (0, [.ref (a + 1), .ref (a + 3), .int (nI 0), .int (nI 0)])), (4, .inr (3, [.int (nI 8), .int (nI 1200), .ref (a + 2), .int (nI 0)])), (8 * 16, .inl (0, 8 * 16, .inl (fun _ => 0))), (4, .inr (3, [.int (nI 4), .int (nI 20000), .ref (a + 4), .int (nI 0)])), (4 * 16, .inl (0, 4 * 16, .inl (fun _ => 0)))]) rfl dX5_init_31 lk_X5_27 (by rfl) (by exact Nat.le_of_ble_eq_true rfl) (by decide) (by decide) (by exact Nat.le_of_ble_eq_true rfl) (by rfl) (fun G' => i_books G') rfl (q := 34) rfl ?_
  refine px_putF (i := 0) (l' := [(8, .inr (5, [.ref (G.1 + 1), .int (nI 0), .ref (G.1 + 2), .ref (G.1 + 3), .null, .null, .null, .null])), (64, .inl (3, 64, .inr (.inr (.inr (.inr (fun _ => none)))))), (64, .inl (1, 64, .inr (.inl (fun _ => 0)))), (4, .inr (0, [.ref (G.1 + 4), .ref (G.1 + 6), .int (nI 0), .int (nI 0)])), (4, .inr (3, [.int (nI 8), .int (nI 1200), .ref (G.1 + 5), .int (nI 0)])), (8 * 16, .inl (0, 8 * 16, .inl (fun _ => 0))), (4, .inr (3, [.int (nI 4), .int (nI 20000), .ref (G.1 + 7), .int (nI 0)])), (4 * 16, .inl (0, 4 * 16, .inl (fun _ => 0)))]) dX5_init_34 fl_X5_28 rfl (by exact Nat.le_of_ble_eq_true rfl) rfl rfl rfl rfl rfl (q := 37) rfl ?_
  refine pp_aload_n dX5_init_37 rfl isRf_r (q := 38) rfl ?_
  refine px_new (a := G.1 + 8) (l' := [(8, .inr (5, [.ref (G.1 + 1), .int (nI 0), .ref (G.1 + 2), .ref (G.1 + 3), .null, .null, .null, .null])), (64, .inl (3, 64, .inr (.inr (.inr (.inr (fun _ => none)))))), (64, .inl (1, 64, .inr (.inl (fun _ => 0)))), (4, .inr (0, [.ref (G.1 + 4), .ref (G.1 + 6), .int (nI 0), .int (nI 0)])), (4, .inr (3, [.int (nI 8), .int (nI 1200), .ref (G.1 + 5), .int (nI 0)])), (8 * 16, .inl (0, 8 * 16, .inl (fun _ => 0))), (4, .inr (3, [.int (nI 4), .int (nI 20000), .ref (G.1 + 7), .int (nI 0)])), (4 * 16, .inl (0, 4 * 16, .inl (fun _ => 0))), (4, .inr (3, [.int 0, .int 0, .null, .int 0]))]) dX5_init_38 ln_X5_32 rfl rfl (q := 41) rfl ?_
  refine pp_dup dX5_init_41 rfl (q := 42) rfl ?_
  refine pp_iconst dX5_init_42 ci_5 (q := 43) rfl ?_
  refine pp_sipush dX5_init_43 cs_4000 (q := 46) rfl ?_
  refine px_callI (st := [.ref (G.1 + 8), .ref (G.1 + 0)]) (l0 := [(8, .inr (5, [.ref (G.1 + 1), .int (nI 0), .ref (G.1 + 2), .ref (G.1 + 3), .null, .null, .null, .null])), (64, .inl (3, 64, .inr (.inr (.inr (.inr (fun _ => none)))))), (64, .inl (1, 64, .inr (.inl (fun _ => 0)))), (4, .inr (0, [.ref (G.1 + 4), .ref (G.1 + 6), .int (nI 0), .int (nI 0)])), (4, .inr (3, [.int (nI 8), .int (nI 1200), .ref (G.1 + 5), .int (nI 0)])), (8 * 16, .inl (0, 8 * 16, .inl (fun _ => 0))), (4, .inr (3, [.int (nI 4), .int (nI 20000), .ref (G.1 + 7), .int (nI 0)])), (4 * 16, .inl (0, 4 * 16, .inl (fun _ => 0)))]) (As := [.int (nI 5), .int (nI 4000)]) (l' := [(8, .inr (5, [.ref (G.1 + 1), .int (nI 0), .ref (G.1 + 2), .ref (G.1 + 3), .null, .null, .null, .null])), (64, .inl (3, 64, .inr (.inr (.inr (.inr (fun _ => none)))))), (64, .inl (1, 64, .inr (.inl (fun _ => 0)))), (4, .inr (0, [.ref (G.1 + 4), .ref (G.1 + 6), .int (nI 0), .int (nI 0)])), (4, .inr (3, [.int (nI 8), .int (nI 1200), .ref (G.1 + 5), .int (nI 0)])), (8 * 16, .inl (0, 8 * 16, .inl (fun _ => 0))), (4, .inr (3, [.int (nI 4), .int (nI 20000), .ref (G.1 + 7), .int (nI 0)])), (4 * 16, .inl (0, 4 * 16, .inl (fun _ => 0))), (4, .inr (3, [.int (nI 5), .int (nI 4000), .ref (G.1 + 9), .int (nI 0)])), (5 * 16, .inl (0, 5 * 16, .inl (fun _ => 0)))]) (s := fun a => [(4, .inr (3, [.int (nI 5), .int (nI 4000), .ref (a + 1), .int (nI 0)])), (5 * 16, .inl (0, 5 * 16, .inl (fun _ => 0)))]) rfl dX5_init_46 lk_X5_34 (by rfl) (by exact Nat.le_of_ble_eq_true rfl) (by decide) (by decide) (by exact Nat.le_of_ble_eq_true rfl) (by rfl) (fun G' => i_rows5 G') rfl (q := 49) rfl ?_
  refine px_putF (i := 0) (l' := [(8, .inr (5, [.ref (G.1 + 1), .int (nI 0), .ref (G.1 + 2), .ref (G.1 + 3), .ref (G.1 + 8), .null, .null, .null])), (64, .inl (3, 64, .inr (.inr (.inr (.inr (fun _ => none)))))), (64, .inl (1, 64, .inr (.inl (fun _ => 0)))), (4, .inr (0, [.ref (G.1 + 4), .ref (G.1 + 6), .int (nI 0), .int (nI 0)])), (4, .inr (3, [.int (nI 8), .int (nI 1200), .ref (G.1 + 5), .int (nI 0)])), (8 * 16, .inl (0, 8 * 16, .inl (fun _ => 0))), (4, .inr (3, [.int (nI 4), .int (nI 20000), .ref (G.1 + 7), .int (nI 0)])), (4 * 16, .inl (0, 4 * 16, .inl (fun _ => 0))), (4, .inr (3, [.int (nI 5), .int (nI 4000), .ref (G.1 + 9), .int (nI 0)])), (5 * 16, .inl (0, 5 * 16, .inl (fun _ => 0)))]) dX5_init_49 fl_X5_37 rfl (by exact Nat.le_of_ble_eq_true rfl) rfl rfl rfl rfl rfl (q := 52) rfl ?_
  refine pp_aload_n dX5_init_52 rfl isRf_r (q := 53) rfl ?_
  refine pp_bipush dX5_init_53 cb_12 (q := 55) rfl ?_
  refine px_newi (n := 12) (a := G.1 + 10) (l' := [(8, .inr (5, [.ref (G.1 + 1), .int (nI 0), .ref (G.1 + 2), .ref (G.1 + 3), .ref (G.1 + 8), .null, .null, .null])), (64, .inl (3, 64, .inr (.inr (.inr (.inr (fun _ => none)))))), (64, .inl (1, 64, .inr (.inl (fun _ => 0)))), (4, .inr (0, [.ref (G.1 + 4), .ref (G.1 + 6), .int (nI 0), .int (nI 0)])), (4, .inr (3, [.int (nI 8), .int (nI 1200), .ref (G.1 + 5), .int (nI 0)])), (8 * 16, .inl (0, 8 * 16, .inl (fun _ => 0))), (4, .inr (3, [.int (nI 4), .int (nI 20000), .ref (G.1 + 7), .int (nI 0)])), (4 * 16, .inl (0, 4 * 16, .inl (fun _ => 0))), (4, .inr (3, [.int (nI 5), .int (nI 4000), .ref (G.1 + 9), .int (nI 0)])), (5 * 16, .inl (0, 5 * 16, .inl (fun _ => 0))), (12, .inl (0, 12, .inl (fun _ => 0)))]) dX5_init_55 (by decide) (by decide) (by decide) rfl rfl (q := 57) rfl ?_
  refine px_putF (i := 0) (l' := [(8, .inr (5, [.ref (G.1 + 1), .int (nI 0), .ref (G.1 + 2), .ref (G.1 + 3), .ref (G.1 + 8), .ref (G.1 + 10), .null, .null])), (64, .inl (3, 64, .inr (.inr (.inr (.inr (fun _ => none)))))), (64, .inl (1, 64, .inr (.inl (fun _ => 0)))), (4, .inr (0, [.ref (G.1 + 4), .ref (G.1 + 6), .int (nI 0), .int (nI 0)])), (4, .inr (3, [.int (nI 8), .int (nI 1200), .ref (G.1 + 5), .int (nI 0)])), (8 * 16, .inl (0, 8 * 16, .inl (fun _ => 0))), (4, .inr (3, [.int (nI 4), .int (nI 20000), .ref (G.1 + 7), .int (nI 0)])), (4 * 16, .inl (0, 4 * 16, .inl (fun _ => 0))), (4, .inr (3, [.int (nI 5), .int (nI 4000), .ref (G.1 + 9), .int (nI 0)])), (5 * 16, .inl (0, 5 * 16, .inl (fun _ => 0))), (12, .inl (0, 12, .inl (fun _ => 0)))]) dX5_init_57 fl_X5_41 rfl (by exact Nat.le_of_ble_eq_true rfl) rfl rfl rfl rfl rfl (q := 60) rfl ?_
  refine pp_aload_n dX5_init_60 rfl isRf_r (q := 61) rfl ?_
  refine pp_bipush dX5_init_61 cb_64 (q := 63) rfl ?_
  refine px_newi (n := 64) (a := G.1 + 11) (l' := [(8, .inr (5, [.ref (G.1 + 1), .int (nI 0), .ref (G.1 + 2), .ref (G.1 + 3), .ref (G.1 + 8), .ref (G.1 + 10), .null, .null])), (64, .inl (3, 64, .inr (.inr (.inr (.inr (fun _ => none)))))), (64, .inl (1, 64, .inr (.inl (fun _ => 0)))), (4, .inr (0, [.ref (G.1 + 4), .ref (G.1 + 6), .int (nI 0), .int (nI 0)])), (4, .inr (3, [.int (nI 8), .int (nI 1200), .ref (G.1 + 5), .int (nI 0)])), (8 * 16, .inl (0, 8 * 16, .inl (fun _ => 0))), (4, .inr (3, [.int (nI 4), .int (nI 20000), .ref (G.1 + 7), .int (nI 0)])), (4 * 16, .inl (0, 4 * 16, .inl (fun _ => 0))), (4, .inr (3, [.int (nI 5), .int (nI 4000), .ref (G.1 + 9), .int (nI 0)])), (5 * 16, .inl (0, 5 * 16, .inl (fun _ => 0))), (12, .inl (0, 12, .inl (fun _ => 0))), (64, .inl (0, 64, .inl (fun _ => 0)))]) dX5_init_63 (by decide) (by decide) (by decide) rfl rfl (q := 65) rfl ?_
  refine px_putF (i := 0) (l' := [(8, .inr (5, [.ref (G.1 + 1), .int (nI 0), .ref (G.1 + 2), .ref (G.1 + 3), .ref (G.1 + 8), .ref (G.1 + 10), .ref (G.1 + 11), .null])), (64, .inl (3, 64, .inr (.inr (.inr (.inr (fun _ => none)))))), (64, .inl (1, 64, .inr (.inl (fun _ => 0)))), (4, .inr (0, [.ref (G.1 + 4), .ref (G.1 + 6), .int (nI 0), .int (nI 0)])), (4, .inr (3, [.int (nI 8), .int (nI 1200), .ref (G.1 + 5), .int (nI 0)])), (8 * 16, .inl (0, 8 * 16, .inl (fun _ => 0))), (4, .inr (3, [.int (nI 4), .int (nI 20000), .ref (G.1 + 7), .int (nI 0)])), (4 * 16, .inl (0, 4 * 16, .inl (fun _ => 0))), (4, .inr (3, [.int (nI 5), .int (nI 4000), .ref (G.1 + 9), .int (nI 0)])), (5 * 16, .inl (0, 5 * 16, .inl (fun _ => 0))), (12, .inl (0, 12, .inl (fun _ => 0))), (64, .inl (0, 64, .inl (fun _ => 0)))]) dX5_init_65 fl_X5_45 rfl (by exact Nat.le_of_ble_eq_true rfl) rfl rfl rfl rfl rfl (q := 68) rfl ?_
  refine pp_aload_n dX5_init_68 rfl isRf_r (q := 69) rfl ?_
  refine pp_bipush dX5_init_69 cb_64 (q := 71) rfl ?_
  refine px_newi (n := 64) (a := G.1 + 12) (l' := [(8, .inr (5, [.ref (G.1 + 1), .int (nI 0), .ref (G.1 + 2), .ref (G.1 + 3), .ref (G.1 + 8), .ref (G.1 + 10), .ref (G.1 + 11), .null])), (64, .inl (3, 64, .inr (.inr (.inr (.inr (fun _ => none)))))), (64, .inl (1, 64, .inr (.inl (fun _ => 0)))), (4, .inr (0, [.ref (G.1 + 4), .ref (G.1 + 6), .int (nI 0), .int (nI 0)])), (4, .inr (3, [.int (nI 8), .int (nI 1200), .ref (G.1 + 5), .int (nI 0)])), (8 * 16, .inl (0, 8 * 16, .inl (fun _ => 0))), (4, .inr (3, [.int (nI 4), .int (nI 20000), .ref (G.1 + 7), .int (nI 0)])), (4 * 16, .inl (0, 4 * 16, .inl (fun _ => 0))), (4, .inr (3, [.int (nI 5), .int (nI 4000), .ref (G.1 + 9), .int (nI 0)])), (5 * 16, .inl (0, 5 * 16, .inl (fun _ => 0))), (12, .inl (0, 12, .inl (fun _ => 0))), (64, .inl (0, 64, .inl (fun _ => 0))), (64, .inl (0, 64, .inl (fun _ => 0)))]) dX5_init_71 (by decide) (by decide) (by decide) rfl rfl (q := 73) rfl ?_
  refine px_putF (i := 0) (l' := [(8, .inr (5, [.ref (G.1 + 1), .int (nI 0), .ref (G.1 + 2), .ref (G.1 + 3), .ref (G.1 + 8), .ref (G.1 + 10), .ref (G.1 + 11), .ref (G.1 + 12)])), (64, .inl (3, 64, .inr (.inr (.inr (.inr (fun _ => none)))))), (64, .inl (1, 64, .inr (.inl (fun _ => 0)))), (4, .inr (0, [.ref (G.1 + 4), .ref (G.1 + 6), .int (nI 0), .int (nI 0)])), (4, .inr (3, [.int (nI 8), .int (nI 1200), .ref (G.1 + 5), .int (nI 0)])), (8 * 16, .inl (0, 8 * 16, .inl (fun _ => 0))), (4, .inr (3, [.int (nI 4), .int (nI 20000), .ref (G.1 + 7), .int (nI 0)])), (4 * 16, .inl (0, 4 * 16, .inl (fun _ => 0))), (4, .inr (3, [.int (nI 5), .int (nI 4000), .ref (G.1 + 9), .int (nI 0)])), (5 * 16, .inl (0, 5 * 16, .inl (fun _ => 0))), (12, .inl (0, 12, .inl (fun _ => 0))), (64, .inl (0, 64, .inl (fun _ => 0))), (64, .inl (0, 64, .inl (fun _ => 0)))]) dX5_init_73 fl_X5_48 rfl (by exact Nat.le_of_ble_eq_true rfl) rfl rfl rfl rfl rfl (q := 76) rfl ?_
  exact pp_vret dX5_init_76 rfl (fun H hH => ⟨rfl, hH⟩)
set_option maxRecDepth 20000 in
set_option maxHeartbeats 4000000 in
theorem i_ref (G : PH) : PP mX2_init 0 (ent mX2_init (.ref G.1 :: [])) [] (fun H => H = phX G [(2, .inr (2, [.null, .int 0]))]) (fun v H => v = none ∧ H = phX G [(2, .inr (2, [.ref (G.1 + 1), .int (-7)])), (11, .inl (0, 11, .inl (fun _ => 0)))]) := by
  show PP mX2_init 0 [some (.ref (G.1 + 0))] [] (fun H => H = phX G [(2, .inr (2, [.null, .int 0]))]) _
  refine pp_aload_n dX2_init_0 rfl isRf_r (q := 1) rfl ?_
  refine pp_objI dX2_init_1 lo_X2_3 (by decide) (by exact Nat.le_of_ble_eq_true rfl) (q := 4) rfl ?_
  refine pp_aload_n dX2_init_4 rfl isRf_r (q := 5) rfl ?_
  refine pp_bipush dX2_init_5 cb_11 (q := 7) rfl ?_
  refine px_newi (n := 11) (a := G.1 + 1) (l' := [(2, .inr (2, [.null, .int 0])), (11, .inl (0, 11, .inl (fun _ => 0)))]) dX2_init_7 (by decide) (by decide) (by decide) rfl rfl (q := 9) rfl ?_
  refine px_putF (i := 0) (l' := [(2, .inr (2, [.ref (G.1 + 1), .int 0])), (11, .inl (0, 11, .inl (fun _ => 0)))]) dX2_init_9 fl_X2_9 rfl (by exact Nat.le_of_ble_eq_true rfl) rfl rfl rfl rfl rfl (q := 12) rfl ?_
  refine pp_aload_n dX2_init_12 rfl isRf_r (q := 13) rfl ?_
  refine pp_bipush dX2_init_13 cb_m7 (q := 15) rfl ?_
  refine px_put (i := 0) (l' := [(2, .inr (2, [.ref (G.1 + 1), .int (-7)])), (11, .inl (0, 11, .inl (fun _ => 0)))]) dX2_init_15 fl_X2_15 rfl (by exact Nat.le_of_ble_eq_true rfl) rfl rfl rfl (q := 18) rfl ?_
  exact pp_vret dX2_init_18 rfl (fun H hH => ⟨rfl, hH⟩)
set_option maxRecDepth 20000 in
set_option maxHeartbeats 4000000 in
theorem i_way (G : PH) : PP mX4_init 0 (ent mX4_init (.ref G.1 :: [])) [] (fun H => H = phX G [(2, .inr (4, [.null, .int 0]))]) (fun v H => v = none ∧ H = phX G [(2, .inr (4, [.ref (G.1 + 1), .int (nI 0)])), (16, .inl (0, 16, .inl (fun _ => 0)))]) := by
  show PP mX4_init 0 [some (.ref (G.1 + 0))] [] (fun H => H = phX G [(2, .inr (4, [.null, .int 0]))]) _
  refine pp_aload_n dX4_init_0 rfl isRf_r (q := 1) rfl ?_
  refine pp_objI dX4_init_1 lo_X4_3 (by decide) (by exact Nat.le_of_ble_eq_true rfl) (q := 4) rfl ?_
  refine pp_aload_n dX4_init_4 rfl isRf_r (q := 5) rfl ?_
  refine pp_bipush dX4_init_5 cb_16 (q := 7) rfl ?_
  refine px_newi (n := 16) (a := G.1 + 1) (l' := [(2, .inr (4, [.null, .int 0])), (16, .inl (0, 16, .inl (fun _ => 0)))]) dX4_init_7 (by decide) (by decide) (by decide) rfl rfl (q := 9) rfl ?_
  refine px_put (i := 0) (l' := [(2, .inr (4, [.ref (G.1 + 1), .int 0])), (16, .inl (0, 16, .inl (fun _ => 0)))]) dX4_init_9 fl_X4_9 rfl (by exact Nat.le_of_ble_eq_true rfl) rfl rfl rfl (q := 12) rfl ?_
  refine pp_aload_n dX4_init_12 rfl isRf_r (q := 13) rfl ?_
  refine pp_iconst dX4_init_13 ci_0 (q := 14) rfl ?_
  refine px_put (i := 0) (l' := [(2, .inr (4, [.ref (G.1 + 1), .int (nI 0)])), (16, .inl (0, 16, .inl (fun _ => 0)))]) dX4_init_14 fl_X4_15 rfl (by exact Nat.le_of_ble_eq_true rfl) rfl rfl rfl (q := 17) rfl ?_
  exact pp_vret dX4_init_17 rfl (fun H hH => ⟨rfl, hH⟩)
set_option maxRecDepth 20000 in
set_option maxHeartbeats 4000000 in
theorem i_mem {x : Int32} (G : PH) : PP mX1_init 0 (ent mX1_init (.ref G.1 :: [.int x])) [] (fun H => H = phX G [(16, .inr (1, [.int 0, .int 0, .int 0, .long 0, .int 0, .int 0, .int 0, .int 0, .null, .null, .null, .null, .null, .null, .int 0, .int 0]))]) (fun v H => v = none ∧ H = phX G [(16, .inr (1, [.int x, .int (nI 0), .int 0, .long 0, .int 0, .int 0, .int 0, .int 0, .ref (G.1 + 1), .ref (G.1 + 2), .ref (G.1 + 3), .ref (G.1 + 4), .ref (G.1 + 5), .ref (G.1 + 6), .int 0, .int 0])), (64, .inl (0, 64, .inl (fun _ => 0))), (64, .inl (0, 64, .inl (fun _ => 0))), (64, .inl (0, 64, .inl (fun _ => 0))), (64, .inl (0, 64, .inl (fun _ => 0))), (64, .inl (0, 64, .inl (fun _ => 0))), (64, .inl (0, 64, .inl (fun _ => 0)))]) := by
  show PP mX1_init 0 [some (.ref (G.1 + 0)), some (.int x)] [] (fun H => H = phX G [(16, .inr (1, [.int 0, .int 0, .int 0, .long 0, .int 0, .int 0, .int 0, .int 0, .null, .null, .null, .null, .null, .null, .int 0, .int 0]))]) _
  refine pp_aload_n dX1_init_0 rfl isRf_r (q := 1) rfl ?_
  refine pp_objI dX1_init_1 lo_X1_3 (by decide) (by exact Nat.le_of_ble_eq_true rfl) (q := 4) rfl ?_
  refine pp_aload_n dX1_init_4 rfl isRf_r (q := 5) rfl ?_
  refine pp_iload_n dX1_init_5 rfl (q := 6) rfl ?_
  refine px_putF (i := 0) (l' := [(16, .inr (1, [.int x, .int 0, .int 0, .long 0, .int 0, .int 0, .int 0, .int 0, .null, .null, .null, .null, .null, .null, .int 0, .int 0]))]) dX1_init_6 fl_X1_9 rfl (by exact Nat.le_of_ble_eq_true rfl) rfl rfl rfl rfl rfl (q := 9) rfl ?_
  refine pp_aload_n dX1_init_9 rfl isRf_r (q := 10) rfl ?_
  refine pp_iconst dX1_init_10 ci_0 (q := 11) rfl ?_
  refine px_put (i := 0) (l' := [(16, .inr (1, [.int x, .int (nI 0), .int 0, .long 0, .int 0, .int 0, .int 0, .int 0, .null, .null, .null, .null, .null, .null, .int 0, .int 0]))]) dX1_init_11 fl_X1_15 rfl (by exact Nat.le_of_ble_eq_true rfl) rfl rfl rfl (q := 14) rfl ?_
  refine pp_aload_n dX1_init_14 rfl isRf_r (q := 15) rfl ?_
  refine pp_bipush dX1_init_15 cb_64 (q := 17) rfl ?_
  refine px_newi (n := 64) (a := G.1 + 1) (l' := [(16, .inr (1, [.int x, .int (nI 0), .int 0, .long 0, .int 0, .int 0, .int 0, .int 0, .null, .null, .null, .null, .null, .null, .int 0, .int 0])), (64, .inl (0, 64, .inl (fun _ => 0)))]) dX1_init_17 (by decide) (by decide) (by decide) rfl rfl (q := 19) rfl ?_
  refine px_putF (i := 0) (l' := [(16, .inr (1, [.int x, .int (nI 0), .int 0, .long 0, .int 0, .int 0, .int 0, .int 0, .ref (G.1 + 1), .null, .null, .null, .null, .null, .int 0, .int 0])), (64, .inl (0, 64, .inl (fun _ => 0)))]) dX1_init_19 fl_X1_19 rfl (by exact Nat.le_of_ble_eq_true rfl) rfl rfl rfl rfl rfl (q := 22) rfl ?_
  refine pp_aload_n dX1_init_22 rfl isRf_r (q := 23) rfl ?_
  refine pp_bipush dX1_init_23 cb_64 (q := 25) rfl ?_
  refine px_newi (n := 64) (a := G.1 + 2) (l' := [(16, .inr (1, [.int x, .int (nI 0), .int 0, .long 0, .int 0, .int 0, .int 0, .int 0, .ref (G.1 + 1), .null, .null, .null, .null, .null, .int 0, .int 0])), (64, .inl (0, 64, .inl (fun _ => 0))), (64, .inl (0, 64, .inl (fun _ => 0)))]) dX1_init_25 (by decide) (by decide) (by decide) rfl rfl (q := 27) rfl ?_
  refine px_putF (i := 0) (l' := [(16, .inr (1, [.int x, .int (nI 0), .int 0, .long 0, .int 0, .int 0, .int 0, .int 0, .ref (G.1 + 1), .ref (G.1 + 2), .null, .null, .null, .null, .int 0, .int 0])), (64, .inl (0, 64, .inl (fun _ => 0))), (64, .inl (0, 64, .inl (fun _ => 0)))]) dX1_init_27 fl_X1_23 rfl (by exact Nat.le_of_ble_eq_true rfl) rfl rfl rfl rfl rfl (q := 30) rfl ?_
  refine pp_aload_n dX1_init_30 rfl isRf_r (q := 31) rfl ?_
  refine pp_bipush dX1_init_31 cb_64 (q := 33) rfl ?_
  refine px_newi (n := 64) (a := G.1 + 3) (l' := [(16, .inr (1, [.int x, .int (nI 0), .int 0, .long 0, .int 0, .int 0, .int 0, .int 0, .ref (G.1 + 1), .ref (G.1 + 2), .null, .null, .null, .null, .int 0, .int 0])), (64, .inl (0, 64, .inl (fun _ => 0))), (64, .inl (0, 64, .inl (fun _ => 0))), (64, .inl (0, 64, .inl (fun _ => 0)))]) dX1_init_33 (by decide) (by decide) (by decide) rfl rfl (q := 35) rfl ?_
  refine px_putF (i := 0) (l' := [(16, .inr (1, [.int x, .int (nI 0), .int 0, .long 0, .int 0, .int 0, .int 0, .int 0, .ref (G.1 + 1), .ref (G.1 + 2), .ref (G.1 + 3), .null, .null, .null, .int 0, .int 0])), (64, .inl (0, 64, .inl (fun _ => 0))), (64, .inl (0, 64, .inl (fun _ => 0))), (64, .inl (0, 64, .inl (fun _ => 0)))]) dX1_init_35 fl_X1_26 rfl (by exact Nat.le_of_ble_eq_true rfl) rfl rfl rfl rfl rfl (q := 38) rfl ?_
  refine pp_aload_n dX1_init_38 rfl isRf_r (q := 39) rfl ?_
  refine pp_bipush dX1_init_39 cb_64 (q := 41) rfl ?_
  refine px_newi (n := 64) (a := G.1 + 4) (l' := [(16, .inr (1, [.int x, .int (nI 0), .int 0, .long 0, .int 0, .int 0, .int 0, .int 0, .ref (G.1 + 1), .ref (G.1 + 2), .ref (G.1 + 3), .null, .null, .null, .int 0, .int 0])), (64, .inl (0, 64, .inl (fun _ => 0))), (64, .inl (0, 64, .inl (fun _ => 0))), (64, .inl (0, 64, .inl (fun _ => 0))), (64, .inl (0, 64, .inl (fun _ => 0)))]) dX1_init_41 (by decide) (by decide) (by decide) rfl rfl (q := 43) rfl ?_
  refine px_putF (i := 0) (l' := [(16, .inr (1, [.int x, .int (nI 0), .int 0, .long 0, .int 0, .int 0, .int 0, .int 0, .ref (G.1 + 1), .ref (G.1 + 2), .ref (G.1 + 3), .ref (G.1 + 4), .null, .null, .int 0, .int 0])), (64, .inl (0, 64, .inl (fun _ => 0))), (64, .inl (0, 64, .inl (fun _ => 0))), (64, .inl (0, 64, .inl (fun _ => 0))), (64, .inl (0, 64, .inl (fun _ => 0)))]) dX1_init_43 fl_X1_29 rfl (by exact Nat.le_of_ble_eq_true rfl) rfl rfl rfl rfl rfl (q := 46) rfl ?_
  refine pp_aload_n dX1_init_46 rfl isRf_r (q := 47) rfl ?_
  refine pp_bipush dX1_init_47 cb_64 (q := 49) rfl ?_
  refine px_newi (n := 64) (a := G.1 + 5) (l' := [(16, .inr (1, [.int x, .int (nI 0), .int 0, .long 0, .int 0, .int 0, .int 0, .int 0, .ref (G.1 + 1), .ref (G.1 + 2), .ref (G.1 + 3), .ref (G.1 + 4), .null, .null, .int 0, .int 0])), (64, .inl (0, 64, .inl (fun _ => 0))), (64, .inl (0, 64, .inl (fun _ => 0))), (64, .inl (0, 64, .inl (fun _ => 0))), (64, .inl (0, 64, .inl (fun _ => 0))), (64, .inl (0, 64, .inl (fun _ => 0)))]) dX1_init_49 (by decide) (by decide) (by decide) rfl rfl (q := 51) rfl ?_
  refine px_putF (i := 0) (l' := [(16, .inr (1, [.int x, .int (nI 0), .int 0, .long 0, .int 0, .int 0, .int 0, .int 0, .ref (G.1 + 1), .ref (G.1 + 2), .ref (G.1 + 3), .ref (G.1 + 4), .ref (G.1 + 5), .null, .int 0, .int 0])), (64, .inl (0, 64, .inl (fun _ => 0))), (64, .inl (0, 64, .inl (fun _ => 0))), (64, .inl (0, 64, .inl (fun _ => 0))), (64, .inl (0, 64, .inl (fun _ => 0))), (64, .inl (0, 64, .inl (fun _ => 0)))]) dX1_init_51 fl_X1_32 rfl (by exact Nat.le_of_ble_eq_true rfl) rfl rfl rfl rfl rfl (q := 54) rfl ?_
  refine pp_aload_n dX1_init_54 rfl isRf_r (q := 55) rfl ?_
  refine pp_bipush dX1_init_55 cb_64 (q := 57) rfl ?_
  refine px_newi (n := 64) (a := G.1 + 6) (l' := [(16, .inr (1, [.int x, .int (nI 0), .int 0, .long 0, .int 0, .int 0, .int 0, .int 0, .ref (G.1 + 1), .ref (G.1 + 2), .ref (G.1 + 3), .ref (G.1 + 4), .ref (G.1 + 5), .null, .int 0, .int 0])), (64, .inl (0, 64, .inl (fun _ => 0))), (64, .inl (0, 64, .inl (fun _ => 0))), (64, .inl (0, 64, .inl (fun _ => 0))), (64, .inl (0, 64, .inl (fun _ => 0))), (64, .inl (0, 64, .inl (fun _ => 0))), (64, .inl (0, 64, .inl (fun _ => 0)))]) dX1_init_57 (by decide) (by decide) (by decide) rfl rfl (q := 59) rfl ?_
  refine px_putF (i := 0) (l' := [(16, .inr (1, [.int x, .int (nI 0), .int 0, .long 0, .int 0, .int 0, .int 0, .int 0, .ref (G.1 + 1), .ref (G.1 + 2), .ref (G.1 + 3), .ref (G.1 + 4), .ref (G.1 + 5), .ref (G.1 + 6), .int 0, .int 0])), (64, .inl (0, 64, .inl (fun _ => 0))), (64, .inl (0, 64, .inl (fun _ => 0))), (64, .inl (0, 64, .inl (fun _ => 0))), (64, .inl (0, 64, .inl (fun _ => 0))), (64, .inl (0, 64, .inl (fun _ => 0))), (64, .inl (0, 64, .inl (fun _ => 0)))]) dX1_init_59 fl_X1_35 rfl (by exact Nat.le_of_ble_eq_true rfl) rfl rfl rfl rfl rfl (q := 62) rfl ?_
  exact pp_vret dX1_init_62 rfl (fun H hH => ⟨rfl, hH⟩)
set_option maxRecDepth 20000 in
set_option maxHeartbeats 4000000 in
theorem hl_fill {G : PH} {l : List (Nat × PE)} {i k0 n : Nat} {f : Nat → Int32} {v : Int32} (hc : l[i]? = some (k0, .inl (0, n, .inl f))) (hn : n < 2 ^ 31) : ∀ (j t : Nat), n - t < j → t ≤ n → PP mJ7_fill_53178 5 [some (.ref (G.1 + i)), some (.int v), some (.int (nI t)), some (.int (nI n))] [] (fun H => H = phX G (l.set i (k0, .inl (0, n, .inl (fillf f v t))))) (fun r H => r = none ∧ H = phX G (l.set i (k0, .inl (0, n, .inl (fillf f v n))))) := by
  have hi : i < l.length := by
    rcases Nat.lt_or_ge i l.length with h1 | h1
    · exact h1
    · rw [List.getElem?_eq_none h1] at hc; cases hc
  intro j
  induction j with
  | zero => intro t h; omega
  | succ j ih =>
    intro t hj ht
    refine pp_iload_n dJ7_fill_53178_5 rfl (q := 6) rfl ?_
    refine pp_iload_n dJ7_fill_53178_6 rfl (q := 7) rfl ?_
    refine pp_icmp_ge (tgt := 20) dJ7_fill_53178_7 (by decide) (q := 10) rfl (fun c => ?_) (fun c => ?_)
    · have e : t = n := by have := leT c (by omega) (by omega); omega
      subst e
      exact pp_vret dJ7_fill_53178_20 rfl (fun H hH => ⟨rfl, hH⟩)
    · have hlt := leF c (by omega) (by omega)
      refine pp_aload_n dJ7_fill_53178_10 rfl isRf_r (q := 11) rfl ?_
      refine pp_iload_n dJ7_fill_53178_11 rfl (q := 12) rfl ?_
      refine pp_iload_n dJ7_fill_53178_12 rfl (q := 13) rfl ?_
      refine px_iast (i := i) (k0 := k0) (n := n) (f := fillf f v t) (j := t) (l' := l.set i (k0, .inl (0, n, .inl (fillf f v (t + 1))))) dJ7_fill_53178_13 (by rw [List.getElem?_set_self hi]) rfl hlt hn ?_ (q := 14) rfl ?_
      · rw [List.set_set, fillf_s]
      · refine pp_iinc dJ7_fill_53178_14 rfl (nI_1 _) (ls1_2 (nl1 rfl)) (q := 17) rfl ?_
        refine pp_goto (tgt := 5) dJ7_fill_53178_17 (by decide) ?_
        exact ih (t + 1) (by omega) (by omega)
theorem h_fill {G : PH} {l : List (Nat × PE)} {i k0 n : Nat} {f : Nat → Int32} {v : Int32} (hc : l[i]? = some (k0, .inl (0, n, .inl f))) (hn : n < 2 ^ 31) : PP mJ7_fill_53178 0 (ent mJ7_fill_53178 [.ref (G.1 + i), .int v]) [] (fun H => H = phX G l) (fun r H => r = none ∧ H = phX G (l.set i (k0, .inl (0, n, .inl (fillf f v n))))) := by
  show PP mJ7_fill_53178 0 [some (.ref (G.1 + i)), some (.int v), none, none] [] (fun H => H = phX G l) _
  refine pp_iconst dJ7_fill_53178_0 ci_0 (q := 1) rfl ?_
  refine pp_istore_n dJ7_fill_53178_1 (by decide) (ls1_2 (nl1 rfl)) (q := 2) rfl ?_
  refine pp_aload_n dJ7_fill_53178_2 rfl isRf_r (q := 3) rfl ?_
  refine px_alen dJ7_fill_53178_3 hc (q := 4) rfl ?_
  refine pp_istore_n dJ7_fill_53178_4 (by decide) (ls1_3 (nl1 rfl)) (q := 5) rfl ?_
  have h := hl_fill (G := G) (v := v) hc hn (n + 1) 0 (by omega) (by omega)
  have e : l.set i (k0, .inl (0, n, .inl (fillf f v 0))) = l := by
    refine List.ext_getElem? (fun j => ?_)
    rw [List.getElem?_set]
    by_cases hj : i = j
    · subst hj
      rw [if_pos rfl, hc]
      have hi : i < l.length := by
        rcases Nat.lt_or_ge i l.length with h1 | h1
        · exact h1
        · rw [List.getElem?_eq_none h1] at hc; cases hc
      rw [if_pos hi]
      congr 5
    · rw [if_neg hj]
  rw [e] at h
  exact h
set_option maxRecDepth 20000 in
set_option maxHeartbeats 4000000 in
theorem i_roll (G : PH) : PP mX6_init 0 (ent mX6_init (.ref G.1 :: [])) [] (fun H => H = phX G [(7, .inr (6, [.null, .null, .null, .null, .null, .null, .null]))]) (fun v H => v = none ∧ H = phX G [(7, .inr (6, [.ref (G.1 + 1), .ref (G.1 + 14), .ref (G.1 + 16), .ref (G.1 + 18), .ref (G.1 + 19), .null, .null])), (8, .inr (5, [.ref (G.1 + 2), .int (nI 0), .ref (G.1 + 3), .ref (G.1 + 4), .ref (G.1 + 9), .ref (G.1 + 11), .ref (G.1 + 12), .ref (G.1 + 13)])), (64, .inl (3, 64, .inr (.inr (.inr (.inr (fun _ => none)))))), (64, .inl (1, 64, .inr (.inl (fun _ => 0)))), (4, .inr (0, [.ref (G.1 + 5), .ref (G.1 + 7), .int (nI 0), .int (nI 0)])), (4, .inr (3, [.int (nI 8), .int (nI 1200), .ref (G.1 + 6), .int (nI 0)])), (8 * 16, .inl (0, 8 * 16, .inl (fun _ => 0))), (4, .inr (3, [.int (nI 4), .int (nI 20000), .ref (G.1 + 8), .int (nI 0)])), (4 * 16, .inl (0, 4 * 16, .inl (fun _ => 0))), (4, .inr (3, [.int (nI 5), .int (nI 4000), .ref (G.1 + 10), .int (nI 0)])), (5 * 16, .inl (0, 5 * 16, .inl (fun _ => 0))), (12, .inl (0, 12, .inl (fun _ => 0))), (64, .inl (0, 64, .inl (fun _ => 0))), (64, .inl (0, 64, .inl (fun _ => 0))), (2, .inr (2, [.ref (G.1 + 15), .int (-7)])), (11, .inl (0, 11, .inl (fun _ => 0))), (2, .inr (4, [.ref (G.1 + 17), .int (nI 0)])), (16, .inl (0, 16, .inl (fun _ => 0))), (16, .inl (0, 16, .inl (fillf (fun _ => 0) (-1) 16))), (64, .inl (0, 64, .inl (fun _ => 0)))]) := by
  show PP mX6_init 0 [some (.ref (G.1 + 0))] [] (fun H => H = phX G [(7, .inr (6, [.null, .null, .null, .null, .null, .null, .null]))]) _
  refine pp_aload_n dX6_init_0 rfl isRf_r (q := 1) rfl ?_
  refine pp_objI dX6_init_1 lo_X6_1 (by decide) (by exact Nat.le_of_ble_eq_true rfl) (q := 4) rfl ?_
  refine pp_aload_n dX6_init_4 rfl isRf_r (q := 5) rfl ?_
  refine px_new (a := G.1 + 1) (l' := [(7, .inr (6, [.null, .null, .null, .null, .null, .null, .null])), (8, .inr (5, [.null, .int 0, .null, .null, .null, .null, .null, .null]))]) dX6_init_5 ln_X6_7 rfl rfl (q := 8) rfl ?_
  refine pp_dup dX6_init_8 rfl (q := 9) rfl ?_
  refine px_callI (st := [.ref (G.1 + 1), .ref (G.1 + 0)]) (l0 := [(7, .inr (6, [.null, .null, .null, .null, .null, .null, .null]))]) (As := []) (l' := [(7, .inr (6, [.null, .null, .null, .null, .null, .null, .null])), (8, .inr (5, [.ref (G.1 + 2), .int (nI 0), .ref (G.1 + 3), .ref (G.1 + 4), .ref (G.1 + 9), .ref (G.1 + 11), .ref (G.1 + 12), .ref (G.1 + 13)])), (64, .inl (3, 64, .inr (.inr (.inr (.inr (fun _ => none)))))), (64, .inl (1, 64, .inr (.inl (fun _ => 0)))), (4, .inr (0, [.ref (G.1 + 5), .ref (G.1 + 7), .int (nI 0), .int (nI 0)])), (4, .inr (3, [.int (nI 8), .int (nI 1200), .ref (G.1 + 6), .int (nI 0)])), (8 * 16, .inl (0, 8 * 16, .inl (fun _ => 0))), (4, .inr (3, [.int (nI 4), .int (nI 20000), .ref (G.1 + 8), .int (nI 0)])), (4 * 16, .inl (0, 4 * 16, .inl (fun _ => 0))), (4, .inr (3, [.int (nI 5), .int (nI 4000), .ref (G.1 + 10), .int (nI 0)])), (5 * 16, .inl (0, 5 * 16, .inl (fun _ => 0))), (12, .inl (0, 12, .inl (fun _ => 0))), (64, .inl (0, 64, .inl (fun _ => 0))), (64, .inl (0, 64, .inl (fun _ => 0)))]) (s := fun a => [(8, .inr (5, [.ref (a + 1), .int (nI 0), .ref (a + 2), .ref (a + 3), .ref (a + 8), .ref (a + 10), .ref (a + 11), .ref (a + 12)])), (64, .inl (3, 64, .inr (.inr (.inr (.inr (fun _ => none)))))), (64, .inl (1, 64, .inr (.inl (fun _ => 0)))), (4, .inr (0, [.ref (a + 4), .ref (a + 6), .int (nI 0), .int (nI 0)])), (4, .inr (3, [.int (nI 8), .int (nI 1200), .ref (a + 5), .int (nI 0)])), (8 * 16, .inl (0, 8 * 16, .inl (fun _ => 0))), (4, .inr (3, [.int (nI 4), .int (nI 20000), .ref (a + 7), .int (nI 0)])), (4 * 16, .inl (0, 4 * 16, .inl (fun _ => 0))), (4, .inr (3, [.int (nI 5), .int (nI 4000), .ref (a + 9), .int (nI 0)])), (5 * 16, .inl (0, 5 * 16, .inl (fun _ => 0))), (12, .inl (0, 12, .inl (fun _ => 0))), (64, .inl (0, 64, .inl (fun _ => 0))), (64, .inl (0, 64, .inl (fun _ => 0)))]) rfl dX6_init_9 lk_X6_9 (by rfl) (by exact Nat.le_of_ble_eq_true rfl) (by decide) (by decide) (by exact Nat.le_of_ble_eq_true rfl) (by rfl) (fun G' => i_world G') rfl (q := 12) rfl ?_
  refine px_putF (i := 0) (l' := [(7, .inr (6, [.ref (G.1 + 1), .null, .null, .null, .null, .null, .null])), (8, .inr (5, [.ref (G.1 + 2), .int (nI 0), .ref (G.1 + 3), .ref (G.1 + 4), .ref (G.1 + 9), .ref (G.1 + 11), .ref (G.1 + 12), .ref (G.1 + 13)])), (64, .inl (3, 64, .inr (.inr (.inr (.inr (fun _ => none)))))), (64, .inl (1, 64, .inr (.inl (fun _ => 0)))), (4, .inr (0, [.ref (G.1 + 5), .ref (G.1 + 7), .int (nI 0), .int (nI 0)])), (4, .inr (3, [.int (nI 8), .int (nI 1200), .ref (G.1 + 6), .int (nI 0)])), (8 * 16, .inl (0, 8 * 16, .inl (fun _ => 0))), (4, .inr (3, [.int (nI 4), .int (nI 20000), .ref (G.1 + 8), .int (nI 0)])), (4 * 16, .inl (0, 4 * 16, .inl (fun _ => 0))), (4, .inr (3, [.int (nI 5), .int (nI 4000), .ref (G.1 + 10), .int (nI 0)])), (5 * 16, .inl (0, 5 * 16, .inl (fun _ => 0))), (12, .inl (0, 12, .inl (fun _ => 0))), (64, .inl (0, 64, .inl (fun _ => 0))), (64, .inl (0, 64, .inl (fun _ => 0)))]) dX6_init_12 fl_X6_10 rfl (by exact Nat.le_of_ble_eq_true rfl) rfl rfl rfl rfl rfl (q := 15) rfl ?_
  refine pp_aload_n dX6_init_15 rfl isRf_r (q := 16) rfl ?_
  refine px_new (a := G.1 + 14) (l' := [(7, .inr (6, [.ref (G.1 + 1), .null, .null, .null, .null, .null, .null])), (8, .inr (5, [.ref (G.1 + 2), .int (nI 0), .ref (G.1 + 3), .ref (G.1 + 4), .ref (G.1 + 9), .ref (G.1 + 11), .ref (G.1 + 12), .ref (G.1 + 13)])), (64, .inl (3, 64, .inr (.inr (.inr (.inr (fun _ => none)))))), (64, .inl (1, 64, .inr (.inl (fun _ => 0)))), (4, .inr (0, [.ref (G.1 + 5), .ref (G.1 + 7), .int (nI 0), .int (nI 0)])), (4, .inr (3, [.int (nI 8), .int (nI 1200), .ref (G.1 + 6), .int (nI 0)])), (8 * 16, .inl (0, 8 * 16, .inl (fun _ => 0))), (4, .inr (3, [.int (nI 4), .int (nI 20000), .ref (G.1 + 8), .int (nI 0)])), (4 * 16, .inl (0, 4 * 16, .inl (fun _ => 0))), (4, .inr (3, [.int (nI 5), .int (nI 4000), .ref (G.1 + 10), .int (nI 0)])), (5 * 16, .inl (0, 5 * 16, .inl (fun _ => 0))), (12, .inl (0, 12, .inl (fun _ => 0))), (64, .inl (0, 64, .inl (fun _ => 0))), (64, .inl (0, 64, .inl (fun _ => 0))), (2, .inr (2, [.null, .int 0]))]) dX6_init_16 ln_X6_16 rfl rfl (q := 19) rfl ?_
  refine pp_dup dX6_init_19 rfl (q := 20) rfl ?_
  refine px_callI (st := [.ref (G.1 + 14), .ref (G.1 + 0)]) (l0 := [(7, .inr (6, [.ref (G.1 + 1), .null, .null, .null, .null, .null, .null])), (8, .inr (5, [.ref (G.1 + 2), .int (nI 0), .ref (G.1 + 3), .ref (G.1 + 4), .ref (G.1 + 9), .ref (G.1 + 11), .ref (G.1 + 12), .ref (G.1 + 13)])), (64, .inl (3, 64, .inr (.inr (.inr (.inr (fun _ => none)))))), (64, .inl (1, 64, .inr (.inl (fun _ => 0)))), (4, .inr (0, [.ref (G.1 + 5), .ref (G.1 + 7), .int (nI 0), .int (nI 0)])), (4, .inr (3, [.int (nI 8), .int (nI 1200), .ref (G.1 + 6), .int (nI 0)])), (8 * 16, .inl (0, 8 * 16, .inl (fun _ => 0))), (4, .inr (3, [.int (nI 4), .int (nI 20000), .ref (G.1 + 8), .int (nI 0)])), (4 * 16, .inl (0, 4 * 16, .inl (fun _ => 0))), (4, .inr (3, [.int (nI 5), .int (nI 4000), .ref (G.1 + 10), .int (nI 0)])), (5 * 16, .inl (0, 5 * 16, .inl (fun _ => 0))), (12, .inl (0, 12, .inl (fun _ => 0))), (64, .inl (0, 64, .inl (fun _ => 0))), (64, .inl (0, 64, .inl (fun _ => 0)))]) (As := []) (l' := [(7, .inr (6, [.ref (G.1 + 1), .null, .null, .null, .null, .null, .null])), (8, .inr (5, [.ref (G.1 + 2), .int (nI 0), .ref (G.1 + 3), .ref (G.1 + 4), .ref (G.1 + 9), .ref (G.1 + 11), .ref (G.1 + 12), .ref (G.1 + 13)])), (64, .inl (3, 64, .inr (.inr (.inr (.inr (fun _ => none)))))), (64, .inl (1, 64, .inr (.inl (fun _ => 0)))), (4, .inr (0, [.ref (G.1 + 5), .ref (G.1 + 7), .int (nI 0), .int (nI 0)])), (4, .inr (3, [.int (nI 8), .int (nI 1200), .ref (G.1 + 6), .int (nI 0)])), (8 * 16, .inl (0, 8 * 16, .inl (fun _ => 0))), (4, .inr (3, [.int (nI 4), .int (nI 20000), .ref (G.1 + 8), .int (nI 0)])), (4 * 16, .inl (0, 4 * 16, .inl (fun _ => 0))), (4, .inr (3, [.int (nI 5), .int (nI 4000), .ref (G.1 + 10), .int (nI 0)])), (5 * 16, .inl (0, 5 * 16, .inl (fun _ => 0))), (12, .inl (0, 12, .inl (fun _ => 0))), (64, .inl (0, 64, .inl (fun _ => 0))), (64, .inl (0, 64, .inl (fun _ => 0))), (2, .inr (2, [.ref (G.1 + 15), .int (-7)])), (11, .inl (0, 11, .inl (fun _ => 0)))]) (s := fun a => [(2, .inr (2, [.ref (a + 1), .int (-7)])), (11, .inl (0, 11, .inl (fun _ => 0)))]) rfl dX6_init_20 lk_X6_18 (by rfl) (by exact Nat.le_of_ble_eq_true rfl) (by decide) (by decide) (by exact Nat.le_of_ble_eq_true rfl) (by rfl) (fun G' => i_ref G') rfl (q := 23) rfl ?_
  refine px_putF (i := 0) (l' := [(7, .inr (6, [.ref (G.1 + 1), .ref (G.1 + 14), .null, .null, .null, .null, .null])), (8, .inr (5, [.ref (G.1 + 2), .int (nI 0), .ref (G.1 + 3), .ref (G.1 + 4), .ref (G.1 + 9), .ref (G.1 + 11), .ref (G.1 + 12), .ref (G.1 + 13)])), (64, .inl (3, 64, .inr (.inr (.inr (.inr (fun _ => none)))))), (64, .inl (1, 64, .inr (.inl (fun _ => 0)))), (4, .inr (0, [.ref (G.1 + 5), .ref (G.1 + 7), .int (nI 0), .int (nI 0)])), (4, .inr (3, [.int (nI 8), .int (nI 1200), .ref (G.1 + 6), .int (nI 0)])), (8 * 16, .inl (0, 8 * 16, .inl (fun _ => 0))), (4, .inr (3, [.int (nI 4), .int (nI 20000), .ref (G.1 + 8), .int (nI 0)])), (4 * 16, .inl (0, 4 * 16, .inl (fun _ => 0))), (4, .inr (3, [.int (nI 5), .int (nI 4000), .ref (G.1 + 10), .int (nI 0)])), (5 * 16, .inl (0, 5 * 16, .inl (fun _ => 0))), (12, .inl (0, 12, .inl (fun _ => 0))), (64, .inl (0, 64, .inl (fun _ => 0))), (64, .inl (0, 64, .inl (fun _ => 0))), (2, .inr (2, [.ref (G.1 + 15), .int (-7)])), (11, .inl (0, 11, .inl (fun _ => 0)))]) dX6_init_23 fl_X6_19 rfl (by exact Nat.le_of_ble_eq_true rfl) rfl rfl rfl rfl rfl (q := 26) rfl ?_
  refine pp_aload_n dX6_init_26 rfl isRf_r (q := 27) rfl ?_
  refine px_new (a := G.1 + 16) (l' := [(7, .inr (6, [.ref (G.1 + 1), .ref (G.1 + 14), .null, .null, .null, .null, .null])), (8, .inr (5, [.ref (G.1 + 2), .int (nI 0), .ref (G.1 + 3), .ref (G.1 + 4), .ref (G.1 + 9), .ref (G.1 + 11), .ref (G.1 + 12), .ref (G.1 + 13)])), (64, .inl (3, 64, .inr (.inr (.inr (.inr (fun _ => none)))))), (64, .inl (1, 64, .inr (.inl (fun _ => 0)))), (4, .inr (0, [.ref (G.1 + 5), .ref (G.1 + 7), .int (nI 0), .int (nI 0)])), (4, .inr (3, [.int (nI 8), .int (nI 1200), .ref (G.1 + 6), .int (nI 0)])), (8 * 16, .inl (0, 8 * 16, .inl (fun _ => 0))), (4, .inr (3, [.int (nI 4), .int (nI 20000), .ref (G.1 + 8), .int (nI 0)])), (4 * 16, .inl (0, 4 * 16, .inl (fun _ => 0))), (4, .inr (3, [.int (nI 5), .int (nI 4000), .ref (G.1 + 10), .int (nI 0)])), (5 * 16, .inl (0, 5 * 16, .inl (fun _ => 0))), (12, .inl (0, 12, .inl (fun _ => 0))), (64, .inl (0, 64, .inl (fun _ => 0))), (64, .inl (0, 64, .inl (fun _ => 0))), (2, .inr (2, [.ref (G.1 + 15), .int (-7)])), (11, .inl (0, 11, .inl (fun _ => 0))), (2, .inr (4, [.null, .int 0]))]) dX6_init_27 ln_X6_23 rfl rfl (q := 30) rfl ?_
  refine pp_dup dX6_init_30 rfl (q := 31) rfl ?_
  refine px_callI (st := [.ref (G.1 + 16), .ref (G.1 + 0)]) (l0 := [(7, .inr (6, [.ref (G.1 + 1), .ref (G.1 + 14), .null, .null, .null, .null, .null])), (8, .inr (5, [.ref (G.1 + 2), .int (nI 0), .ref (G.1 + 3), .ref (G.1 + 4), .ref (G.1 + 9), .ref (G.1 + 11), .ref (G.1 + 12), .ref (G.1 + 13)])), (64, .inl (3, 64, .inr (.inr (.inr (.inr (fun _ => none)))))), (64, .inl (1, 64, .inr (.inl (fun _ => 0)))), (4, .inr (0, [.ref (G.1 + 5), .ref (G.1 + 7), .int (nI 0), .int (nI 0)])), (4, .inr (3, [.int (nI 8), .int (nI 1200), .ref (G.1 + 6), .int (nI 0)])), (8 * 16, .inl (0, 8 * 16, .inl (fun _ => 0))), (4, .inr (3, [.int (nI 4), .int (nI 20000), .ref (G.1 + 8), .int (nI 0)])), (4 * 16, .inl (0, 4 * 16, .inl (fun _ => 0))), (4, .inr (3, [.int (nI 5), .int (nI 4000), .ref (G.1 + 10), .int (nI 0)])), (5 * 16, .inl (0, 5 * 16, .inl (fun _ => 0))), (12, .inl (0, 12, .inl (fun _ => 0))), (64, .inl (0, 64, .inl (fun _ => 0))), (64, .inl (0, 64, .inl (fun _ => 0))), (2, .inr (2, [.ref (G.1 + 15), .int (-7)])), (11, .inl (0, 11, .inl (fun _ => 0)))]) (As := []) (l' := [(7, .inr (6, [.ref (G.1 + 1), .ref (G.1 + 14), .null, .null, .null, .null, .null])), (8, .inr (5, [.ref (G.1 + 2), .int (nI 0), .ref (G.1 + 3), .ref (G.1 + 4), .ref (G.1 + 9), .ref (G.1 + 11), .ref (G.1 + 12), .ref (G.1 + 13)])), (64, .inl (3, 64, .inr (.inr (.inr (.inr (fun _ => none)))))), (64, .inl (1, 64, .inr (.inl (fun _ => 0)))), (4, .inr (0, [.ref (G.1 + 5), .ref (G.1 + 7), .int (nI 0), .int (nI 0)])), (4, .inr (3, [.int (nI 8), .int (nI 1200), .ref (G.1 + 6), .int (nI 0)])), (8 * 16, .inl (0, 8 * 16, .inl (fun _ => 0))), (4, .inr (3, [.int (nI 4), .int (nI 20000), .ref (G.1 + 8), .int (nI 0)])), (4 * 16, .inl (0, 4 * 16, .inl (fun _ => 0))), (4, .inr (3, [.int (nI 5), .int (nI 4000), .ref (G.1 + 10), .int (nI 0)])), (5 * 16, .inl (0, 5 * 16, .inl (fun _ => 0))), (12, .inl (0, 12, .inl (fun _ => 0))), (64, .inl (0, 64, .inl (fun _ => 0))), (64, .inl (0, 64, .inl (fun _ => 0))), (2, .inr (2, [.ref (G.1 + 15), .int (-7)])), (11, .inl (0, 11, .inl (fun _ => 0))), (2, .inr (4, [.ref (G.1 + 17), .int (nI 0)])), (16, .inl (0, 16, .inl (fun _ => 0)))]) (s := fun a => [(2, .inr (4, [.ref (a + 1), .int (nI 0)])), (16, .inl (0, 16, .inl (fun _ => 0)))]) rfl dX6_init_31 lk_X6_25 (by rfl) (by exact Nat.le_of_ble_eq_true rfl) (by decide) (by decide) (by exact Nat.le_of_ble_eq_true rfl) (by rfl) (fun G' => i_way G') rfl (q := 34) rfl ?_
  refine px_putF (i := 0) (l' := [(7, .inr (6, [.ref (G.1 + 1), .ref (G.1 + 14), .ref (G.1 + 16), .null, .null, .null, .null])), (8, .inr (5, [.ref (G.1 + 2), .int (nI 0), .ref (G.1 + 3), .ref (G.1 + 4), .ref (G.1 + 9), .ref (G.1 + 11), .ref (G.1 + 12), .ref (G.1 + 13)])), (64, .inl (3, 64, .inr (.inr (.inr (.inr (fun _ => none)))))), (64, .inl (1, 64, .inr (.inl (fun _ => 0)))), (4, .inr (0, [.ref (G.1 + 5), .ref (G.1 + 7), .int (nI 0), .int (nI 0)])), (4, .inr (3, [.int (nI 8), .int (nI 1200), .ref (G.1 + 6), .int (nI 0)])), (8 * 16, .inl (0, 8 * 16, .inl (fun _ => 0))), (4, .inr (3, [.int (nI 4), .int (nI 20000), .ref (G.1 + 8), .int (nI 0)])), (4 * 16, .inl (0, 4 * 16, .inl (fun _ => 0))), (4, .inr (3, [.int (nI 5), .int (nI 4000), .ref (G.1 + 10), .int (nI 0)])), (5 * 16, .inl (0, 5 * 16, .inl (fun _ => 0))), (12, .inl (0, 12, .inl (fun _ => 0))), (64, .inl (0, 64, .inl (fun _ => 0))), (64, .inl (0, 64, .inl (fun _ => 0))), (2, .inr (2, [.ref (G.1 + 15), .int (-7)])), (11, .inl (0, 11, .inl (fun _ => 0))), (2, .inr (4, [.ref (G.1 + 17), .int (nI 0)])), (16, .inl (0, 16, .inl (fun _ => 0)))]) dX6_init_34 fl_X6_26 rfl (by exact Nat.le_of_ble_eq_true rfl) rfl rfl rfl rfl rfl (q := 37) rfl ?_
  refine pp_aload_n dX6_init_37 rfl isRf_r (q := 38) rfl ?_
  refine pp_bipush dX6_init_38 cb_16 (q := 40) rfl ?_
  refine px_newi (n := 16) (a := G.1 + 18) (l' := [(7, .inr (6, [.ref (G.1 + 1), .ref (G.1 + 14), .ref (G.1 + 16), .null, .null, .null, .null])), (8, .inr (5, [.ref (G.1 + 2), .int (nI 0), .ref (G.1 + 3), .ref (G.1 + 4), .ref (G.1 + 9), .ref (G.1 + 11), .ref (G.1 + 12), .ref (G.1 + 13)])), (64, .inl (3, 64, .inr (.inr (.inr (.inr (fun _ => none)))))), (64, .inl (1, 64, .inr (.inl (fun _ => 0)))), (4, .inr (0, [.ref (G.1 + 5), .ref (G.1 + 7), .int (nI 0), .int (nI 0)])), (4, .inr (3, [.int (nI 8), .int (nI 1200), .ref (G.1 + 6), .int (nI 0)])), (8 * 16, .inl (0, 8 * 16, .inl (fun _ => 0))), (4, .inr (3, [.int (nI 4), .int (nI 20000), .ref (G.1 + 8), .int (nI 0)])), (4 * 16, .inl (0, 4 * 16, .inl (fun _ => 0))), (4, .inr (3, [.int (nI 5), .int (nI 4000), .ref (G.1 + 10), .int (nI 0)])), (5 * 16, .inl (0, 5 * 16, .inl (fun _ => 0))), (12, .inl (0, 12, .inl (fun _ => 0))), (64, .inl (0, 64, .inl (fun _ => 0))), (64, .inl (0, 64, .inl (fun _ => 0))), (2, .inr (2, [.ref (G.1 + 15), .int (-7)])), (11, .inl (0, 11, .inl (fun _ => 0))), (2, .inr (4, [.ref (G.1 + 17), .int (nI 0)])), (16, .inl (0, 16, .inl (fun _ => 0))), (16, .inl (0, 16, .inl (fun _ => 0)))]) dX6_init_40 (by decide) (by decide) (by decide) rfl rfl (q := 42) rfl ?_
  refine px_putF (i := 0) (l' := [(7, .inr (6, [.ref (G.1 + 1), .ref (G.1 + 14), .ref (G.1 + 16), .ref (G.1 + 18), .null, .null, .null])), (8, .inr (5, [.ref (G.1 + 2), .int (nI 0), .ref (G.1 + 3), .ref (G.1 + 4), .ref (G.1 + 9), .ref (G.1 + 11), .ref (G.1 + 12), .ref (G.1 + 13)])), (64, .inl (3, 64, .inr (.inr (.inr (.inr (fun _ => none)))))), (64, .inl (1, 64, .inr (.inl (fun _ => 0)))), (4, .inr (0, [.ref (G.1 + 5), .ref (G.1 + 7), .int (nI 0), .int (nI 0)])), (4, .inr (3, [.int (nI 8), .int (nI 1200), .ref (G.1 + 6), .int (nI 0)])), (8 * 16, .inl (0, 8 * 16, .inl (fun _ => 0))), (4, .inr (3, [.int (nI 4), .int (nI 20000), .ref (G.1 + 8), .int (nI 0)])), (4 * 16, .inl (0, 4 * 16, .inl (fun _ => 0))), (4, .inr (3, [.int (nI 5), .int (nI 4000), .ref (G.1 + 10), .int (nI 0)])), (5 * 16, .inl (0, 5 * 16, .inl (fun _ => 0))), (12, .inl (0, 12, .inl (fun _ => 0))), (64, .inl (0, 64, .inl (fun _ => 0))), (64, .inl (0, 64, .inl (fun _ => 0))), (2, .inr (2, [.ref (G.1 + 15), .int (-7)])), (11, .inl (0, 11, .inl (fun _ => 0))), (2, .inr (4, [.ref (G.1 + 17), .int (nI 0)])), (16, .inl (0, 16, .inl (fun _ => 0))), (16, .inl (0, 16, .inl (fun _ => 0)))]) dX6_init_42 fl_X6_30 rfl (by exact Nat.le_of_ble_eq_true rfl) rfl rfl rfl rfl rfl (q := 45) rfl ?_
  refine pp_aload_n dX6_init_45 rfl isRf_r (q := 46) rfl ?_
  refine px_get (i := 0) dX6_init_46 fl_X6_30 rfl rfl (q := 49) rfl ?_
  refine pp_iconst dX6_init_49 ci_m1 (q := 50) rfl ?_
  refine pp_callS (st := []) (As := [.ref (G.1 + 18), .int (-1)]) (Q1 := fun r H => r = none ∧ H = phX G [(7, .inr (6, [.ref (G.1 + 1), .ref (G.1 + 14), .ref (G.1 + 16), .ref (G.1 + 18), .null, .null, .null])), (8, .inr (5, [.ref (G.1 + 2), .int (nI 0), .ref (G.1 + 3), .ref (G.1 + 4), .ref (G.1 + 9), .ref (G.1 + 11), .ref (G.1 + 12), .ref (G.1 + 13)])), (64, .inl (3, 64, .inr (.inr (.inr (.inr (fun _ => none)))))), (64, .inl (1, 64, .inr (.inl (fun _ => 0)))), (4, .inr (0, [.ref (G.1 + 5), .ref (G.1 + 7), .int (nI 0), .int (nI 0)])), (4, .inr (3, [.int (nI 8), .int (nI 1200), .ref (G.1 + 6), .int (nI 0)])), (8 * 16, .inl (0, 8 * 16, .inl (fun _ => 0))), (4, .inr (3, [.int (nI 4), .int (nI 20000), .ref (G.1 + 8), .int (nI 0)])), (4 * 16, .inl (0, 4 * 16, .inl (fun _ => 0))), (4, .inr (3, [.int (nI 5), .int (nI 4000), .ref (G.1 + 10), .int (nI 0)])), (5 * 16, .inl (0, 5 * 16, .inl (fun _ => 0))), (12, .inl (0, 12, .inl (fun _ => 0))), (64, .inl (0, 64, .inl (fun _ => 0))), (64, .inl (0, 64, .inl (fun _ => 0))), (2, .inr (2, [.ref (G.1 + 15), .int (-7)])), (11, .inl (0, 11, .inl (fun _ => 0))), (2, .inr (4, [.ref (G.1 + 17), .int (nI 0)])), (16, .inl (0, 16, .inl (fun _ => 0))), (16, .inl (0, 16, .inl (fillf (fun _ => 0) (-1) 16)))]) dX6_init_50 lk_X6_34 (by rfl) (by exact Nat.le_of_ble_eq_true rfl) (by decide) (by decide) (by exact Nat.le_of_ble_eq_true rfl) (by rfl) (h_fill (G := G) (l := [(7, .inr (6, [.ref (G.1 + 1), .ref (G.1 + 14), .ref (G.1 + 16), .ref (G.1 + 18), .null, .null, .null])), (8, .inr (5, [.ref (G.1 + 2), .int (nI 0), .ref (G.1 + 3), .ref (G.1 + 4), .ref (G.1 + 9), .ref (G.1 + 11), .ref (G.1 + 12), .ref (G.1 + 13)])), (64, .inl (3, 64, .inr (.inr (.inr (.inr (fun _ => none)))))), (64, .inl (1, 64, .inr (.inl (fun _ => 0)))), (4, .inr (0, [.ref (G.1 + 5), .ref (G.1 + 7), .int (nI 0), .int (nI 0)])), (4, .inr (3, [.int (nI 8), .int (nI 1200), .ref (G.1 + 6), .int (nI 0)])), (8 * 16, .inl (0, 8 * 16, .inl (fun _ => 0))), (4, .inr (3, [.int (nI 4), .int (nI 20000), .ref (G.1 + 8), .int (nI 0)])), (4 * 16, .inl (0, 4 * 16, .inl (fun _ => 0))), (4, .inr (3, [.int (nI 5), .int (nI 4000), .ref (G.1 + 10), .int (nI 0)])), (5 * 16, .inl (0, 5 * 16, .inl (fun _ => 0))), (12, .inl (0, 12, .inl (fun _ => 0))), (64, .inl (0, 64, .inl (fun _ => 0))), (64, .inl (0, 64, .inl (fun _ => 0))), (2, .inr (2, [.ref (G.1 + 15), .int (-7)])), (11, .inl (0, 11, .inl (fun _ => 0))), (2, .inr (4, [.ref (G.1 + 17), .int (nI 0)])), (16, .inl (0, 16, .inl (fun _ => 0))), (16, .inl (0, 16, .inl (fun _ => 0)))]) (i := 18) (k0 := 16) rfl (by decide)) (q := 53) rfl (fun r => ?_)
  refine fun H hH => ?_
  obtain ⟨rfl, hH⟩ := hH
  revert H
  show PP mX6_init 53 _ [] (fun H => H = phX G [(7, .inr (6, [.ref (G.1 + 1), .ref (G.1 + 14), .ref (G.1 + 16), .ref (G.1 + 18), .null, .null, .null])), (8, .inr (5, [.ref (G.1 + 2), .int (nI 0), .ref (G.1 + 3), .ref (G.1 + 4), .ref (G.1 + 9), .ref (G.1 + 11), .ref (G.1 + 12), .ref (G.1 + 13)])), (64, .inl (3, 64, .inr (.inr (.inr (.inr (fun _ => none)))))), (64, .inl (1, 64, .inr (.inl (fun _ => 0)))), (4, .inr (0, [.ref (G.1 + 5), .ref (G.1 + 7), .int (nI 0), .int (nI 0)])), (4, .inr (3, [.int (nI 8), .int (nI 1200), .ref (G.1 + 6), .int (nI 0)])), (8 * 16, .inl (0, 8 * 16, .inl (fun _ => 0))), (4, .inr (3, [.int (nI 4), .int (nI 20000), .ref (G.1 + 8), .int (nI 0)])), (4 * 16, .inl (0, 4 * 16, .inl (fun _ => 0))), (4, .inr (3, [.int (nI 5), .int (nI 4000), .ref (G.1 + 10), .int (nI 0)])), (5 * 16, .inl (0, 5 * 16, .inl (fun _ => 0))), (12, .inl (0, 12, .inl (fun _ => 0))), (64, .inl (0, 64, .inl (fun _ => 0))), (64, .inl (0, 64, .inl (fun _ => 0))), (2, .inr (2, [.ref (G.1 + 15), .int (-7)])), (11, .inl (0, 11, .inl (fun _ => 0))), (2, .inr (4, [.ref (G.1 + 17), .int (nI 0)])), (16, .inl (0, 16, .inl (fun _ => 0))), (16, .inl (0, 16, .inl (fillf (fun _ => 0) (-1) 16)))]) _
  refine pp_aload_n dX6_init_53 rfl isRf_r (q := 54) rfl ?_
  refine pp_bipush dX6_init_54 cb_64 (q := 56) rfl ?_
  refine px_newi (n := 64) (a := G.1 + 19) (l' := [(7, .inr (6, [.ref (G.1 + 1), .ref (G.1 + 14), .ref (G.1 + 16), .ref (G.1 + 18), .null, .null, .null])), (8, .inr (5, [.ref (G.1 + 2), .int (nI 0), .ref (G.1 + 3), .ref (G.1 + 4), .ref (G.1 + 9), .ref (G.1 + 11), .ref (G.1 + 12), .ref (G.1 + 13)])), (64, .inl (3, 64, .inr (.inr (.inr (.inr (fun _ => none)))))), (64, .inl (1, 64, .inr (.inl (fun _ => 0)))), (4, .inr (0, [.ref (G.1 + 5), .ref (G.1 + 7), .int (nI 0), .int (nI 0)])), (4, .inr (3, [.int (nI 8), .int (nI 1200), .ref (G.1 + 6), .int (nI 0)])), (8 * 16, .inl (0, 8 * 16, .inl (fun _ => 0))), (4, .inr (3, [.int (nI 4), .int (nI 20000), .ref (G.1 + 8), .int (nI 0)])), (4 * 16, .inl (0, 4 * 16, .inl (fun _ => 0))), (4, .inr (3, [.int (nI 5), .int (nI 4000), .ref (G.1 + 10), .int (nI 0)])), (5 * 16, .inl (0, 5 * 16, .inl (fun _ => 0))), (12, .inl (0, 12, .inl (fun _ => 0))), (64, .inl (0, 64, .inl (fun _ => 0))), (64, .inl (0, 64, .inl (fun _ => 0))), (2, .inr (2, [.ref (G.1 + 15), .int (-7)])), (11, .inl (0, 11, .inl (fun _ => 0))), (2, .inr (4, [.ref (G.1 + 17), .int (nI 0)])), (16, .inl (0, 16, .inl (fun _ => 0))), (16, .inl (0, 16, .inl (fillf (fun _ => 0) (-1) 16))), (64, .inl (0, 64, .inl (fun _ => 0)))]) dX6_init_56 (by decide) (by decide) (by decide) rfl rfl (q := 58) rfl ?_
  refine px_putF (i := 0) (l' := [(7, .inr (6, [.ref (G.1 + 1), .ref (G.1 + 14), .ref (G.1 + 16), .ref (G.1 + 18), .ref (G.1 + 19), .null, .null])), (8, .inr (5, [.ref (G.1 + 2), .int (nI 0), .ref (G.1 + 3), .ref (G.1 + 4), .ref (G.1 + 9), .ref (G.1 + 11), .ref (G.1 + 12), .ref (G.1 + 13)])), (64, .inl (3, 64, .inr (.inr (.inr (.inr (fun _ => none)))))), (64, .inl (1, 64, .inr (.inl (fun _ => 0)))), (4, .inr (0, [.ref (G.1 + 5), .ref (G.1 + 7), .int (nI 0), .int (nI 0)])), (4, .inr (3, [.int (nI 8), .int (nI 1200), .ref (G.1 + 6), .int (nI 0)])), (8 * 16, .inl (0, 8 * 16, .inl (fun _ => 0))), (4, .inr (3, [.int (nI 4), .int (nI 20000), .ref (G.1 + 8), .int (nI 0)])), (4 * 16, .inl (0, 4 * 16, .inl (fun _ => 0))), (4, .inr (3, [.int (nI 5), .int (nI 4000), .ref (G.1 + 10), .int (nI 0)])), (5 * 16, .inl (0, 5 * 16, .inl (fun _ => 0))), (12, .inl (0, 12, .inl (fun _ => 0))), (64, .inl (0, 64, .inl (fun _ => 0))), (64, .inl (0, 64, .inl (fun _ => 0))), (2, .inr (2, [.ref (G.1 + 15), .int (-7)])), (11, .inl (0, 11, .inl (fun _ => 0))), (2, .inr (4, [.ref (G.1 + 17), .int (nI 0)])), (16, .inl (0, 16, .inl (fun _ => 0))), (16, .inl (0, 16, .inl (fillf (fun _ => 0) (-1) 16))), (64, .inl (0, 64, .inl (fun _ => 0)))]) dX6_init_58 fl_X6_40 rfl (by exact Nat.le_of_ble_eq_true rfl) rfl rfl rfl rfl rfl (q := 61) rfl ?_
  refine pp_aload_n dX6_init_61 rfl isRf_r (q := 62) rfl ?_
  refine pp_null dX6_init_62 (q := 63) rfl ?_
  refine px_put (i := 0) (l' := [(7, .inr (6, [.ref (G.1 + 1), .ref (G.1 + 14), .ref (G.1 + 16), .ref (G.1 + 18), .ref (G.1 + 19), .null, .null])), (8, .inr (5, [.ref (G.1 + 2), .int (nI 0), .ref (G.1 + 3), .ref (G.1 + 4), .ref (G.1 + 9), .ref (G.1 + 11), .ref (G.1 + 12), .ref (G.1 + 13)])), (64, .inl (3, 64, .inr (.inr (.inr (.inr (fun _ => none)))))), (64, .inl (1, 64, .inr (.inl (fun _ => 0)))), (4, .inr (0, [.ref (G.1 + 5), .ref (G.1 + 7), .int (nI 0), .int (nI 0)])), (4, .inr (3, [.int (nI 8), .int (nI 1200), .ref (G.1 + 6), .int (nI 0)])), (8 * 16, .inl (0, 8 * 16, .inl (fun _ => 0))), (4, .inr (3, [.int (nI 4), .int (nI 20000), .ref (G.1 + 8), .int (nI 0)])), (4 * 16, .inl (0, 4 * 16, .inl (fun _ => 0))), (4, .inr (3, [.int (nI 5), .int (nI 4000), .ref (G.1 + 10), .int (nI 0)])), (5 * 16, .inl (0, 5 * 16, .inl (fun _ => 0))), (12, .inl (0, 12, .inl (fun _ => 0))), (64, .inl (0, 64, .inl (fun _ => 0))), (64, .inl (0, 64, .inl (fun _ => 0))), (2, .inr (2, [.ref (G.1 + 15), .int (-7)])), (11, .inl (0, 11, .inl (fun _ => 0))), (2, .inr (4, [.ref (G.1 + 17), .int (nI 0)])), (16, .inl (0, 16, .inl (fun _ => 0))), (16, .inl (0, 16, .inl (fillf (fun _ => 0) (-1) 16))), (64, .inl (0, 64, .inl (fun _ => 0)))]) dX6_init_63 fl_X6_43 rfl (by exact Nat.le_of_ble_eq_true rfl) rfl rfl rfl (q := 66) rfl ?_
  refine pp_aload_n dX6_init_66 rfl isRf_r (q := 67) rfl ?_
  refine pp_null dX6_init_67 (q := 68) rfl ?_
  refine px_put (i := 0) (l' := [(7, .inr (6, [.ref (G.1 + 1), .ref (G.1 + 14), .ref (G.1 + 16), .ref (G.1 + 18), .ref (G.1 + 19), .null, .null])), (8, .inr (5, [.ref (G.1 + 2), .int (nI 0), .ref (G.1 + 3), .ref (G.1 + 4), .ref (G.1 + 9), .ref (G.1 + 11), .ref (G.1 + 12), .ref (G.1 + 13)])), (64, .inl (3, 64, .inr (.inr (.inr (.inr (fun _ => none)))))), (64, .inl (1, 64, .inr (.inl (fun _ => 0)))), (4, .inr (0, [.ref (G.1 + 5), .ref (G.1 + 7), .int (nI 0), .int (nI 0)])), (4, .inr (3, [.int (nI 8), .int (nI 1200), .ref (G.1 + 6), .int (nI 0)])), (8 * 16, .inl (0, 8 * 16, .inl (fun _ => 0))), (4, .inr (3, [.int (nI 4), .int (nI 20000), .ref (G.1 + 8), .int (nI 0)])), (4 * 16, .inl (0, 4 * 16, .inl (fun _ => 0))), (4, .inr (3, [.int (nI 5), .int (nI 4000), .ref (G.1 + 10), .int (nI 0)])), (5 * 16, .inl (0, 5 * 16, .inl (fun _ => 0))), (12, .inl (0, 12, .inl (fun _ => 0))), (64, .inl (0, 64, .inl (fun _ => 0))), (64, .inl (0, 64, .inl (fun _ => 0))), (2, .inr (2, [.ref (G.1 + 15), .int (-7)])), (11, .inl (0, 11, .inl (fun _ => 0))), (2, .inr (4, [.ref (G.1 + 17), .int (nI 0)])), (16, .inl (0, 16, .inl (fun _ => 0))), (16, .inl (0, 16, .inl (fillf (fun _ => 0) (-1) 16))), (64, .inl (0, 64, .inl (fun _ => 0)))]) dX6_init_68 fl_X6_46 rfl (by exact Nat.le_of_ble_eq_true rfl) rfl rfl rfl (q := 71) rfl ?_
  exact pp_vret dX6_init_71 rfl (fun H hH => ⟨rfl, hH⟩)
set_option maxRecDepth 20000 in
set_option maxHeartbeats 4000000 in
theorem il_mod (G : PH) : ∀ (j t : Nat), 16 - t < j → t ≤ 16 → PP mX7_init 79 [some (.ref (G.1 + 0)), some (.int (nI t))] [] (fun H => H = phX G [(16, .inr (7, [.ref (G.1 + 1), .ref (G.1 + 2), .ref (G.1 + 3), .ref (G.1 + 4), .int 0, .ref (G.1 + 5), .ref (G.1 + 6), .ref (G.1 + 7), .ref (G.1 + 8), .int 0, .int 0, .int 0, .ref (G.1 + 9), .int 0, .int 0, .int 0])), (118735, .inl (0, 118735, .inl (fun _ => 0))), (118735, .inl (0, 118735, .inl (fun _ => 0))), (64, .inl (1, 64, .inr (.inl (fun _ => 0)))), (64, .inl (1, 64, .inr (.inl (fun _ => 0)))), (16, .inl (0, 16, .inl (fillf (fun _ => 0) (-1) t))), (1300, .inl (0, 1300, .inl (fun _ => 0))), (11, .inl (0, 11, .inl (fun _ => 0))), (64, .inl (0, 64, .inl (fun _ => 0))), (64, .inl (2, 64, .inl (fun _ => 0)))]) (fun v H => v = none ∧ H = phX G [(16, .inr (7, [.ref (G.1 + 1), .ref (G.1 + 2), .ref (G.1 + 3), .ref (G.1 + 4), .int 0, .ref (G.1 + 5), .ref (G.1 + 6), .ref (G.1 + 7), .ref (G.1 + 8), .int 0, .int 0, .int 0, .ref (G.1 + 9), .int 0, .int 0, .int 0])), (118735, .inl (0, 118735, .inl (fun _ => 0))), (118735, .inl (0, 118735, .inl (fun _ => 0))), (64, .inl (1, 64, .inr (.inl (fun _ => 0)))), (64, .inl (1, 64, .inr (.inl (fun _ => 0)))), (16, .inl (0, 16, .inl (fillf (fun _ => 0) (-1) 16))), (1300, .inl (0, 1300, .inl (fun _ => 0))), (11, .inl (0, 11, .inl (fun _ => 0))), (64, .inl (0, 64, .inl (fun _ => 0))), (64, .inl (2, 64, .inl (fun _ => 0)))]) := by
  intro j
  induction j with
  | zero => intro t h; omega
  | succ j ih =>
    intro t hj ht
    refine pp_iload_n dX7_init_79 rfl (q := 80) rfl ?_
    refine pp_bipush dX7_init_80 cb_16 (q := 82) rfl ?_
    refine pp_icmp_ge (tgt := 98) dX7_init_82 (by decide) (q := 85) rfl (fun c => ?_) (fun c => ?_)
    · have e : t = 16 := by have := leT c (by omega) (by omega); omega
      subst e
      exact pp_vret dX7_init_98 rfl (fun H hH => ⟨rfl, hH⟩)
    · have hlt := leF c (by omega) (by omega)
      refine pp_aload_n dX7_init_85 rfl isRf_r (q := 86) rfl ?_
      refine px_get (i := 0) dX7_init_86 fl_X7_24 rfl rfl (q := 89) rfl ?_
      refine pp_iload_n dX7_init_89 rfl (q := 90) rfl ?_
      refine pp_iconst dX7_init_90 ci_m1 (q := 91) rfl ?_
      refine px_iast (i := 5) (k0 := 16) (n := 16) (f := fillf (fun _ => 0) (-1) t) (j := t) (l' := [(16, .inr (7, [.ref (G.1 + 1), .ref (G.1 + 2), .ref (G.1 + 3), .ref (G.1 + 4), .int 0, .ref (G.1 + 5), .ref (G.1 + 6), .ref (G.1 + 7), .ref (G.1 + 8), .int 0, .int 0, .int 0, .ref (G.1 + 9), .int 0, .int 0, .int 0])), (118735, .inl (0, 118735, .inl (fun _ => 0))), (118735, .inl (0, 118735, .inl (fun _ => 0))), (64, .inl (1, 64, .inr (.inl (fun _ => 0)))), (64, .inl (1, 64, .inr (.inl (fun _ => 0)))), (16, .inl (0, 16, .inl (fillf (fun _ => 0) (-1) (t + 1)))), (1300, .inl (0, 1300, .inl (fun _ => 0))), (11, .inl (0, 11, .inl (fun _ => 0))), (64, .inl (0, 64, .inl (fun _ => 0))), (64, .inl (2, 64, .inl (fun _ => 0)))]) dX7_init_91 rfl rfl hlt (by decide) ?_ (q := 92) rfl ?_
      · have e : upd (fillf (fun _ => 0) (-1) t) t (-1) = fillf (fun _ => 0) (-1) (t + 1) := by
          funext x
          unfold upd fillf
          by_cases h1 : x = t
          · rw [if_pos h1, if_pos (by omega)]
          · rw [if_neg h1]
            by_cases h2 : x < t
            · rw [if_pos h2, if_pos (by omega)]
            · rw [if_neg h2, if_neg (by omega)]
        rw [e]
        rfl
      · refine pp_iinc dX7_init_92 rfl (nI_1 _) (ls1_1 (nl1 rfl)) (q := 95) rfl ?_
        refine pp_goto (tgt := 79) dX7_init_95 (by decide) ?_
        exact ih (t + 1) (by omega) (by omega)
set_option maxRecDepth 20000 in
set_option maxHeartbeats 4000000 in
theorem i_mod (G : PH) : PP mX7_init 0 (ent mX7_init (.ref G.1 :: [])) [] (fun H => H = phX G [(16, .inr (7, [.null, .null, .null, .null, .int 0, .null, .null, .null, .null, .int 0, .int 0, .int 0, .null, .int 0, .int 0, .int 0]))]) (fun v H => v = none ∧ H = phX G [(16, .inr (7, [.ref (G.1 + 1), .ref (G.1 + 2), .ref (G.1 + 3), .ref (G.1 + 4), .int 0, .ref (G.1 + 5), .ref (G.1 + 6), .ref (G.1 + 7), .ref (G.1 + 8), .int 0, .int 0, .int 0, .ref (G.1 + 9), .int 0, .int 0, .int 0])), (118735, .inl (0, 118735, .inl (fun _ => 0))), (118735, .inl (0, 118735, .inl (fun _ => 0))), (64, .inl (1, 64, .inr (.inl (fun _ => 0)))), (64, .inl (1, 64, .inr (.inl (fun _ => 0)))), (16, .inl (0, 16, .inl (fillf (fun _ => 0) (-1) 16))), (1300, .inl (0, 1300, .inl (fun _ => 0))), (11, .inl (0, 11, .inl (fun _ => 0))), (64, .inl (0, 64, .inl (fun _ => 0))), (64, .inl (2, 64, .inl (fun _ => 0)))]) := by
  show PP mX7_init 0 [some (.ref (G.1 + 0)), none] [] (fun H => H = phX G [(16, .inr (7, [.null, .null, .null, .null, .int 0, .null, .null, .null, .null, .int 0, .int 0, .int 0, .null, .int 0, .int 0, .int 0]))]) _
  refine pp_aload_n dX7_init_0 rfl isRf_r (q := 1) rfl ?_
  refine pp_objI dX7_init_1 lo_X7_1 (by decide) (by exact Nat.le_of_ble_eq_true rfl) (q := 4) rfl ?_
  refine pp_aload_n dX7_init_4 rfl isRf_r (q := 5) rfl ?_
  refine pp_ldc (v := nI 118735) dX7_init_5 kc_X7_7 (q := 7) rfl ?_
  refine px_newi (n := 118735) (a := G.1 + 1) (l' := [(16, .inr (7, [.null, .null, .null, .null, .int 0, .null, .null, .null, .null, .int 0, .int 0, .int 0, .null, .int 0, .int 0, .int 0])), (118735, .inl (0, 118735, .inl (fun _ => 0)))]) dX7_init_7 (by decide) (by decide) (by decide) rfl rfl (q := 9) rfl ?_
  refine px_putF (i := 0) (l' := [(16, .inr (7, [.ref (G.1 + 1), .null, .null, .null, .int 0, .null, .null, .null, .null, .int 0, .int 0, .int 0, .null, .int 0, .int 0, .int 0])), (118735, .inl (0, 118735, .inl (fun _ => 0)))]) dX7_init_9 fl_X7_8 rfl (by exact Nat.le_of_ble_eq_true rfl) rfl rfl rfl rfl rfl (q := 12) rfl ?_
  refine pp_aload_n dX7_init_12 rfl isRf_r (q := 13) rfl ?_
  refine pp_ldc (v := nI 118735) dX7_init_13 kc_X7_7 (q := 15) rfl ?_
  refine px_newi (n := 118735) (a := G.1 + 2) (l' := [(16, .inr (7, [.ref (G.1 + 1), .null, .null, .null, .int 0, .null, .null, .null, .null, .int 0, .int 0, .int 0, .null, .int 0, .int 0, .int 0])), (118735, .inl (0, 118735, .inl (fun _ => 0))), (118735, .inl (0, 118735, .inl (fun _ => 0)))]) dX7_init_15 (by decide) (by decide) (by decide) rfl rfl (q := 17) rfl ?_
  refine px_putF (i := 0) (l' := [(16, .inr (7, [.ref (G.1 + 1), .ref (G.1 + 2), .null, .null, .int 0, .null, .null, .null, .null, .int 0, .int 0, .int 0, .null, .int 0, .int 0, .int 0])), (118735, .inl (0, 118735, .inl (fun _ => 0))), (118735, .inl (0, 118735, .inl (fun _ => 0)))]) dX7_init_17 fl_X7_14 rfl (by exact Nat.le_of_ble_eq_true rfl) rfl rfl rfl rfl rfl (q := 20) rfl ?_
  refine pp_aload_n dX7_init_20 rfl isRf_r (q := 21) rfl ?_
  refine pp_bipush dX7_init_21 cb_64 (q := 23) rfl ?_
  refine px_newl (n := 64) (a := G.1 + 3) (l' := [(16, .inr (7, [.ref (G.1 + 1), .ref (G.1 + 2), .null, .null, .int 0, .null, .null, .null, .null, .int 0, .int 0, .int 0, .null, .int 0, .int 0, .int 0])), (118735, .inl (0, 118735, .inl (fun _ => 0))), (118735, .inl (0, 118735, .inl (fun _ => 0))), (64, .inl (1, 64, .inr (.inl (fun _ => 0))))]) dX7_init_23 (by decide) (by decide) (by decide) rfl rfl (q := 25) rfl ?_
  refine px_putF (i := 0) (l' := [(16, .inr (7, [.ref (G.1 + 1), .ref (G.1 + 2), .ref (G.1 + 3), .null, .int 0, .null, .null, .null, .null, .int 0, .int 0, .int 0, .null, .int 0, .int 0, .int 0])), (118735, .inl (0, 118735, .inl (fun _ => 0))), (118735, .inl (0, 118735, .inl (fun _ => 0))), (64, .inl (1, 64, .inr (.inl (fun _ => 0))))]) dX7_init_25 fl_X7_17 rfl (by exact Nat.le_of_ble_eq_true rfl) rfl rfl rfl rfl rfl (q := 28) rfl ?_
  refine pp_aload_n dX7_init_28 rfl isRf_r (q := 29) rfl ?_
  refine pp_bipush dX7_init_29 cb_64 (q := 31) rfl ?_
  refine px_newl (n := 64) (a := G.1 + 4) (l' := [(16, .inr (7, [.ref (G.1 + 1), .ref (G.1 + 2), .ref (G.1 + 3), .null, .int 0, .null, .null, .null, .null, .int 0, .int 0, .int 0, .null, .int 0, .int 0, .int 0])), (118735, .inl (0, 118735, .inl (fun _ => 0))), (118735, .inl (0, 118735, .inl (fun _ => 0))), (64, .inl (1, 64, .inr (.inl (fun _ => 0)))), (64, .inl (1, 64, .inr (.inl (fun _ => 0))))]) dX7_init_31 (by decide) (by decide) (by decide) rfl rfl (q := 33) rfl ?_
  refine px_putF (i := 0) (l' := [(16, .inr (7, [.ref (G.1 + 1), .ref (G.1 + 2), .ref (G.1 + 3), .ref (G.1 + 4), .int 0, .null, .null, .null, .null, .int 0, .int 0, .int 0, .null, .int 0, .int 0, .int 0])), (118735, .inl (0, 118735, .inl (fun _ => 0))), (118735, .inl (0, 118735, .inl (fun _ => 0))), (64, .inl (1, 64, .inr (.inl (fun _ => 0)))), (64, .inl (1, 64, .inr (.inl (fun _ => 0))))]) dX7_init_33 fl_X7_21 rfl (by exact Nat.le_of_ble_eq_true rfl) rfl rfl rfl rfl rfl (q := 36) rfl ?_
  refine pp_aload_n dX7_init_36 rfl isRf_r (q := 37) rfl ?_
  refine pp_bipush dX7_init_37 cb_16 (q := 39) rfl ?_
  refine px_newi (n := 16) (a := G.1 + 5) (l' := [(16, .inr (7, [.ref (G.1 + 1), .ref (G.1 + 2), .ref (G.1 + 3), .ref (G.1 + 4), .int 0, .null, .null, .null, .null, .int 0, .int 0, .int 0, .null, .int 0, .int 0, .int 0])), (118735, .inl (0, 118735, .inl (fun _ => 0))), (118735, .inl (0, 118735, .inl (fun _ => 0))), (64, .inl (1, 64, .inr (.inl (fun _ => 0)))), (64, .inl (1, 64, .inr (.inl (fun _ => 0)))), (16, .inl (0, 16, .inl (fun _ => 0)))]) dX7_init_39 (by decide) (by decide) (by decide) rfl rfl (q := 41) rfl ?_
  refine px_putF (i := 0) (l' := [(16, .inr (7, [.ref (G.1 + 1), .ref (G.1 + 2), .ref (G.1 + 3), .ref (G.1 + 4), .int 0, .ref (G.1 + 5), .null, .null, .null, .int 0, .int 0, .int 0, .null, .int 0, .int 0, .int 0])), (118735, .inl (0, 118735, .inl (fun _ => 0))), (118735, .inl (0, 118735, .inl (fun _ => 0))), (64, .inl (1, 64, .inr (.inl (fun _ => 0)))), (64, .inl (1, 64, .inr (.inl (fun _ => 0)))), (16, .inl (0, 16, .inl (fun _ => 0)))]) dX7_init_41 fl_X7_24 rfl (by exact Nat.le_of_ble_eq_true rfl) rfl rfl rfl rfl rfl (q := 44) rfl ?_
  refine pp_aload_n dX7_init_44 rfl isRf_r (q := 45) rfl ?_
  refine pp_sipush dX7_init_45 cs_1300 (q := 48) rfl ?_
  refine px_newi (n := 1300) (a := G.1 + 6) (l' := [(16, .inr (7, [.ref (G.1 + 1), .ref (G.1 + 2), .ref (G.1 + 3), .ref (G.1 + 4), .int 0, .ref (G.1 + 5), .null, .null, .null, .int 0, .int 0, .int 0, .null, .int 0, .int 0, .int 0])), (118735, .inl (0, 118735, .inl (fun _ => 0))), (118735, .inl (0, 118735, .inl (fun _ => 0))), (64, .inl (1, 64, .inr (.inl (fun _ => 0)))), (64, .inl (1, 64, .inr (.inl (fun _ => 0)))), (16, .inl (0, 16, .inl (fun _ => 0))), (1300, .inl (0, 1300, .inl (fun _ => 0)))]) dX7_init_48 (by decide) (by decide) (by decide) rfl rfl (q := 50) rfl ?_
  refine px_putF (i := 0) (l' := [(16, .inr (7, [.ref (G.1 + 1), .ref (G.1 + 2), .ref (G.1 + 3), .ref (G.1 + 4), .int 0, .ref (G.1 + 5), .ref (G.1 + 6), .null, .null, .int 0, .int 0, .int 0, .null, .int 0, .int 0, .int 0])), (118735, .inl (0, 118735, .inl (fun _ => 0))), (118735, .inl (0, 118735, .inl (fun _ => 0))), (64, .inl (1, 64, .inr (.inl (fun _ => 0)))), (64, .inl (1, 64, .inr (.inl (fun _ => 0)))), (16, .inl (0, 16, .inl (fun _ => 0))), (1300, .inl (0, 1300, .inl (fun _ => 0)))]) dX7_init_50 fl_X7_27 rfl (by exact Nat.le_of_ble_eq_true rfl) rfl rfl rfl rfl rfl (q := 53) rfl ?_
  refine pp_aload_n dX7_init_53 rfl isRf_r (q := 54) rfl ?_
  refine pp_bipush dX7_init_54 cb_11 (q := 56) rfl ?_
  refine px_newi (n := 11) (a := G.1 + 7) (l' := [(16, .inr (7, [.ref (G.1 + 1), .ref (G.1 + 2), .ref (G.1 + 3), .ref (G.1 + 4), .int 0, .ref (G.1 + 5), .ref (G.1 + 6), .null, .null, .int 0, .int 0, .int 0, .null, .int 0, .int 0, .int 0])), (118735, .inl (0, 118735, .inl (fun _ => 0))), (118735, .inl (0, 118735, .inl (fun _ => 0))), (64, .inl (1, 64, .inr (.inl (fun _ => 0)))), (64, .inl (1, 64, .inr (.inl (fun _ => 0)))), (16, .inl (0, 16, .inl (fun _ => 0))), (1300, .inl (0, 1300, .inl (fun _ => 0))), (11, .inl (0, 11, .inl (fun _ => 0)))]) dX7_init_56 (by decide) (by decide) (by decide) rfl rfl (q := 58) rfl ?_
  refine px_putF (i := 0) (l' := [(16, .inr (7, [.ref (G.1 + 1), .ref (G.1 + 2), .ref (G.1 + 3), .ref (G.1 + 4), .int 0, .ref (G.1 + 5), .ref (G.1 + 6), .ref (G.1 + 7), .null, .int 0, .int 0, .int 0, .null, .int 0, .int 0, .int 0])), (118735, .inl (0, 118735, .inl (fun _ => 0))), (118735, .inl (0, 118735, .inl (fun _ => 0))), (64, .inl (1, 64, .inr (.inl (fun _ => 0)))), (64, .inl (1, 64, .inr (.inl (fun _ => 0)))), (16, .inl (0, 16, .inl (fun _ => 0))), (1300, .inl (0, 1300, .inl (fun _ => 0))), (11, .inl (0, 11, .inl (fun _ => 0)))]) dX7_init_58 fl_X7_30 rfl (by exact Nat.le_of_ble_eq_true rfl) rfl rfl rfl rfl rfl (q := 61) rfl ?_
  refine pp_aload_n dX7_init_61 rfl isRf_r (q := 62) rfl ?_
  refine pp_bipush dX7_init_62 cb_64 (q := 64) rfl ?_
  refine px_newi (n := 64) (a := G.1 + 8) (l' := [(16, .inr (7, [.ref (G.1 + 1), .ref (G.1 + 2), .ref (G.1 + 3), .ref (G.1 + 4), .int 0, .ref (G.1 + 5), .ref (G.1 + 6), .ref (G.1 + 7), .null, .int 0, .int 0, .int 0, .null, .int 0, .int 0, .int 0])), (118735, .inl (0, 118735, .inl (fun _ => 0))), (118735, .inl (0, 118735, .inl (fun _ => 0))), (64, .inl (1, 64, .inr (.inl (fun _ => 0)))), (64, .inl (1, 64, .inr (.inl (fun _ => 0)))), (16, .inl (0, 16, .inl (fun _ => 0))), (1300, .inl (0, 1300, .inl (fun _ => 0))), (11, .inl (0, 11, .inl (fun _ => 0))), (64, .inl (0, 64, .inl (fun _ => 0)))]) dX7_init_64 (by decide) (by decide) (by decide) rfl rfl (q := 66) rfl ?_
  refine px_putF (i := 0) (l' := [(16, .inr (7, [.ref (G.1 + 1), .ref (G.1 + 2), .ref (G.1 + 3), .ref (G.1 + 4), .int 0, .ref (G.1 + 5), .ref (G.1 + 6), .ref (G.1 + 7), .ref (G.1 + 8), .int 0, .int 0, .int 0, .null, .int 0, .int 0, .int 0])), (118735, .inl (0, 118735, .inl (fun _ => 0))), (118735, .inl (0, 118735, .inl (fun _ => 0))), (64, .inl (1, 64, .inr (.inl (fun _ => 0)))), (64, .inl (1, 64, .inr (.inl (fun _ => 0)))), (16, .inl (0, 16, .inl (fun _ => 0))), (1300, .inl (0, 1300, .inl (fun _ => 0))), (11, .inl (0, 11, .inl (fun _ => 0))), (64, .inl (0, 64, .inl (fun _ => 0)))]) dX7_init_66 fl_X7_33 rfl (by exact Nat.le_of_ble_eq_true rfl) rfl rfl rfl rfl rfl (q := 69) rfl ?_
  refine pp_aload_n dX7_init_69 rfl isRf_r (q := 70) rfl ?_
  refine pp_bipush dX7_init_70 cb_64 (q := 72) rfl ?_
  refine px_newz (n := 64) (a := G.1 + 9) (l' := [(16, .inr (7, [.ref (G.1 + 1), .ref (G.1 + 2), .ref (G.1 + 3), .ref (G.1 + 4), .int 0, .ref (G.1 + 5), .ref (G.1 + 6), .ref (G.1 + 7), .ref (G.1 + 8), .int 0, .int 0, .int 0, .null, .int 0, .int 0, .int 0])), (118735, .inl (0, 118735, .inl (fun _ => 0))), (118735, .inl (0, 118735, .inl (fun _ => 0))), (64, .inl (1, 64, .inr (.inl (fun _ => 0)))), (64, .inl (1, 64, .inr (.inl (fun _ => 0)))), (16, .inl (0, 16, .inl (fun _ => 0))), (1300, .inl (0, 1300, .inl (fun _ => 0))), (11, .inl (0, 11, .inl (fun _ => 0))), (64, .inl (0, 64, .inl (fun _ => 0))), (64, .inl (2, 64, .inl (fun _ => 0)))]) dX7_init_72 (by decide) (by decide) (by decide) rfl rfl (q := 74) rfl ?_
  refine px_putF (i := 0) (l' := [(16, .inr (7, [.ref (G.1 + 1), .ref (G.1 + 2), .ref (G.1 + 3), .ref (G.1 + 4), .int 0, .ref (G.1 + 5), .ref (G.1 + 6), .ref (G.1 + 7), .ref (G.1 + 8), .int 0, .int 0, .int 0, .ref (G.1 + 9), .int 0, .int 0, .int 0])), (118735, .inl (0, 118735, .inl (fun _ => 0))), (118735, .inl (0, 118735, .inl (fun _ => 0))), (64, .inl (1, 64, .inr (.inl (fun _ => 0)))), (64, .inl (1, 64, .inr (.inl (fun _ => 0)))), (16, .inl (0, 16, .inl (fun _ => 0))), (1300, .inl (0, 1300, .inl (fun _ => 0))), (11, .inl (0, 11, .inl (fun _ => 0))), (64, .inl (0, 64, .inl (fun _ => 0))), (64, .inl (2, 64, .inl (fun _ => 0)))]) dX7_init_74 fl_X7_36 rfl (by exact Nat.le_of_ble_eq_true rfl) rfl rfl rfl rfl rfl (q := 77) rfl ?_
  refine pp_iconst dX7_init_77 ci_0 (q := 78) rfl ?_
  refine pp_istore_n dX7_init_78 (by decide) (ls1_1 (nl1 rfl)) (q := 79) rfl ?_
  exact il_mod G 17 0 (by omega) (by omega)
