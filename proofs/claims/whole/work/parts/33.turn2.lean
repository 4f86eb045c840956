def wfR (m : Nat) (M : Me) : Prop := ∃ n q, M.1 14 = nI n ∧ n ≤ 64 ∧ M.1 15 = nI q ∧ q ≤ 64 ∧ ∀ j, j < n → ∃ x, x < 64 ∧ x ≠ m ∧ M.2.2 36 j = nI x
def nxO (M : Me) : Option Nat := fnd (livR (M.2.2 31) (M.2.2 36)) (M.1 15).toNatClampNeg ((M.1 14).toNatClampNeg - (M.1 15).toNatClampNeg)
theorem fnd_congr {c c' : Nat → Bool} : ∀ {k p : Nat}, (∀ j, p ≤ j → j < p + k → c j = c' j) → fnd c p k = fnd c' p k
  | 0, p, _ => rfl
  | k + 1, p, h => by
    rw [fnd, fnd, h p (by omega) (by omega), fnd_congr (fun j h1 h2 => h j (by omega) (by omega))]
theorem nxO_lt {m : Nat} {M : Me} (h : wfR m M) {i : Nat} (hi : nxO M = some i) : ∃ n, M.1 14 = nI n ∧ n ≤ 64 ∧ i < n := by
  obtain ⟨n, q, h1, h2, h3, h4, h5⟩ := h
  unfold nxO at hi
  rw [h1, h3, nI_clamp (by omega), nI_clamp (by omega)] at hi
  obtain ⟨a, b, -⟩ := fnd_some hi
  exact ⟨n, h1, h2, by omega⟩
theorem wfR_cg {m : Nat} {M M' : Me} (h : wfR m M) (h1 : M'.1 14 = M.1 14) (h2 : M'.1 15 = M.1 15) (h3 : M'.2.2 36 = M.2.2 36) : wfR m M' := by
  unfold wfR
  rw [h1, h2, h3]
  exact h
theorem shl_all {n : Nat} {P : Int32 → Prop} : ∀ {i : Nat} {s : (Nat → Int32) × Int64}, i < n → (∀ j, j < n → P (s.1 j)) → ∀ j, j < n → P ((shl i s).1 j)
  | 0, s, _, h => h
  | i + 1, s, hi, h => by
    have hd := drN_lt (stir s.2) (n := i + 1 + 1) (by omega)
    refine shl_all (n := n) (i := i) (s := sh1 (i + 1) s) (by omega) (fun j hj => ?_)
    show P (upd (upd s.1 (i + 1) (s.1 (drN (stir s.2) (i + 1 + 1)))) (drN (stir s.2) (i + 1 + 1)) (s.1 (i + 1)) j)
    unfold upd
    split
    · exact h _ hi
    · split
      · exact h _ (by omega)
      · exact h j hj
theorem mkR_all {K R : Nat → Int32} {m : Nat} {sd : Int64} : ∀ j, j < (sel (gsel K m (-1)) 64).length → ∃ x, x < 64 ∧ x ≠ m ∧ (mkR K R m sd).1 j = nI x := by
  intro j hj
  unfold mkR
  refine shl_all (P := fun v => ∃ x, x < 64 ∧ x ≠ m ∧ v = nI x) (n := (sel (gsel K m (-1)) 64).length) (by omega) (fun i hi => ?_) j hj
  have hm : (sel (gsel K m (-1)) 64)[i] ∈ sel (gsel K m (-1)) 64 := List.getElem_mem hi
  obtain ⟨h1, h2⟩ := sel_lt hm
  refine ⟨_, h1, fun e => ?_, wl_at (List.getElem?_eq_getElem hi)⟩
  rw [gsel_f (Or.inl e)] at h2
  cases h2
theorem wfR_mkR {m : Nat} {M : Me} : wfR m (meMkR m M) := ⟨(sel (gsel (M.2.2 31) m (-1)) 64).length, 0, rfl, sel_le _ _, rfl, by omega, mkR_all⟩
theorem wf_ix {g : Sg} {w m n q : Nat} {M : Me} (hM : RM g w m M) (h1 : M.1 14 = nI n) (h2 : n ≤ 64) (h3 : M.1 15 = nI q) (h4 : q ≤ 64) : (∀ j, j < n → gA g (36, w, m) j = M.2.2 36 j) ∧ fnd (livR (gA g (31, w, m)) (gA g (36, w, m))) q (n - q) = nxO M := by
  obtain ⟨n', e1, e2, e3⟩ := hM.2.2.2.2.1
  have en : n' = n := by have := congrArg Int32.toNatClampNeg (e1.symm.trans h1); rw [nI_clamp (by omega), nI_clamp (by omega)] at this; exact this
  subst en
  refine ⟨e3, ?_⟩
  unfold nxO
  rw [h1, h3, nI_clamp (by omega), nI_clamp (by omega), hM.ar (k := 31) (by omega) (by omega)]
  refine fnd_congr (fun j a b => ?_)
  unfold livR
  rw [e3 j (by omega)]
theorem c_nextA {ad : Nm → Nat} {g : Sg} {w m : Nat} {M : Me} (hM : RM g w m M) (hW : wfR m M) : PS mX1_nextPlace 0 (ent mX1_nextPlace [.ref (ad (30, w, m))]) [] ad g (Ri (fun v g' => v = oI (nxO M) ∧ g' = g)) := by
  obtain ⟨n, q, h1, h2, h3, h4, h5⟩ := hW
  obtain ⟨e1, e2⟩ := wf_ix hM h1 h2 h3 h4
  rw [← e2]
  exact c_nextPlace hM.1 ((hM.sc sl14).trans h1) h2 ((hM.sc sl15).trans h3) h4 (fun i hi => by obtain ⟨x, a, b, c⟩ := h5 i hi; exact ⟨x, a, (e1 i hi).trans c⟩)
theorem c_stepA {ad : Nm → Nat} {g : Sg} {w m : Nat} {A : AW} (hA : RW g w A) (hmb : m < 64) (hd : mdA A m) (hW : wfR m (A.1 m)) : PS mX1_stepRound 0 (ent mX1_stepRound [.ref (ad (30, w, m))]) [] ad g (Ri (fun v g' => v = atR ((A.1 m).2.2 36) (nxO (A.1 m)) ∧ RW g' w (aSet A m (meStp (A.1 m) (nxO (A.1 m)))) ∧ EqX (memS w m) g g')) := by
  have hM := hA.m hmb hd
  have hl := @nxO_lt m (A.1 m) hW
  obtain ⟨n, q, h1, h2, h3, h4, h5⟩ := hW
  obtain ⟨e1, e2⟩ := wf_ix hM h1 h2 h3 h4
  refine (c_stepRound hM.1 ((hM.sc sl14).trans h1) h2 ((hM.sc sl15).trans h3) h4 (fun i hi => by obtain ⟨x, a, b, c⟩ := h5 i hi; exact ⟨x, a, (e1 i hi).trans c⟩)).weak (fun v G hG => ?_)
  obtain ⟨g', q1, r, q2, q3, q4⟩ := hG
  rw [e2] at q3 q4
  subst q4
  refine ⟨_, q1, r, q2, ?_, RW_mem hA srG_eqx (RM_stp hM) ?_, srG_eqx⟩
  · rw [q3]
    cases ho : nxO (A.1 m) with
    | none => rfl
    | some i =>
      obtain ⟨n', k1, k2, k3⟩ := hl ho
      have en : n' = n := by have := congrArg Int32.toNatClampNeg (k1.symm.trans h1); rw [nI_clamp (by omega), nI_clamp (by omega)] at this; exact this
      exact e1 i (by omega)
  · cases nxO (A.1 m) with
    | none => exact hd
    | some i => exact hd
def askT (A : AW) (m : Nat) : AW × Int32 := match nxO (A.1 m) with
  | none => (A, nI 0)
  | some i => (aSet (sndA (aSet A m (meSI (A.1 m) 15 (nI (i + 1)))) m (nI 1) ((A.1 m).2.2 36 i) (-1)) m (meSI ((sndA (aSet A m (meSI (A.1 m) 15 (nI (i + 1)))) m (nI 1) ((A.1 m).2.2 36 i) (-1)).1 m) 6 ((A.1 m).2.2 36 i)), nI 1)
def anA (A : AW) (m : Nat) : AW × Int32 := if nxO (A.1 m) = none then askT (tlA (aSet A m (meMkR m (A.1 m))) (nI 11)) m else askT A m
theorem pkL_6 (A : AW) (m : Nat) (kind : Int32) (h : isFl kind = false) : (pkL A m (isFl kind)).length ≤ 6 := by
  unfold pkL
  rw [h, if_neg Bool.false_ne_true]
  exact frs_le _ _ _
set_option maxRecDepth 20000 in
set_option maxHeartbeats 4000000 in
theorem c_askT {ad : Nm → Nat} {g : Sg} {w m : Nat} {A : AW} (hA : RW g w A) (hmb : m < 64) (hd : mdA A m) (hW : wfR m (A.1 m)) (hroomL : (bL (aB A) + 1) * 8 ≤ gN g (21, w, 0)) (hroomP : (bP (aB A) + 6) * 4 ≤ gN g (21, w, 1)) (z : Option Value) : PP mX5_askNext 18 [some (.ref (ad (10, w, 0))), some (.ref (ad (30, w, m))), z] [] (Rel ad g) (fun v G => ∃ g', Rel ad g' G ∧ Ri (fun v g' => v = (askT A m).2 ∧ RW g' w (askT A m).1 ∧ EqX (wS w) g g') v g') := by
  have hM := hA.m hmb hd
  have hl := @nxO_lt m (A.1 m) hW
  cases ho : nxO (A.1 m) with
  | none =>
    refine pp_aload_n dX5_askNext_18 rfl isRf_r (q := 19) rfl ?_
    refine ps_callVi dX5_askNext_19 lk_X5_240 (by exact (by first | exact hM5.1 | exact hM4.1 | exact hM3.1 | exact hM2.1 | exact hM1.1 | exact hM.1)) (by rfl) (by rfl) (by rfl) (c_stepA hA hmb hd hW) (by rfl) (by exact Nat.le_of_ble_eq_true rfl) (by decide) (by decide) (by exact Nat.le_of_ble_eq_true rfl) (q := 22) rfl (fun r19 g19 h19 => ?_)
    rw [ho] at h19
    obtain ⟨rfl, hA1, hE1⟩ := h19
    refine pp_istore_n dX5_askNext_22 (by decide) (ls1_2 (nl1 rfl)) (q := 23) rfl ?_
    refine pp_iload_n dX5_askNext_23 rfl (q := 24) rfl ?_
    refine pp_iconst dX5_askNext_24 ci_m1 (q := 25) rfl ?_
    refine pp_icmp_ne (tgt := 30) dX5_askNext_25 (by decide) (q := 28) rfl (fun c25 => absurd rfl c25) (fun c25 => ?_)
    refine pp_iconst dX5_askNext_28 ci_0 (q := 29) rfl ?_
    refine ri_ret dX5_askNext_29 rfl rfl ?_
    refine ⟨?_, ?_, hE1.mono m_w⟩
    · unfold askT; rw [ho]
    · unfold askT; rw [ho]; have h := hA1; change RW g19 w (aSet A m (A.1 m)) at h; rw [aSet_self] at h; exact h
  | some i =>
    have hxne : ¬ (A.1 m).2.2 36 i = -1 := by
      obtain ⟨n, q, h1, h2, h3, h4, h5⟩ := hW
      obtain ⟨n', k1, k2, k3⟩ := hl ho
      have en : n' = n := by have := congrArg Int32.toNatClampNeg (k1.symm.trans h1); rw [nI_clamp (by omega), nI_clamp (by omega)] at this; exact this
      obtain ⟨x, a, b, c⟩ := h5 i (by omega)
      rw [c]
      exact oI_some_ne (by omega)
    refine pp_aload_n dX5_askNext_18 rfl isRf_r (q := 19) rfl ?_
    refine ps_callVi dX5_askNext_19 lk_X5_240 (by exact (by first | exact hM5.1 | exact hM4.1 | exact hM3.1 | exact hM2.1 | exact hM1.1 | exact hM.1)) (by rfl) (by rfl) (by rfl) (c_stepA hA hmb hd hW) (by rfl) (by exact Nat.le_of_ble_eq_true rfl) (by decide) (by decide) (by exact Nat.le_of_ble_eq_true rfl) (q := 22) rfl (fun r19 g19 h19 => ?_)
    rw [ho] at h19
    obtain ⟨rfl, hA1, hE1⟩ := h19
    change RW g19 w (aSet A m (meSI (A.1 m) 15 (nI (i + 1)))) at hA1
    have hd1 : mdA (aSet A m (meSI (A.1 m) 15 (nI (i + 1)))) m := by unfold mdA; rw [aSet_m]; exact hd
    have hM1 := hA1.m hmb hd1
    rw [show atR ((A.1 m).2.2 36) (some i) = (A.1 m).2.2 36 i from rfl]
    refine pp_istore_n dX5_askNext_22 (by decide) (ls1_2 (nl1 rfl)) (q := 23) rfl ?_
    refine pp_iload_n dX5_askNext_23 rfl (q := 24) rfl ?_
    refine pp_iconst dX5_askNext_24 ci_m1 (q := 25) rfl ?_
    refine pp_icmp_ne (tgt := 30) dX5_askNext_25 (by decide) (q := 28) rfl (fun c25 => ?_) (fun c25 => absurd c25 hxne)
    refine pp_aload_n dX5_askNext_30 rfl isRf_r (q := 31) rfl ?_
    refine pp_aload_n dX5_askNext_31 rfl isRf_r (q := 32) rfl ?_
    refine pp_iconst dX5_askNext_32 ci_1 (q := 33) rfl ?_
    refine pp_iload_n dX5_askNext_33 rfl (q := 34) rfl ?_
    refine pp_iconst dX5_askNext_34 ci_m1 (q := 35) rfl ?_
    refine ps_callVi dX5_askNext_35 lk_X5_119 (by exact (by first | exact hA6.1 | exact hA5.1 | exact hA4.1 | exact hA3.1 | exact hA2.1 | exact hA1.1 | exact hA.1)) (by rfl) (by rfl) (by rfl) (c_send hA1 hmb hd1 (by rw [hE1.2.1]; exact hroomL) (by rw [hE1.2.1]; have h6 := pkL_6 (aSet A m (meSI (A.1 m) 15 (nI (i + 1)))) m (nI 1) rfl; exact (by omega : (bP (aB A) + (pkL (aSet A m (meSI (A.1 m) 15 (nI (i + 1)))) m (isFl (nI 1))).length) * 4 ≤ gN g (21, w, 1)))) (by rfl) (by exact Nat.le_of_ble_eq_true rfl) (by decide) (by decide) (by exact Nat.le_of_ble_eq_true rfl) (q := 38) rfl (fun r35 g35 h35 => ?_)
    obtain ⟨rfl, hA2, hE2, -⟩ := And.intro h35.1.symm h35.2
    have hk := @sndA_keep (aSet A m (meSI (A.1 m) 15 (nI (i + 1)))) m (nI 1) ((A.1 m).2.2 36 i) (-1)
    have hd2 : mdA (sndA (aSet A m (meSI (A.1 m) 15 (nI (i + 1)))) m (nI 1) ((A.1 m).2.2 36 i) (-1)) m := by unfold mdA; rw [hk.1]; exact hd1
    have hM2 := hA2.m hmb hd2
    refine pp_pop dX5_askNext_38 rfl (q := 39) rfl ?_
    refine pp_aload_n dX5_askNext_39 rfl isRf_r (q := 40) rfl ?_
    refine pp_iload_n dX5_askNext_40 rfl (q := 41) rfl ?_
    refine ps_puti dX5_askNext_41 fl_X5_213 (by first | exact hM5.1 | exact hM4.1 | exact hM3.1 | exact hM2.1 | exact hM1.1 | exact hM.1) rfl (by exact Nat.le_of_ble_eq_true rfl) rfl rfl rfl (q := 44) rfl ?_
    have hA3 := RW_sI (k := 6) (x := (A.1 m).2.2 36 i) hA2 hmb hd2 (by decide)
    refine pp_iconst dX5_askNext_44 ci_1 (q := 45) rfl ?_
    refine ri_ret dX5_askNext_45 rfl rfl ?_
    refine ⟨?_, ?_, ((hE1.mono m_w).tr hE2).tr sI_w⟩
    · unfold askT; rw [ho]
    · unfold askT; rw [ho]; exact hA3
set_option maxRecDepth 20000 in
set_option maxHeartbeats 4000000 in
theorem c_askNext {ad : Nm → Nat} {g : Sg} {w m : Nat} {A : AW} (hA : RW g w A) (hmb : m < 64) (hd : mdA A m) (hW : wfR m (A.1 m)) (hroomL : (bL (aB A) + 1) * 8 ≤ gN g (21, w, 0)) (hroomP : (bP (aB A) + 6) * 4 ≤ gN g (21, w, 1)) : PS mX5_askNext 0 (ent mX5_askNext [.ref (ad (10, w, 0)), .ref (ad (30, w, m))]) [] ad g (Ri (fun v g' => v = (anA A m).2 ∧ RW g' w (anA A m).1 ∧ EqX (wS w) g g')) := by
  have hM := hA.m hmb hd
  show PP mX5_askNext 0 [some (.ref (ad (10, w, 0))), some (.ref (ad (30, w, m))), none] [] (Rel ad g) _
  refine pp_aload_n dX5_askNext_0 rfl isRf_r (q := 1) rfl ?_
  refine ps_callVi dX5_askNext_1 lk_X5_234 (by exact (by first | exact hM5.1 | exact hM4.1 | exact hM3.1 | exact hM2.1 | exact hM1.1 | exact hM.1)) (by rfl) (by rfl) (by rfl) (c_nextA hM hW) (by rfl) (by exact Nat.le_of_ble_eq_true rfl) (by decide) (by decide) (by exact Nat.le_of_ble_eq_true rfl) (q := 4) rfl (fun r1 g1 h1 => ?_)
  obtain ⟨rfl, rfl⟩ := And.intro h1.1.symm h1.2.symm
  refine pp_iconst dX5_askNext_4 ci_m1 (q := 5) rfl ?_
  refine pp_icmp_ne (tgt := 18) dX5_askNext_5 (by decide) (q := 8) rfl (fun c5 => ?_) (fun c5 => ?_)
  · refine ((c_askT hA hmb hd hW hroomL hroomP _).weak (fun v G hG => ?_))
    unfold anA
    rw [if_neg (fun e => c5 (by rw [e]; rfl))]
    exact hG
  · have hno : nxO (A.1 m) = none := by
      cases ho : nxO (A.1 m) with
      | none => rfl
      | some i => rw [ho] at c5; obtain ⟨n, k1, k2, k3⟩ := nxO_lt hW ho; exact absurd c5 (oI_some_ne (by omega))
    refine pp_aload_n dX5_askNext_8 rfl isRf_r (q := 9) rfl ?_
    refine ps_callVv dX5_askNext_9 lk_X5_237 (by exact (by first | exact hM5.1 | exact hM4.1 | exact hM3.1 | exact hM2.1 | exact hM1.1 | exact hM.1)) (by rfl) (by rfl) (by rfl) (c_makeRound hM.1 hmb) (by rfl) (by exact Nat.le_of_ble_eq_true rfl) (by decide) (by decide) (by exact Nat.le_of_ble_eq_true rfl) (q := 12) rfl (fun g9 h9 => ?_)
    have hM1 := RM_mkR hM
    have hE1 := mrG_eqx (g := g) (w := w) (m := m)
    have hA1 := RW_mem hA hE1 hM1 hd
    rw [← h9] at hM1 hE1 hA1
    refine pp_aload_n dX5_askNext_12 rfl isRf_r (q := 13) rfl ?_
    refine pp_bipush dX5_askNext_13 cb_11 (q := 15) rfl ?_
    refine ps_callVv dX5_askNext_15 lk_X5_225 (by exact (by first | exact hA6.1 | exact hA5.1 | exact hA4.1 | exact hA3.1 | exact hA2.1 | exact hA1.1 | exact hA.1)) (by rfl) (by rfl) (by rfl) (c_tally hA1) (by rfl) (by exact Nat.le_of_ble_eq_true rfl) (by decide) (by decide) (by exact Nat.le_of_ble_eq_true rfl) (q := 18) rfl (fun g15 h15 => ?_)
    obtain ⟨hA2, hE2⟩ := h15
    have hd2 : mdA (tlA (aSet A m (meMkR m (A.1 m))) (nI 11)) m := by show ((aSet A m (meMkR m (A.1 m))).1 m).1 1 = nI 1; rw [aSet_m]; exact hd
    have hW2 : wfR m ((tlA (aSet A m (meMkR m (A.1 m))) (nI 11)).1 m) := by show wfR m ((aSet A m (meMkR m (A.1 m))).1 m); rw [aSet_m]; exact wfR_mkR
    refine ((c_askT hA2 hmb hd2 hW2 (by rw [hE2.2.1, hE1.2.1]; exact hroomL) (by rw [hE2.2.1, hE1.2.1]; exact hroomP) _).weak (fun v G hG => ?_))
    unfold anA
    rw [if_pos hno]
    obtain ⟨g', q1, r, q2, q3, q4, q5⟩ := hG
    exact ⟨g', q1, r, q2, q3, q4, ((hE1.mono m_w).tr (hE2.mono t_w)).tr q5⟩
def ttB (A : AW) (m : Nat) : AW := eoR m 0 64 (aSet A m (meSI (A.1 m) 5 ((A.1 m).1 5 + nI 1)))
def ttC (A : AW) (m : Nat) : AW := aSet (ttB A m) m (meDbt ((ttB A m).1 m))
def ttD (A : AW) (m : Nat) : AW := aSet A m (meSI (meSI (A.1 m) 7 ((A.1 m).1 6)) 6 (-1))
def sdA (A : AW) (m : Nat) (kind ab : Int32) : AW × Nat := sdR m kind ab 3 (sel (gsel ((A.1 m).2.2 31) m ab) 64) A
def ttA (A : AW) (m : Nat) : AW × Int32 := if ((ttC A m).1 m).1 6 = -1 then ((anA (ttC A m) m).1, nI 0 + (anA (ttC A m) m).2) else ((anA (sdA (ttD (ttC A m) m) m (nI 2) (((ttC A m).1 m).1 6)).1 m).1, nI (sdA (ttD (ttC A m) m) m (nI 2) (((ttC A m).1 m).1 6)).2 + (anA (sdA (ttD (ttC A m) m) m (nI 2) (((ttC A m).1 m).1 6)).1 m).2)
theorem meSI_eq {M : Me} {k : Nat} {x : Int32} : (meSI M k x).1 k = x := if_pos rfl
theorem meSI_ne {M : Me} {k j : Nat} {x : Int32} (h : j ≠ k) : (meSI M k x).1 j = M.1 j := if_neg h
theorem aSet_bk {A : AW} {m : Nat} {M : Me} : aB (aSet A m M) = aB A := rfl
theorem ttB_k {A : AW} {m : Nat} : aB (ttB A m) = aB A ∧ ((ttB A m).1 m).1 = (meSI (A.1 m) 5 ((A.1 m).1 5 + nI 1)).1 ∧ ((ttB A m).1 m).2.1 = (A.1 m).2.1 ∧ ((ttB A m).1 m).2.2 36 = (A.1 m).2.2 36 := by
  have hk := @eoR_k m 64 0 (aSet A m (meSI (A.1 m) 5 ((A.1 m).1 5 + nI 1)))
  unfold ttB
  rw [hk.1, hk.2.1, hk.2.2.1, hk.2.2.2, aSet_m]
  exact ⟨rfl, rfl, rfl, rfl⟩
theorem ttC_k {A : AW} {m : Nat} (hd : mdA A m) (hW : wfR m (A.1 m)) : mdA (ttC A m) m ∧ wfR m ((ttC A m).1 m) ∧ aB (ttC A m) = aB A := by
  obtain ⟨h0, h1, h2, h3⟩ := @ttB_k A m
  have hb := @meDbt_1 ((ttB A m).1 m)
  have e1 : ((ttC A m).1 m) = meDbt ((ttB A m).1 m) := by unfold ttC; rw [aSet_m]
  have e2 : aB (ttC A m) = aB (ttB A m) := by unfold ttC; rw [aSet_bk]
  refine ⟨?_, wfR_cg hW ?_ ?_ ?_, e2.trans h0⟩
  · unfold mdA; rw [e1, hb.1, meSI_ne (by decide), h1, meSI_ne (by decide)]; exact hd
  · rw [e1, hb.1, meSI_ne (by decide), h1, meSI_ne (by decide)]
  · rw [e1, hb.1, meSI_ne (by decide), h1, meSI_ne (by decide)]
  · rw [e1, hb.2.2, h3]
theorem ttD_k {A : AW} {m : Nat} : (ttD A m).1 m = meSI (meSI (A.1 m) 7 ((A.1 m).1 6)) 6 (-1) ∧ aB (ttD A m) = aB A := by
  unfold ttD
  rw [aSet_m]
  exact ⟨rfl, rfl⟩
theorem sdA_k {A : AW} {m : Nat} {kind ab : Int32} : ((sdA A m kind ab).1.1 m).1 = (A.1 m).1 ∧ (∀ k, k ≠ 33 → ((sdA A m kind ab).1.1 m).2.2 k = (A.1 m).2.2 k) ∧ bL (aB (sdA A m kind ab).1) ≤ bL (aB A) + 3 ∧ bP (aB (sdA A m kind ab).1) ≤ bP (aB A) + 3 * pmx kind ∧ (sdA A m kind ab).2 ≤ 3 := by
  unfold sdA
  exact sdR_keep 3 _ A
theorem c_sdA {ad : Nm → Nat} {g : Sg} {w m : Nat} {A : AW} {kind ab : Int32} (hA : RW g w A) (hmb : m < 64) (hd : mdA A m) (hroomL : (bL (aB A) + 3) * 8 ≤ gN g (21, w, 0)) (hroomP : (bP (aB A) + 3 * pmx kind) * 4 ≤ gN g (21, w, 1)) : PS mX5_sendDrawn 0 (ent mX5_sendDrawn [.ref (ad (10, w, 0)), .ref (ad (30, w, m)), .int kind, .int ab]) [] ad g (Ri (fun v g' => v = nI (sdA A m kind ab).2 ∧ RW g' w (sdA A m kind ab).1 ∧ EqX (wS w) g g')) := by
  unfold sdA
  exact c_sendDrawn hA hmb hd hroomL hroomP
set_option maxRecDepth 20000 in
set_option maxHeartbeats 4000000 in
theorem c_takeTurn {ad : Nm → Nat} {g : Sg} {w m : Nat} {A : AW} (hA : RW g w A) (hmb : m < 64) (hd : mdA A m) (hW : wfR m (A.1 m)) (hroomL : (bL (aB A) + 4) * 8 ≤ gN g (21, w, 0)) (hroomP : (bP (aB A) + 200) * 4 ≤ gN g (21, w, 1)) : PS mX5_takeTurn 0 (ent mX5_takeTurn [.ref (ad (10, w, 0)), .ref (ad (30, w, m))]) [] ad g (Ri (fun v g' => v = (ttA A m).2 ∧ RW g' w (ttA A m).1 ∧ EqX (wS w) g g')) := by
  have hM := hA.m hmb hd
  show PP mX5_takeTurn 0 [some (.ref (ad (10, w, 0))), some (.ref (ad (30, w, m))), none] [] (Rel ad g) _
  refine pp_aload_n dX5_takeTurn_0 rfl isRf_r (q := 1) rfl ?_
  refine pp_dup dX5_takeTurn_1 rfl (q := 2) rfl ?_
  refine ps_get dX5_takeTurn_2 fl_X5_203 (by first | exact hM5.1 | exact hM4.1 | exact hM3.1 | exact hM2.1 | exact hM1.1 | exact hM.1) rfl rfl (q := 5) rfl ?_
  rw [hM.sc sl5]
  refine pp_iconst dX5_takeTurn_5 ci_1 (q := 6) rfl ?_
  refine pp_iadd dX5_takeTurn_6 (q := 7) rfl ?_
  refine ps_puti dX5_takeTurn_7 fl_X5_203 (by first | exact hM5.1 | exact hM4.1 | exact hM3.1 | exact hM2.1 | exact hM1.1 | exact hM.1) rfl (by exact Nat.le_of_ble_eq_true rfl) rfl rfl rfl (q := 10) rfl ?_
  have hA1 := RW_sI (k := 5) (x := (A.1 m).1 5 + nI 1) hA hmb hd (by decide)
  have hd1 : mdA (aSet A m (meSI (A.1 m) 5 ((A.1 m).1 5 + nI 1))) m := by unfold mdA; rw [aSet_m]; exact hd
  have hM1 := hA1.m hmb hd1
  refine pp_aload_n dX5_takeTurn_10 rfl isRf_r (q := 11) rfl ?_
  refine pp_aload_n dX5_takeTurn_11 rfl isRf_r (q := 12) rfl ?_
  refine ps_callVv dX5_takeTurn_12 lk_X5_206 (by exact (by first | exact hA6.1 | exact hA5.1 | exact hA4.1 | exact hA3.1 | exact hA2.1 | exact hA1.1 | exact hA.1)) (by rfl) (by rfl) (by rfl) (c_eod hA1 hmb hd1) (by rfl) (by exact Nat.le_of_ble_eq_true rfl) (by decide) (by decide) (by exact Nat.le_of_ble_eq_true rfl) (q := 15) rfl (fun g12 h12 => ?_)
  have hA2 : RW g12 w (ttB A m) := by unfold ttB; exact h12.1
  have hE2 := h12.2
  have hd2 : mdA (ttB A m) m := by unfold mdA; rw [ttB_k.2.1, meSI_ne (by decide)]; exact hd
  have hM2 := hA2.m hmb hd2
  refine pp_aload_n dX5_takeTurn_15 rfl isRf_r (q := 16) rfl ?_
  refine pp_aload_n dX5_takeTurn_16 rfl isRf_r (q := 17) rfl ?_
  refine ps_callVv dX5_takeTurn_17 lk_X5_210 (by exact (by first | exact hA6.1 | exact hA5.1 | exact hA4.1 | exact hA3.1 | exact hA2.1 | exact hA1.1 | exact hA.1)) (by rfl) (by rfl) (by rfl) (c_dbt hA2 hmb hd2) (by rfl) (by exact Nat.le_of_ble_eq_true rfl) (by decide) (by decide) (by exact Nat.le_of_ble_eq_true rfl) (q := 20) rfl (fun g17 h17 => ?_)
  have hA3 : RW g17 w (ttC A m) := by unfold ttC; exact h17.1
  have hE3 := h17.2
  obtain ⟨hd3, hW3, hb3⟩ := ttC_k hd hW
  have hM3 := hA3.m hmb hd3
  have hEE : EqX (wS w) g g17 := (sI_w.tr hE2).tr hE3
  refine pp_iconst dX5_takeTurn_20 ci_0 (q := 21) rfl ?_
  refine pp_istore_n dX5_takeTurn_21 (by decide) (ls1_2 (nl1 rfl)) (q := 22) rfl ?_
  refine pp_aload_n dX5_takeTurn_22 rfl isRf_r (q := 23) rfl ?_
  refine ps_get dX5_takeTurn_23 fl_X5_213 (by first | exact hM5.1 | exact hM4.1 | exact hM3.1 | exact hM2.1 | exact hM1.1 | exact hM.1) rfl rfl (q := 26) rfl ?_
  rw [hM3.sc sl6]
  refine pp_iconst dX5_takeTurn_26 ci_m1 (q := 27) rfl ?_
  refine pp_icmp_eq (tgt := 54) dX5_takeTurn_27 (by decide) (q := 30) rfl (fun c27 => ?_) (fun c27 => ?_)
  · have hA5 := hA3
    have hM5 := hM3
    have hroomL5 : (bL (aB (ttC A m)) + 1) * 8 ≤ gN g17 (21, w, 0) := by rw [hb3, hEE.2.1]; omega
    have hroomP5 : (bP (aB (ttC A m)) + 6) * 4 ≤ gN g17 (21, w, 1) := by rw [hb3, hEE.2.1]; omega
    have hd5 := hd3
    have hW5 := hW3
    have hE5 := hEE
    refine pp_iload_n dX5_takeTurn_54 rfl (q := 55) rfl ?_
    refine pp_aload_n dX5_takeTurn_55 rfl isRf_r (q := 56) rfl ?_
    refine pp_aload_n dX5_takeTurn_56 rfl isRf_r (q := 57) rfl ?_
    refine ps_callVi dX5_takeTurn_57 lk_X5_219 (by exact (by first | exact hA6.1 | exact hA5.1 | exact hA4.1 | exact hA3.1 | exact hA2.1 | exact hA1.1 | exact hA.1)) (by rfl) (by rfl) (by rfl) (c_askNext hA5 hmb hd5 hW5 hroomL5 hroomP5) (by rfl) (by exact Nat.le_of_ble_eq_true rfl) (by decide) (by decide) (by exact Nat.le_of_ble_eq_true rfl) (q := 60) rfl (fun r57 g57 h57 => ?_)
    obtain ⟨rfl, hA6, hE6⟩ := And.intro h57.1.symm h57.2
    refine pp_iadd dX5_takeTurn_60 (q := 61) rfl ?_
    refine ri_ret dX5_takeTurn_61 rfl rfl ?_
    refine ⟨?_, ?_, hE5.tr hE6⟩
    · unfold ttA; first | (rw [if_pos c27]) | (rw [if_neg c27])
    · unfold ttA; first | (rw [if_pos c27]; exact hA6) | (rw [if_neg c27]; exact hA6)
  · refine pp_aload_n dX5_takeTurn_30 rfl isRf_r (q := 31) rfl ?_
    refine pp_aload_n dX5_takeTurn_31 rfl isRf_r (q := 32) rfl ?_
    refine ps_get dX5_takeTurn_32 fl_X5_213 (by first | exact hM5.1 | exact hM4.1 | exact hM3.1 | exact hM2.1 | exact hM1.1 | exact hM.1) rfl rfl (q := 35) rfl ?_
    rw [hM3.sc sl6]
    refine ps_puti dX5_takeTurn_35 fl_X5_216 (by first | exact hM5.1 | exact hM4.1 | exact hM3.1 | exact hM2.1 | exact hM1.1 | exact hM.1) rfl (by exact Nat.le_of_ble_eq_true rfl) rfl rfl rfl (q := 38) rfl ?_
    refine pp_aload_n dX5_takeTurn_38 rfl isRf_r (q := 39) rfl ?_
    refine pp_iconst dX5_takeTurn_39 ci_m1 (q := 40) rfl ?_
    refine ps_puti dX5_takeTurn_40 fl_X5_213 (by first | exact hM5.1 | exact hM4.1 | exact hM3.1 | exact hM2.1 | exact hM1.1 | exact hM.1) rfl (by exact Nat.le_of_ble_eq_true rfl) rfl rfl rfl (q := 43) rfl ?_
    have hA4a := RW_sI (k := 7) (x := (((ttC A m).1 m).1 6)) hA3 hmb hd3 (by decide)
    have hd4a : mdA (aSet (ttC A m) m (meSI ((ttC A m).1 m) 7 (((ttC A m).1 m).1 6))) m := by unfold mdA; rw [aSet_m]; exact hd3
    have hA4 := RW_sI (k := 6) (x := -1) hA4a hmb hd4a (by decide)
    rw [aSet_m, aSet_aSet] at hA4
    replace hA4 : RW _ w (ttD (ttC A m) m) := hA4
    obtain ⟨e4, hb4a⟩ := @ttD_k (ttC A m) m
    have hb4 : aB (ttD (ttC A m) m) = aB A := hb4a.trans hb3
    have hd4 : mdA (ttD (ttC A m) m) m := by unfold mdA; rw [e4, meSI_ne (by decide), meSI_ne (by decide)]; exact hd3
    have hM4 := hA4.m hmb hd4
    have hE4 : EqX (wS w) g (sI (sI g17 (30, w, m) 7 (((ttC A m).1 m).1 6)) (30, w, m) 6 (-1)) := (hEE.tr sI_w).tr sI_w
    refine pp_aload_n dX5_takeTurn_43 rfl isRf_r (q := 44) rfl ?_
    refine pp_aload_n dX5_takeTurn_44 rfl isRf_r (q := 45) rfl ?_
    refine pp_iconst dX5_takeTurn_45 ci_2 (q := 46) rfl ?_
    refine pp_aload_n dX5_takeTurn_46 rfl isRf_r (q := 47) rfl ?_
    refine ps_get dX5_takeTurn_47 fl_X5_216 (by first | exact hM5.1 | exact hM4.1 | exact hM3.1 | exact hM2.1 | exact hM1.1 | exact hM.1) rfl rfl (q := 50) rfl ?_
    rw [hM4.sc sl7, show ((ttD (ttC A m) m).1 m).1 7 = (((ttC A m).1 m).1 6) by rw [e4, meSI_ne (by decide), meSI_eq]]
    refine ps_callVi dX5_takeTurn_50 lk_X5_193 (by exact (by first | exact hA6.1 | exact hA5.1 | exact hA4.1 | exact hA3.1 | exact hA2.1 | exact hA1.1 | exact hA.1)) (by rfl) (by rfl) (by rfl) (c_sdA (A := (ttD (ttC A m) m)) hA4 hmb hd4 (by rw [show gN (sI (sI g17 (30, w, m) 7 _) (30, w, m) 6 _) = gN g from hE4.2.1, hb4]; omega) (by rw [show gN (sI (sI g17 (30, w, m) 7 _) (30, w, m) 6 _) = gN g from hE4.2.1, hb4, show pmx (nI 2) = 6 from rfl]; omega)) (by rfl) (by exact Nat.le_of_ble_eq_true rfl) (by decide) (by decide) (by exact Nat.le_of_ble_eq_true rfl) (q := 53) rfl (fun r50 g50 h50 => ?_)
    obtain ⟨rfl, hA5, hE5a⟩ := And.intro h50.1.symm h50.2
    obtain ⟨s1, s2, s3, s4, s5⟩ := @sdA_k (ttD (ttC A m) m) m (nI 2) (((ttC A m).1 m).1 6)
    have hE5 : EqX (wS w) g g50 := hE4.tr hE5a
    have hd5 : mdA (sdA (ttD (ttC A m) m) m (nI 2) (((ttC A m).1 m).1 6)).1 m := by unfold mdA; rw [s1]; exact hd4
    have hM5 := hA5.m hmb hd5
    have hW5 : wfR m ((sdA (ttD (ttC A m) m) m (nI 2) (((ttC A m).1 m).1 6)).1.1 m) := wfR_cg hW3 (by rw [s1, e4, meSI_ne (by decide), meSI_ne (by decide)]) (by rw [s1, e4, meSI_ne (by decide), meSI_ne (by decide)]) (by rw [s2 36 (by decide), e4]; rfl)
    rw [hb4] at s3 s4
    rw [show pmx (nI 2) = 6 from rfl] at s4
    have hroomL5 : (bL (aB (sdA (ttD (ttC A m) m) m (nI 2) (((ttC A m).1 m).1 6)).1) + 1) * 8 ≤ gN g50 (21, w, 0) := by rw [hE5.2.1]; omega
    have hroomP5 : (bP (aB (sdA (ttD (ttC A m) m) m (nI 2) (((ttC A m).1 m).1 6)).1) + 6) * 4 ≤ gN g50 (21, w, 1) := by rw [hE5.2.1]; omega
    refine pp_istore_n dX5_takeTurn_53 (by decide) (ls1_2 (nl1 rfl)) (q := 54) rfl ?_
    refine pp_iload_n dX5_takeTurn_54 rfl (q := 55) rfl ?_
    refine pp_aload_n dX5_takeTurn_55 rfl isRf_r (q := 56) rfl ?_
    refine pp_aload_n dX5_takeTurn_56 rfl isRf_r (q := 57) rfl ?_
    refine ps_callVi dX5_takeTurn_57 lk_X5_219 (by exact (by first | exact hA6.1 | exact hA5.1 | exact hA4.1 | exact hA3.1 | exact hA2.1 | exact hA1.1 | exact hA.1)) (by rfl) (by rfl) (by rfl) (c_askNext hA5 hmb hd5 hW5 hroomL5 hroomP5) (by rfl) (by exact Nat.le_of_ble_eq_true rfl) (by decide) (by decide) (by exact Nat.le_of_ble_eq_true rfl) (q := 60) rfl (fun r57 g57 h57 => ?_)
    obtain ⟨rfl, hA6, hE6⟩ := And.intro h57.1.symm h57.2
    refine pp_iadd dX5_takeTurn_60 (q := 61) rfl ?_
    refine ri_ret dX5_takeTurn_61 rfl rfl ?_
    refine ⟨?_, ?_, hE5.tr hE6⟩
    · unfold ttA; first | (rw [if_pos c27]) | (rw [if_neg c27])
    · unfold ttA; first | (rw [if_pos c27]; exact hA6) | (rw [if_neg c27]; exact hA6)
def gwB (A : AW) (m : Nat) : AW := aSet A m (meStop (meSI (meEn (A.1 m) m (nI 4) ((A.1 m).1 4) (-1)) 2 (nI 2)))
def gwA (A : AW) (m : Nat) : AW × Int32 := ((sdA (gwB A m) m (nI 6) (-1)).1, nI (sdA (gwB A m) m (nI 6) (-1)).2)
theorem RW_st {g : Sg} {w m : Nat} {A : AW} (hA : RW g w A) (hmb : m < 64) (hd : mdA A m) : RW (stG g w m) w (aSet A m (meStop (A.1 m))) ∧ EqX (wS w) g (stG g w m) := by
  have h30 : memS w m (30, w, m) := ⟨rfl, rfl, by show 30 ≤ 30; omega, by show 30 ≤ 36; omega⟩
  have he : EqX (memS w m) g (stG g w m) := (((EqX.rf.sI h30).sI h30).sI h30).sI h30
  exact ⟨RW_mem hA he (RM_stop (hA.m hmb hd)) hd, he.mono m_w⟩
set_option maxRecDepth 20000 in
set_option maxHeartbeats 4000000 in
theorem c_goAway {ad : Nm → Nat} {g : Sg} {w m : Nat} {A : AW} (hA : RW g w A) (hmb : m < 64) (hd : mdA A m) (hroomL : (bL (aB A) + 4) * 8 ≤ gN g (21, w, 0)) (hroomP : (bP (aB A) + 200) * 4 ≤ gN g (21, w, 1)) : PS mX5_goAway 0 (ent mX5_goAway [.ref (ad (10, w, 0)), .ref (ad (30, w, m))]) [] ad g (Ri (fun v g' => v = (gwA A m).2 ∧ RW g' w (gwA A m).1 ∧ EqX (wS w) g g')) := by
  have hM := hA.m hmb hd
  show PP mX5_goAway 0 [some (.ref (ad (10, w, 0))), some (.ref (ad (30, w, m)))] [] (Rel ad g) _
  refine pp_aload_n dX5_goAway_0 rfl isRf_r (q := 1) rfl ?_
  refine pp_aload_n dX5_goAway_1 rfl isRf_r (q := 2) rfl ?_
  refine ps_get dX5_goAway_2 fl_X5_181 (by first | exact hM5.1 | exact hM4.1 | exact hM3.1 | exact hM2.1 | exact hM1.1 | exact hM.1) rfl rfl (q := 5) rfl ?_
  refine pp_iconst dX5_goAway_5 ci_4 (q := 6) rfl ?_
  refine pp_aload_n dX5_goAway_6 rfl isRf_r (q := 7) rfl ?_
  refine ps_get dX5_goAway_7 fl_X5_184 (by first | exact hM5.1 | exact hM4.1 | exact hM3.1 | exact hM2.1 | exact hM1.1 | exact hM.1) rfl rfl (q := 10) rfl ?_
  rw [hM.sc sl4]
  refine ps_callVv dX5_goAway_10 lk_X5_187 (by exact (by first | exact hM5.1 | exact hM4.1 | exact hM3.1 | exact hM2.1 | exact hM1.1 | exact hM.1)) (by rfl) (by rfl) (by rfl) (c_sayA hA hmb hd hmb) (by rfl) (by exact Nat.le_of_ble_eq_true rfl) (by decide) (by decide) (by exact Nat.le_of_ble_eq_true rfl) (q := 13) rfl (fun g10 h10 => ?_)
  obtain ⟨hA1, hE1⟩ := h10
  have hd1 : mdA (aSet A m (meEn (A.1 m) m (nI 4) ((A.1 m).1 4) (-1))) m := by unfold mdA; rw [aSet_m]; exact hd
  have hM1 := hA1.m hmb hd1
  refine pp_aload_n dX5_goAway_13 rfl isRf_r (q := 14) rfl ?_
  refine pp_iconst dX5_goAway_14 ci_2 (q := 15) rfl ?_
  refine ps_puti dX5_goAway_15 fl_X5_80 (by first | exact hM5.1 | exact hM4.1 | exact hM3.1 | exact hM2.1 | exact hM1.1 | exact hM.1) rfl (by exact Nat.le_of_ble_eq_true rfl) rfl rfl rfl (q := 18) rfl ?_
  have hA2 := RW_sI (k := 2) (x := nI 2) hA1 hmb hd1 (by decide)
  rw [aSet_m, aSet_aSet] at hA2
  have hd2 : mdA (aSet A m (meSI (meEn (A.1 m) m (nI 4) ((A.1 m).1 4) (-1)) 2 (nI 2))) m := by unfold mdA; rw [aSet_m]; exact hd
  have hM2 := hA2.m hmb hd2
  refine pp_aload_n dX5_goAway_18 rfl isRf_r (q := 19) rfl ?_
  refine ps_callVv dX5_goAway_19 lk_X5_190 (by exact (by first | exact hM5.1 | exact hM4.1 | exact hM3.1 | exact hM2.1 | exact hM1.1 | exact hM.1)) (by rfl) (by rfl) (by rfl) (c_stopAsking hM2.1) (by rfl) (by exact Nat.le_of_ble_eq_true rfl) (by decide) (by decide) (by exact Nat.le_of_ble_eq_true rfl) (q := 22) rfl (fun g19 h19 => ?_)
  obtain ⟨hA3, hE3⟩ := RW_st hA2 hmb hd2
  have e19 : g19 = stG (sI g10 (30, w, m) 2 (nI 2)) w m := h19
  rw [← e19] at hA3 hE3
  rw [aSet_m, aSet_aSet] at hA3
  have hE : EqX (wS w) g g19 := ((hE1.mono m_w).tr sI_w).tr hE3
  have hd3 : mdA (gwB A m) m := by unfold gwB mdA; rw [aSet_m]; exact hd
  have hM3 := hA3.m hmb hd3
  refine pp_aload_n dX5_goAway_22 rfl isRf_r (q := 23) rfl ?_
  refine pp_aload_n dX5_goAway_23 rfl isRf_r (q := 24) rfl ?_
  refine pp_bipush dX5_goAway_24 cb_6 (q := 26) rfl ?_
  refine pp_iconst dX5_goAway_26 ci_m1 (q := 27) rfl ?_
  refine ps_callVi dX5_goAway_27 lk_X5_193 (by exact (by first | exact hA6.1 | exact hA5.1 | exact hA4.1 | exact hA3.1 | exact hA2.1 | exact hA1.1 | exact hA.1)) (by rfl) (by rfl) (by rfl) (c_sdA (A := gwB A m) hA3 hmb hd3 (by rw [hE.2.1]; exact (by omega : (bL (aB A) + 3) * 8 ≤ gN g (21, w, 0))) (by rw [hE.2.1, show pmx (nI 6) = 64 from rfl]; exact (by omega : (bP (aB A) + 3 * 64) * 4 ≤ gN g (21, w, 1)))) (by rfl) (by exact Nat.le_of_ble_eq_true rfl) (by decide) (by decide) (by exact Nat.le_of_ble_eq_true rfl) (q := 30) rfl (fun r27 g27 h27 => ?_)
  obtain ⟨rfl, hA4, hE4⟩ := And.intro h27.1.symm h27.2
  refine ri_ret dX5_goAway_30 rfl rfl ?_
  exact ⟨rfl, hA4, hE.tr hE4⟩
def cpF (s : Nat) (B : Bk) (i : Nat) : Bk := puB B (bp B (s + i) 0) (bp B (s + i) 1) (bp B (s + i) 2) (bp B (s + i) 3)
def cpR (s : Nat) : Nat → Nat → Bk → Bk
  | _, 0, B => B
  | i, c + 1, B => cpR s (i + 1) c (cpF s B i)
def cpB (B : Bk) (l k s : Nat) : Bk := cpR s 0 k (opB B (bl B l 0) (bl B l 1) (bl B l 2) (bl B l 3) (nI l))
theorem pOk_pu {B : Bk} {l k s : Nat} {x kind term br : Int32} (h : pOk B l k s) (hl : l + 1 < bL B) : pOk (puB B x kind term br) l k s := by
  obtain ⟨h1, h2, h3, h4, h5⟩ := h
  refine ⟨h1, ?_, ?_, Nat.le_succ_of_le h4, h5⟩
  · show (if l + 1 = bL B ∧ 4 = 4 then _ else bl B l 4) = _
    rw [if_neg (fun q => by omega)]; exact h2
  · show (if l + 1 = bL B ∧ 7 = 4 then _ else bl B l 7) = _
    rw [if_neg (fun q => by omega)]; exact h3
theorem pOk_op {B : Bk} {l k s : Nat} {kind fr to ab cp : Int32} (h : pOk B l k s) : pOk (opB B kind fr to ab cp) l k s := by
  obtain ⟨h1, h2, h3, h4, h5⟩ := h
  refine ⟨Nat.lt_succ_of_lt h1, ?_, ?_, h4, h5⟩
  · show (if l = bL B then _ else bl B l 4) = _
    rw [if_neg (by omega)]; exact h2
  · show (if l = bL B then _ else bl B l 7) = _
    rw [if_neg (by omega)]; exact h3
set_option maxRecDepth 20000 in
set_option maxHeartbeats 4000000 in
theorem l_cp {ad : Nm → Nat} {w l k s : Nat} {v0 : Int32} : ∀ (j i : Nat) (g : Sg) (B : Bk), k - i < j → i ≤ k → al g (10, w, 0) → RB g w B → pOk B l k s → l + 1 < bL B → (bP B + (k - i)) * 4 ≤ gN g (21, w, 1) → PP mX0_sendCopy 40 [some (.ref (ad (13, w, 0))), some (.int (nI l)), some (.int v0), some (.int (nI k)), some (.int (nI i))] [] (Rel ad g) (fun v G => ∃ g', Rel ad g' G ∧ Ri (fun v g' => v = v0 ∧ RB g' w (cpR s i (k - i) B) ∧ EqX (bkS w) g g') v g') := by
  intro j
  induction j with
  | zero => intro i g B h; omega
  | succ j ih =>
    intro i g B hij hik hw hB hp hl hroom
    refine pp_iload dX0_sendCopy_40 rfl (q := 42) rfl ?_
    refine pp_iload_n dX0_sendCopy_42 rfl (q := 43) rfl ?_
    refine pp_icmp_ge (tgt := 88) dX0_sendCopy_43 (by decide) (q := 46) rfl (fun c43 => ?_) (fun c43 => ?_)
    · have e : i = k := by have := leT c43 (by have := hp.2.2.2.2; omega) (by have := hp.2.2.2.2; omega); omega
      subst e
      refine pp_iload_n dX0_sendCopy_88 rfl (q := 89) rfl ?_
      exact ri_ret dX0_sendCopy_89 rfl rfl ⟨rfl, by rw [Nat.sub_self]; exact hB, EqX.rf⟩
    · have hlt := leF c43 (by have := hp.2.2.2.2; omega) (by have := hp.2.2.2.2; omega)
      refine pp_aload_n dX0_sendCopy_46 rfl isRf_r (q := 47) rfl ?_
      refine pp_aload_n dX0_sendCopy_47 rfl isRf_r (q := 48) rfl ?_
      refine pp_iload_n dX0_sendCopy_48 rfl (q := 49) rfl ?_
      refine pp_iload dX0_sendCopy_49 rfl (q := 51) rfl ?_
      refine pp_iconst dX0_sendCopy_51 ci_0 (q := 52) rfl ?_
      refine ps_callVi dX0_sendCopy_52 lk_X0_56 (by exact hw) (by rfl) (by rfl) (by rfl) (c_ofPiece (c := 0) (by first | exact hw | exact hw1) (by first | exact hB) hp hlt (by decide)) (by rfl) (by exact Nat.le_of_ble_eq_true rfl) (by decide) (by decide) (by exact Nat.le_of_ble_eq_true rfl) (q := 55) rfl (fun r52 g52 h52 => ?_)
      obtain ⟨rfl, rfl⟩ := And.intro h52.1.symm h52.2.symm
      refine pp_aload_n dX0_sendCopy_55 rfl isRf_r (q := 56) rfl ?_
      refine pp_iload_n dX0_sendCopy_56 rfl (q := 57) rfl ?_
      refine pp_iload dX0_sendCopy_57 rfl (q := 59) rfl ?_
      refine pp_iconst dX0_sendCopy_59 ci_1 (q := 60) rfl ?_
      refine ps_callVi dX0_sendCopy_60 lk_X0_56 (by exact hw) (by rfl) (by rfl) (by rfl) (c_ofPiece (c := 1) (by first | exact hw | exact hw1) (by first | exact hB) hp hlt (by decide)) (by rfl) (by exact Nat.le_of_ble_eq_true rfl) (by decide) (by decide) (by exact Nat.le_of_ble_eq_true rfl) (q := 63) rfl (fun r60 g60 h60 => ?_)
      obtain ⟨rfl, rfl⟩ := And.intro h60.1.symm h60.2.symm
      refine pp_aload_n dX0_sendCopy_63 rfl isRf_r (q := 64) rfl ?_
      refine pp_iload_n dX0_sendCopy_64 rfl (q := 65) rfl ?_
      refine pp_iload dX0_sendCopy_65 rfl (q := 67) rfl ?_
      refine pp_iconst dX0_sendCopy_67 ci_2 (q := 68) rfl ?_
      refine ps_callVi dX0_sendCopy_68 lk_X0_56 (by exact hw) (by rfl) (by rfl) (by rfl) (c_ofPiece (c := 2) (by first | exact hw | exact hw1) (by first | exact hB) hp hlt (by decide)) (by rfl) (by exact Nat.le_of_ble_eq_true rfl) (by decide) (by decide) (by exact Nat.le_of_ble_eq_true rfl) (q := 71) rfl (fun r68 g68 h68 => ?_)
      obtain ⟨rfl, rfl⟩ := And.intro h68.1.symm h68.2.symm
      refine pp_aload_n dX0_sendCopy_71 rfl isRf_r (q := 72) rfl ?_
      refine pp_iload_n dX0_sendCopy_72 rfl (q := 73) rfl ?_
      refine pp_iload dX0_sendCopy_73 rfl (q := 75) rfl ?_
      refine pp_iconst dX0_sendCopy_75 ci_3 (q := 76) rfl ?_
      refine ps_callVi dX0_sendCopy_76 lk_X0_56 (by exact hw) (by rfl) (by rfl) (by rfl) (c_ofPiece (c := 3) (by first | exact hw | exact hw1) (by first | exact hB) hp hlt (by decide)) (by rfl) (by exact Nat.le_of_ble_eq_true rfl) (by decide) (by decide) (by exact Nat.le_of_ble_eq_true rfl) (q := 79) rfl (fun r76 g76 h76 => ?_)
      obtain ⟨rfl, rfl⟩ := And.intro h76.1.symm h76.2.symm
      refine ps_callVv dX0_sendCopy_79 lk_X0_60 (by exact hw) (by rfl) (by rfl) (by rfl) (c_put hw hB (by omega) (by show (bP B + 1) * 4 ≤ gN g (21, w, 1); omega)) (by rfl) (by exact Nat.le_of_ble_eq_true rfl) (by decide) (by decide) (by exact Nat.le_of_ble_eq_true rfl) (q := 82) rfl (fun g79 h79 => ?_)
      obtain ⟨hB1, hE1⟩ := h79
      refine pp_iinc dX0_sendCopy_82 rfl (nI_1 _) (ls1_4 (nl1 rfl)) (q := 85) rfl ?_
      refine pp_goto (tgt := 40) dX0_sendCopy_85 (by decide) ?_
      have hw2 : al g79 (10, w, 0) := hE1.al' hw
      refine (ih (i + 1) _ (cpF s B i) (by omega) (by omega) hw2 hB1 (pOk_pu hp hl) hl (by rw [hE1.2.1]; exact (by omega : (bP B + 1 + (k - (i + 1))) * 4 ≤ gN g (21, w, 1)))).weak (fun v G hG => ?_)
      obtain ⟨g', q1, r, q2, q3, q4, q5⟩ := hG
      refine ⟨g', q1, r, q2, q3, ?_, hE1.tr q5⟩
      rw [show k - i = (k - (i + 1)) + 1 by omega]
      exact q4
set_option maxRecDepth 20000 in
set_option maxHeartbeats 4000000 in
theorem c_copyB {ad : Nm → Nat} {g : Sg} {w l k s : Nat} {B : Bk} (hw : al g (10, w, 0)) (hB : RB g w B) (hp : pOk B l k s) (hroomL : (bL B + 1) * wdN 0 ≤ gN g (21, w, 0)) (hroomP : (bP B + k) * 4 ≤ gN g (21, w, 1)) : PS mX0_sendCopy 0 (ent mX0_sendCopy [.ref (ad (13, w, 0)), .int (nI l)]) [] ad g (Ri (fun v g' => v = nI (bL B) ∧ RB g' w (cpB B l k s) ∧ EqX (bkS w) g g')) := by
  show PP mX0_sendCopy 0 [some (.ref (ad (13, w, 0))), some (.int (nI l)), none, none, none] [] (Rel ad g) _
  refine pp_aload_n dX0_sendCopy_0 rfl isRf_r (q := 1) rfl ?_
  refine pp_aload_n dX0_sendCopy_1 rfl isRf_r (q := 2) rfl ?_
  refine pp_iload_n dX0_sendCopy_2 rfl (q := 3) rfl ?_
  refine pp_iconst dX0_sendCopy_3 ci_0 (q := 4) rfl ?_
  refine ps_callVi dX0_sendCopy_4 lk_X0_49 (by exact hw) (by rfl) (by rfl) (by rfl) (c_ofLetter (c := 0) hw hB hp.1 (by decide)) (by rfl) (by exact Nat.le_of_ble_eq_true rfl) (by decide) (by decide) (by exact Nat.le_of_ble_eq_true rfl) (q := 7) rfl (fun r4 g4 h4 => ?_)
  obtain ⟨rfl, rfl⟩ := And.intro h4.1.symm h4.2.symm
  refine pp_aload_n dX0_sendCopy_7 rfl isRf_r (q := 8) rfl ?_
  refine pp_iload_n dX0_sendCopy_8 rfl (q := 9) rfl ?_
  refine pp_iconst dX0_sendCopy_9 ci_1 (q := 10) rfl ?_
  refine ps_callVi dX0_sendCopy_10 lk_X0_49 (by exact hw) (by rfl) (by rfl) (by rfl) (c_ofLetter (c := 1) hw hB hp.1 (by decide)) (by rfl) (by exact Nat.le_of_ble_eq_true rfl) (by decide) (by decide) (by exact Nat.le_of_ble_eq_true rfl) (q := 13) rfl (fun r10 g10 h10 => ?_)
  obtain ⟨rfl, rfl⟩ := And.intro h10.1.symm h10.2.symm
  refine pp_aload_n dX0_sendCopy_13 rfl isRf_r (q := 14) rfl ?_
  refine pp_iload_n dX0_sendCopy_14 rfl (q := 15) rfl ?_
  refine pp_iconst dX0_sendCopy_15 ci_2 (q := 16) rfl ?_
  refine ps_callVi dX0_sendCopy_16 lk_X0_49 (by exact hw) (by rfl) (by rfl) (by rfl) (c_ofLetter (c := 2) hw hB hp.1 (by decide)) (by rfl) (by exact Nat.le_of_ble_eq_true rfl) (by decide) (by decide) (by exact Nat.le_of_ble_eq_true rfl) (q := 19) rfl (fun r16 g16 h16 => ?_)
  obtain ⟨rfl, rfl⟩ := And.intro h16.1.symm h16.2.symm
  refine pp_aload_n dX0_sendCopy_19 rfl isRf_r (q := 20) rfl ?_
  refine pp_iload_n dX0_sendCopy_20 rfl (q := 21) rfl ?_
  refine pp_iconst dX0_sendCopy_21 ci_3 (q := 22) rfl ?_
  refine ps_callVi dX0_sendCopy_22 lk_X0_49 (by exact hw) (by rfl) (by rfl) (by rfl) (c_ofLetter (c := 3) hw hB hp.1 (by decide)) (by rfl) (by exact Nat.le_of_ble_eq_true rfl) (by decide) (by decide) (by exact Nat.le_of_ble_eq_true rfl) (q := 25) rfl (fun r22 g22 h22 => ?_)
  obtain ⟨rfl, rfl⟩ := And.intro h22.1.symm h22.2.symm
  refine pp_iload_n dX0_sendCopy_25 rfl (q := 26) rfl ?_
  refine ps_callVi dX0_sendCopy_26 lk_X0_52 (by exact hw) (by rfl) (by rfl) (by rfl) (c_open hw hB hroomL) (by rfl) (by exact Nat.le_of_ble_eq_true rfl) (by decide) (by decide) (by exact Nat.le_of_ble_eq_true rfl) (q := 29) rfl (fun r26 g26 h26 => ?_)
  obtain ⟨rfl, hB1, hE1⟩ := And.intro h26.1.symm h26.2
  have hw1 : al g26 (10, w, 0) := hE1.al' hw
  have hp1 := pOk_op (kind := bl B l 0) (fr := bl B l 1) (to := bl B l 2) (ab := bl B l 3) (cp := nI l) hp
  refine pp_istore_n dX0_sendCopy_29 (by decide) (ls1_2 (nl1 rfl)) (q := 30) rfl ?_
  refine pp_aload_n dX0_sendCopy_30 rfl isRf_r (q := 31) rfl ?_
  refine pp_iload_n dX0_sendCopy_31 rfl (q := 32) rfl ?_
  refine pp_iconst dX0_sendCopy_32 ci_4 (q := 33) rfl ?_
  refine ps_callVi dX0_sendCopy_33 lk_X0_49 (by exact hw1) (by rfl) (by rfl) (by rfl) (c_ofLetter (c := 4) hw1 hB1 hp1.1 (by decide)) (by rfl) (by exact Nat.le_of_ble_eq_true rfl) (by decide) (by decide) (by exact Nat.le_of_ble_eq_true rfl) (q := 36) rfl (fun r33 g33 h33 => ?_)
  rw [hp1.2.1] at h33
  obtain ⟨rfl, rfl⟩ := And.intro h33.1.symm h33.2.symm
  refine pp_istore_n dX0_sendCopy_36 (by decide) (ls1_3 (nl1 rfl)) (q := 37) rfl ?_
  refine pp_iconst dX0_sendCopy_37 ci_0 (q := 38) rfl ?_
  refine pp_istore dX0_sendCopy_38 (by decide) (ls1_4 (nl1 rfl)) (q := 40) rfl ?_
  refine (l_cp (k + 1) 0 _ _ (by omega) (by omega) hw1 hB1 hp1 (by have := hp.1; show l + 1 < bL B + 1; omega) (by rw [hE1.2.1]; exact hroomP)).weak (fun v G hG => ?_)
  obtain ⟨g', q1, r, q2, q3, q4, q5⟩ := hG
  exact ⟨g', q1, r, q2, q3, q4, hE1.tr q5⟩
