/-- what sending leaves of the sender -/
theorem snd1_keep {m : Nat} {wh : Bool} {A : AW} {x : Nat} : ((snd1 m wh A x).1 m).2.1 = (A.1 m).2.1 ∧ ∀ k, k ≠ 33 → ((snd1 m wh A x).1 m).2.2 k = (A.1 m).2.2 k := by
  unfold snd1
  split
  · exact ⟨rfl, fun _ _ => rfl⟩
  · rw [aSet_m]
    refine ⟨rfl, fun k hk => ?_⟩
    show (if k = 33 then _ else (A.1 m).2.2 k) = _
    rw [if_neg hk]
theorem fold_keep {m : Nat} {wh : Bool} : ∀ (l : List Nat) (A : AW), ((l.foldl (snd1 m wh) A).1 m).2.1 = (A.1 m).2.1 ∧ ∀ k, k ≠ 33 → ((l.foldl (snd1 m wh) A).1 m).2.2 k = (A.1 m).2.2 k
  | [], A => ⟨rfl, fun _ _ => rfl⟩
  | x :: l, A => by
    obtain ⟨h1, h2⟩ := @fold_keep m wh l (snd1 m wh A x)
    obtain ⟨k1, k2⟩ := @snd1_keep m wh A x
    exact ⟨h1.trans k1, fun k hk => (h2 k hk).trans (k2 k hk)⟩
theorem sndA_keep {A : AW} {m : Nat} {kind to ab : Int32} : ((sndA A m kind to ab).1 m).1 = (A.1 m).1 ∧ ((sndA A m kind to ab).1 m).2.1 = (A.1 m).2.1 ∧ (∀ k, k ≠ 33 → ((sndA A m kind to ab).1 m).2.2 k = (A.1 m).2.2 k) ∧ bL (aB (sndA A m kind to ab)) = bL (aB A) + 1 ∧ bP (aB (sndA A m kind to ab)) = bP (aB A) + (pkL A m (isFl kind)).length := by
  obtain ⟨h1, h2, h3⟩ := fold_bk (m := m) (wh := isFl kind) (pkL A m (isFl kind)) (aBk A (opB (aB A) kind (nI m) to ab (-1)))
  obtain ⟨k1, k2⟩ := fold_keep (m := m) (wh := isFl kind) (pkL A m (isFl kind)) (aBk A (opB (aB A) kind (nI m) to ab (-1)))
  exact ⟨h3, k1, k2, h1, h2⟩
def pmx (kind : Int32) : Nat := if isFl kind then 64 else 6
theorem pkL_mx (A : AW) (m : Nat) (kind : Int32) : (pkL A m (isFl kind)).length ≤ pmx kind := by
  unfold pkL pmx
  split
  · exact sel_le _ _
  · exact frs_le _ _ _
theorem meSJ_1 {M : Me} {x : Int64} : (meSJ M x).1 = M.1 := by unfold meSJ; exact rfl
theorem meSJ_3 {M : Me} {x : Int64} : (meSJ M x).2.2 = M.2.2 := by unfold meSJ; exact rfl
def sdR (m : Nat) (kind ab : Int32) : Nat → List Nat → AW → AW × Nat
  | 0, _, A => (A, 0)
  | c + 1, l, A => if l.length = 0 then (A, 0) else ((sdR m kind ab c (l.eraseIdx (drN (stir (A.1 m).2.1) l.length)) (sndA (aSet A m (meSJ (A.1 m) (stir (A.1 m).2.1))) m kind (nI (l.getD (drN (stir (A.1 m).2.1) l.length) 0)) ab)).1, (sdR m kind ab c (l.eraseIdx (drN (stir (A.1 m).2.1) l.length)) (sndA (aSet A m (meSJ (A.1 m) (stir (A.1 m).2.1))) m kind (nI (l.getD (drN (stir (A.1 m).2.1) l.length) 0)) ab)).2 + 1)
theorem sdR_keep {m : Nat} {kind ab : Int32} : ∀ (c : Nat) (l : List Nat) (A : AW), ((sdR m kind ab c l A).1.1 m).1 = (A.1 m).1 ∧ (∀ k, k ≠ 33 → ((sdR m kind ab c l A).1.1 m).2.2 k = (A.1 m).2.2 k) ∧ bL (aB (sdR m kind ab c l A).1) ≤ bL (aB A) + c ∧ bP (aB (sdR m kind ab c l A).1) ≤ bP (aB A) + c * pmx kind ∧ (sdR m kind ab c l A).2 ≤ c
  | 0, l, A => ⟨rfl, fun _ _ => rfl, by show bL (aB A) ≤ _; omega, by show bP (aB A) ≤ _; omega, by show 0 ≤ 0; omega⟩
  | c + 1, l, A => by
    unfold sdR
    split
    · exact ⟨rfl, fun _ _ => rfl, by dsimp only; omega, by dsimp only; omega, by dsimp only; omega⟩
    · have hs := @sndA_keep (aSet A m (meSJ (A.1 m) (stir (A.1 m).2.1))) m kind (nI (l.getD (drN (stir (A.1 m).2.1) l.length) 0)) ab
      obtain ⟨h1, h2, h3, h4, h5⟩ := @sdR_keep m kind ab c (l.eraseIdx (drN (stir (A.1 m).2.1) l.length)) (sndA (aSet A m (meSJ (A.1 m) (stir (A.1 m).2.1))) m kind (nI (l.getD (drN (stir (A.1 m).2.1) l.length) 0)) ab)
      have hp := pkL_mx (aSet A m (meSJ (A.1 m) (stir (A.1 m).2.1))) m kind
      have e := hs.2.2.2
      have e0 : aB (aSet A m (meSJ (A.1 m) (stir (A.1 m).2.1))) = aB A := rfl
      rw [e0] at e
      refine ⟨?_, fun k hk => ?_, ?_, ?_, ?_⟩
      · refine h1.trans (hs.1.trans ?_); rw [aSet_m, meSJ_1]
      · refine (h2 k hk).trans ((hs.2.2.1 k hk).trans ?_); rw [aSet_m, meSJ_3]
      · rw [e.1] at h3; dsimp only; omega
      · rw [e.2] at h4; rw [Nat.add_mul]; dsimp only; omega
      · dsimp only; omega
theorem erase_row {f : Nat → Int32} {l : List Nat} {a : Nat} (ha : a < l.length) (hf : ∀ j, j < l.length → f j = nI (l.getD j 0)) : ∀ j, j < (l.eraseIdx a).length → va_cpy f f (a + 1) a (l.length - 1 - a) j = nI ((l.eraseIdx a).getD j 0) := by
  intro j hj
  rw [List.length_eraseIdx_of_lt ha] at hj
  rw [List.getD_eq_getElem?_getD, List.getElem?_eraseIdx]
  by_cases h : j < a
  · rw [pk_cpy_out (Or.inl h), if_pos h, hf j (by omega), List.getD_eq_getElem?_getD]
  · rw [pk_cpy_in (by omega) (by omega), if_neg h, show a + 1 + (j - a) = j + 1 by omega, hf (j + 1) (by omega), List.getD_eq_getElem?_getD]
set_option maxRecDepth 20000 in
set_option maxHeartbeats 4000000 in
theorem l_sd {ad : Nm → Nat} {w m : Nat} {kind ab : Int32} (hmb : m < 64) : ∀ (c0 c : Nat), c < c0 → ∀ (l : List Nat) (g : Sg) (A : AW), RW g w A → mdA A m → l.length ≤ 64 → (∀ j, j < l.length → gA g (16, w, 0) j = nI (l.getD j 0)) → c ≤ 3 → (bL (aB A) + c) * 8 ≤ gN g (21, w, 0) → (bP (aB A) + c * pmx kind) * 4 ≤ gN g (21, w, 1) → ∀ z : Option Value, PP mX5_sendDrawn 14 [some (.ref (ad (10, w, 0))), some (.ref (ad (30, w, m))), some (.int kind), some (.int ab), some (.int (nI l.length)), some (.int (nI (3 - c))), z] [] (Rel ad g) (fun v G => ∃ g', Rel ad g' G ∧ Ri (fun v g' => v = nI (3 - c + (sdR m kind ab c l A).2) ∧ RW g' w (sdR m kind ab c l A).1 ∧ EqX (wS w) g g') v g') := by
  intro c0
  induction c0 with
  | zero => intro c h; omega
  | succ c0 ih =>
    intro c hc l g A hA hd hll hrow hc3 hroomL hroomP z
    have hM := hA.m hmb hd
    refine pp_iload dX5_sendDrawn_14 rfl (q := 16) rfl ?_
    refine pp_iconst dX5_sendDrawn_16 ci_3 (q := 17) rfl ?_
    refine pp_icmp_ge (tgt := 79) dX5_sendDrawn_17 (by decide) (q := 20) rfl (fun c17 => ?_) (fun c17 => ?_)
    · have e : c = 0 := by have := leT c17 (by decide) (by omega); omega
      subst e
      refine pp_iload dX5_sendDrawn_79 rfl (q := 81) rfl ?_
      exact ri_ret dX5_sendDrawn_81 rfl rfl ⟨rfl, hA, EqX.rf⟩
    · obtain ⟨c, rfl⟩ : ∃ d, c = d + 1 := ⟨c - 1, by have := leF c17 (by decide) (by omega); omega⟩
      refine pp_iload dX5_sendDrawn_20 rfl (q := 22) rfl ?_
      refine pp_if_le (tgt := 79) dX5_sendDrawn_22 (by decide) (q := 25) rfl (fun c22 => ?_) (fun c22 => ?_)
      · have hl0 : l.length = 0 := by have h : nI l.length ≤ nI 0 := c22; have := leT h (by omega) (by decide); omega
        refine pp_iload dX5_sendDrawn_79 rfl (q := 81) rfl ?_
        refine ri_ret dX5_sendDrawn_81 rfl rfl ⟨?_, ?_, EqX.rf⟩
        · unfold sdR; rw [if_pos hl0]; rfl
        · unfold sdR; rw [if_pos hl0]; exact hA
      · have hl0 : ¬ l.length = 0 := by have h : ¬ nI l.length ≤ nI 0 := c22; have := leF h (by omega) (by decide); omega
        replace ih := ih c (by omega)
        have hat := drN_lt (stir (A.1 m).2.1) (n := l.length) (by omega)
        have hs := @sndA_keep (aSet A m (meSJ (A.1 m) (stir (A.1 m).2.1))) m kind (nI (l.getD (drN (stir (A.1 m).2.1) l.length) 0)) ab
        have hpm := pkL_mx (aSet A m (meSJ (A.1 m) (stir (A.1 m).2.1))) m kind
        refine pp_aload_n dX5_sendDrawn_25 rfl isRf_r (q := 26) rfl ?_
        refine pp_iload dX5_sendDrawn_26 rfl (q := 28) rfl ?_
        refine ps_callVi dX5_sendDrawn_28 lk_X5_247 (by exact (by first | exact hM5.1 | exact hM4.1 | exact hM3.1 | exact hM2.1 | exact hM1.1 | exact hM.1)) (by rfl) (by rfl) (by rfl) (c_draw hM.1 (n := l.length) (by omega) (by omega)) (by rfl) (by exact Nat.le_of_ble_eq_true rfl) (by decide) (by decide) (by exact Nat.le_of_ble_eq_true rfl) (q := 31) rfl (fun r28 g28 h28 => ?_)
        rw [hM.2.2.1] at h28
        obtain ⟨rfl, rfl⟩ := And.intro h28.1.symm h28.2.symm
        rw [drw_eq _ (by omega) (by omega)]
        have hM1 := RM_sJ (x := stir (A.1 m).2.1) hM
        have hA1 := RW_mem hA (EqX.rf.sJ ⟨rfl, rfl, by show 30 ≤ 30; omega, by show 30 ≤ 36; omega⟩) hM1 hd
        refine pp_istore dX5_sendDrawn_31 (by decide) (ls1_6 (nl1 rfl)) (q := 33) rfl ?_
        refine pp_aload_n dX5_sendDrawn_33 rfl isRf_r (q := 34) rfl ?_
        refine pp_aload_n dX5_sendDrawn_34 rfl isRf_r (q := 35) rfl ?_
        refine pp_iload_n dX5_sendDrawn_35 rfl (q := 36) rfl ?_
        refine pp_aload_n dX5_sendDrawn_36 rfl isRf_r (q := 37) rfl ?_
        refine ps_get dX5_sendDrawn_37 fl_X5_48 (by first | exact hA6.1 | exact hA5.1 | exact hA4.1 | exact hA3.1 | exact hA2.1 | exact hA1.1 | exact hA.1) rfl rfl (q := 40) rfl ?_
        refine pp_iload dX5_sendDrawn_40 rfl (q := 42) rfl ?_
        refine ps_iald dX5_sendDrawn_42 (by first | exact hA6.1 | exact hA5.1 | exact hA4.1 | exact hA3.1 | exact hA2.1 | exact hA1.1 | exact hA.1) rfl rfl (by omega) (by decide) (q := 43) rfl ?_
        rw [show gA (sJ g (30, w, m) (stir (A.1 m).2.1)) (16, w, 0) (drN (stir (A.1 m).2.1) l.length) = nI (l.getD (drN (stir (A.1 m).2.1) l.length) 0) from hrow _ hat]
        refine pp_iload_n dX5_sendDrawn_43 rfl (q := 44) rfl ?_
        refine ps_callVi dX5_sendDrawn_44 lk_X5_119 (by exact (by first | exact hA6.1 | exact hA5.1 | exact hA4.1 | exact hA3.1 | exact hA2.1 | exact hA1.1 | exact hA.1)) (by rfl) (by rfl) (by rfl) (c_send hA1 hmb (by unfold mdA; rw [aSet_m]; exact hd) (by show (bL (aB A) + 1) * 8 ≤ gN g (21, w, 0); omega) (by rw [show (c + 1) * pmx kind = c * pmx kind + pmx kind from Nat.succ_mul _ _] at hroomP; exact (by omega : (bP (aB A) + (pkL (aSet A m (meSJ (A.1 m) (stir (A.1 m).2.1))) m (isFl kind)).length) * 4 ≤ gN g (21, w, 1)))) (by rfl) (by exact Nat.le_of_ble_eq_true rfl) (by decide) (by decide) (by exact Nat.le_of_ble_eq_true rfl) (q := 47) rfl (fun r44 g44 h44 => ?_)
        obtain ⟨rfl, hA2, hE2a, h16a⟩ := And.intro h44.1.symm h44.2
        have hE2 : EqX (wS w) g g44 := (EqX.rf.sJ (wS_of (by decide) (by decide))).tr hE2a
        have h16 : gA g44 (16, w, 0) = gA g (16, w, 0) := h16a
        refine pp_pop dX5_sendDrawn_47 rfl (q := 48) rfl ?_
        refine pp_iinc dX5_sendDrawn_48 rfl (nI_1 _) (ls1_5 (nl1 rfl)) (q := 51) rfl ?_
        refine pp_iinc dX5_sendDrawn_51 rfl (show nI l.length + Int32.ofInt (-1) = nI (l.length - 1) by have := nI_m1 (l.length - 1); rw [show l.length - 1 + 1 = l.length by omega] at this; exact this) (ls1_4 (nl1 rfl)) (q := 54) rfl ?_
        refine pp_aload_n dX5_sendDrawn_54 rfl isRf_r (q := 55) rfl ?_
        refine ps_get dX5_sendDrawn_55 fl_X5_48 (by first | exact hA6.1 | exact hA5.1 | exact hA4.1 | exact hA3.1 | exact hA2.1 | exact hA1.1 | exact hA.1) rfl rfl (q := 58) rfl ?_
        refine pp_iload dX5_sendDrawn_58 rfl (q := 60) rfl ?_
        refine pp_iconst dX5_sendDrawn_60 ci_1 (q := 61) rfl ?_
        refine pp_iadd dX5_sendDrawn_61 (q := 62) rfl ?_
        rw [nI_add]
        refine pp_aload_n dX5_sendDrawn_62 rfl isRf_r (q := 63) rfl ?_
        refine ps_get dX5_sendDrawn_63 fl_X5_48 (by first | exact hA6.1 | exact hA5.1 | exact hA4.1 | exact hA3.1 | exact hA2.1 | exact hA1.1 | exact hA.1) rfl rfl (q := 66) rfl ?_
        refine pp_iload dX5_sendDrawn_66 rfl (q := 68) rfl ?_
        refine pp_iload dX5_sendDrawn_68 rfl (q := 70) rfl ?_
        refine pp_iload dX5_sendDrawn_70 rfl (q := 72) rfl ?_
        refine pp_isub dX5_sendDrawn_72 (q := 73) rfl ?_
        rw [pk_sub (by omega)]
        refine ps_copyi (n := (16, w, 0)) (m := (16, w, 0)) (a := (drN (stir (A.1 m).2.1) l.length) + 1) (b := (drN (stir (A.1 m).2.1) l.length)) (k := l.length - 1 - (drN (stir (A.1 m).2.1) l.length)) dX5_sendDrawn_73 lc_X5_250 hA2.1 hA2.1 rfl (fun _ => rfl) rfl rfl rfl (by omega) (by omega) (by decide) (by decide) (by exact Nat.le_of_ble_eq_true rfl) (q := 76) rfl ?_
        refine pp_goto (tgt := 14) dX5_sendDrawn_76 (by decide) ?_
        have hg2 : RW (sA g44 (16, w, 0) (va_cpy (gA g44 (16, w, 0)) (gA g44 (16, w, 0)) ((drN (stir (A.1 m).2.1) l.length) + 1) (drN (stir (A.1 m).2.1) l.length) (l.length - 1 - (drN (stir (A.1 m).2.1) l.length)))) w (sndA (aSet A m (meSJ (A.1 m) (stir (A.1 m).2.1))) m kind (nI (l.getD (drN (stir (A.1 m).2.1) l.length) 0)) ab) := RW_oth hA2 (EqX.rf.sA ⟨rfl, Or.inr rfl⟩)
        have hE3 : EqX (wS w) g (sA g44 (16, w, 0) (va_cpy (gA g44 (16, w, 0)) (gA g44 (16, w, 0)) ((drN (stir (A.1 m).2.1) l.length) + 1) (drN (stir (A.1 m).2.1) l.length) (l.length - 1 - (drN (stir (A.1 m).2.1) l.length)))) := hE2.sA (wS_of (by decide) (by decide))
        have e1 : (l.eraseIdx (drN (stir (A.1 m).2.1) l.length)).length = l.length - 1 := List.length_eraseIdx_of_lt hat
        have e2 : 3 - (c + 1) + 1 = 3 - c := by omega
        rw [e2, show nI (l.length - 1) = nI (l.eraseIdx (drN (stir (A.1 m).2.1) l.length)).length by rw [e1]]
        refine ((ih (l.eraseIdx (drN (stir (A.1 m).2.1) l.length)) _ (sndA (aSet A m (meSJ (A.1 m) (stir (A.1 m).2.1))) m kind (nI (l.getD (drN (stir (A.1 m).2.1) l.length) 0)) ab) hg2 (by unfold mdA; rw [hs.1, aSet_m]; exact hd) (by omega) (by rw [gA_sA, if_pos rfl]; exact erase_row hat (fun j hj => by rw [h16]; exact hrow j hj)) (by omega) (by rw [hs.2.2.2.1, show gN (sA g44 (16, w, 0) _) = gN g from hE2.2.1]; exact (by omega : (bL (aB A) + 1 + c) * 8 ≤ gN g (21, w, 0))) (by rw [hs.2.2.2.2, show gN (sA g44 (16, w, 0) _) = gN g from hE2.2.1]; exact (by rw [show (c + 1) * pmx kind = c * pmx kind + pmx kind from Nat.succ_mul _ _] at hroomP; omega : (bP (aB A) + (pkL (aSet A m (meSJ (A.1 m) (stir (A.1 m).2.1))) m (isFl kind)).length + c * pmx kind) * 4 ≤ gN g (21, w, 1))) _).weak (fun v G hG => ?_))
        obtain ⟨g', q1, r, q2, q3, q4, q5⟩ := hG
        refine ⟨g', q1, r, q2, ?_, ?_, hE3.tr q5⟩
        · rw [q3, sdR, if_neg hl0]; exact congrArg nI (by dsimp only; omega)
        · rw [sdR, if_neg hl0]; exact q4
set_option maxRecDepth 20000 in
set_option maxHeartbeats 4000000 in
theorem c_sendDrawn {ad : Nm → Nat} {g : Sg} {w m : Nat} {A : AW} {kind ab : Int32} (hA : RW g w A) (hmb : m < 64) (hd : mdA A m) (hroomL : (bL (aB A) + 3) * 8 ≤ gN g (21, w, 0)) (hroomP : (bP (aB A) + 3 * pmx kind) * 4 ≤ gN g (21, w, 1)) : PS mX5_sendDrawn 0 (ent mX5_sendDrawn [.ref (ad (10, w, 0)), .ref (ad (30, w, m)), .int kind, .int ab]) [] ad g (Ri (fun v g' => v = nI (sdR m kind ab 3 (sel (gsel ((A.1 m).2.2 31) m ab) 64) A).2 ∧ RW g' w (sdR m kind ab 3 (sel (gsel ((A.1 m).2.2 31) m ab) 64) A).1 ∧ EqX (wS w) g g')) := by
  have hM := hA.m hmb hd
  show PP mX5_sendDrawn 0 [some (.ref (ad (10, w, 0))), some (.ref (ad (30, w, m))), some (.int kind), some (.int ab), none, none, none] [] (Rel ad g) _
  refine pp_aload_n dX5_sendDrawn_0 rfl isRf_r (q := 1) rfl ?_
  refine pp_aload_n dX5_sendDrawn_1 rfl isRf_r (q := 2) rfl ?_
  refine ps_get dX5_sendDrawn_2 fl_X5_48 (by first | exact hA6.1 | exact hA5.1 | exact hA4.1 | exact hA3.1 | exact hA2.1 | exact hA1.1 | exact hA.1) rfl rfl (q := 5) rfl ?_
  refine pp_iload_n dX5_sendDrawn_5 rfl (q := 6) rfl ?_
  refine ps_callVi dX5_sendDrawn_6 lk_X5_243 (by exact (by first | exact hM5.1 | exact hM4.1 | exact hM3.1 | exact hM2.1 | exact hM1.1 | exact hM.1)) (by rfl) (by rfl) (by rfl) (c_gather (n := (16, w, 0)) hM.1 hmb hA.1 (fun _ _ _ _ _ _ _ => rfl) (fun h => by cases h)) (by rfl) (by exact Nat.le_of_ble_eq_true rfl) (by decide) (by decide) (by exact Nat.le_of_ble_eq_true rfl) (q := 9) rfl (fun r6 g6 h6 => ?_)
  rw [hM.ar (k := 31) (by omega) (by omega)] at h6
  obtain ⟨rfl, rfl⟩ := And.intro h6.1.symm h6.2.symm
  refine pp_istore dX5_sendDrawn_9 (by decide) (ls1_4 (nl1 rfl)) (q := 11) rfl ?_
  refine pp_iconst dX5_sendDrawn_11 ci_0 (q := 12) rfl ?_
  refine pp_istore dX5_sendDrawn_12 (by decide) (ls1_5 (nl1 rfl)) (q := 14) rfl ?_
  have hRs := RW_oth hA (g' := sA g (16, w, 0) (wl (gA g (16, w, 0)) (sel (gsel ((A.1 m).2.2 31) m ab) 64))) (EqX.rf.sA ⟨rfl, Or.inr rfl⟩)
  refine (l_sd hmb 4 3 (by omega) (sel (gsel ((A.1 m).2.2 31) m ab) 64) _ A hRs hd (sel_le _ _) (fun j hj => ?_) (by omega) hroomL hroomP _).weak (fun v G hG => ?_)
  · rw [gA_sA, if_pos rfl, wl_at (List.getElem?_eq_getElem hj), List.getD_eq_getElem?_getD, List.getElem?_eq_getElem hj]; rfl
  · obtain ⟨g', q1, r, q2, q3, q4, q5⟩ := hG
    refine ⟨g', q1, r, q2, ?_, q4, (EqX.rf.sA (wS_of (by decide) (by decide))).tr q5⟩
    rw [q3, show 3 - 3 + (sdR m kind ab 3 (sel (gsel ((A.1 m).2.2 31) m ab) 64) A).2 = (sdR m kind ab 3 (sel (gsel ((A.1 m).2.2 31) m ab) 64) A).2 by omega]
