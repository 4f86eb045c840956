noncomputable def brA (A : AW) (l f t k s : Nat) : AW × Int32 := cIf (upA A t ∧ ¬ tb (A.2.2.1 f) t) (rspA (tkR t (nI l) s 0 k (aBk A (edB (aB A) l))) t l) (aBk A (exB (aB A) l), -1)
theorem pOk_ed {B : Bk} {l l' k s : Nat} (h : pOk B l k s) : pOk (edB B l') l k s := by
  obtain ⟨h1, h2, h3, h4, h5⟩ := h
  refine ⟨h1, ?_, ?_, h4, h5⟩
  · show (if l = l' ∧ 4 = 5 then _ else bl B l 4) = _
    rw [if_neg (fun q => by cases q.2)]; exact h2
  · show (if l = l' ∧ 7 = 5 then _ else bl B l 7) = _
    rw [if_neg (fun q => by cases q.2)]; exact h3
set_option maxRecDepth 20000 in
set_option maxHeartbeats 4000000 in
theorem c_bring_up {ad : Nm → Nat} {g : Sg} {w l f t k s : Nat} {A : AW} (hA : RW g w A) (hp : pOk (aB A) l k s) (hpx : ∀ i, i < k → ∃ x, x < 64 ∧ bp (aB A) (s + i) 0 = nI x) (hf : bl (aB A) l 1 = nI f) (hfb : f < 64) (ht : bl (aB A) l 2 = nI t) (htb : t < 64) (hu : upA A t) (hroomL : (bL (aB A) + 1) * wdN 0 ≤ gN g (21, w, 0)) (hroomP : (bP (aB A) + 64) * 4 ≤ gN g (21, w, 1)) : PS mX5_bring 0 (ent mX5_bring [.ref (ad (10, w, 0)), .int (nI l)]) [] ad g (Ri (fun v g' => v = (brA A l f t k s).2 ∧ RW g' w (brA A l f t k s).1 ∧ EqX (wS w) g g')) := by
  have hM := hA.m htb hu.1
  show PP mX5_bring 0 [some (.ref (ad (10, w, 0))), some (.int (nI l)), none, none, none] [] (Rel ad g) _
  refine pp_aload_n dX5_bring_0 rfl isRf_r (q := 1) rfl ?_
  refine ps_get dX5_bring_1 fl_X5_28 (by first | exact hA5.1 | exact hA4.1 | exact hA3.1 | exact hA2.1 | exact hA1.1 | exact hA.1) rfl rfl (q := 4) rfl ?_
  refine pp_iload_n dX5_bring_4 rfl (q := 5) rfl ?_
  refine pp_iconst dX5_bring_5 ci_1 (q := 6) rfl ?_
  refine ps_callVi dX5_bring_6 lk_X5_167 (by exact (by first | exact hA5.1 | exact hA4.1 | exact hA3.1 | exact hA2.1 | exact hA1.1 | exact hA.1)) (by rfl) (by rfl) (by rfl) (c_ofLetter (c := 1) hA.1 hA.2.1 hp.1 (by decide)) (by rfl) (by exact Nat.le_of_ble_eq_true rfl) (by decide) (by decide) (by exact Nat.le_of_ble_eq_true rfl) (q := 9) rfl (fun r6 g6 h6 => ?_)
  obtain ⟨rfl, rfl⟩ := And.intro h6.1.symm h6.2.symm
  rw [hf]
  refine pp_istore_n dX5_bring_9 (by decide) (ls1_2 (nl1 rfl)) (q := 10) rfl ?_
  refine pp_aload_n dX5_bring_10 rfl isRf_r (q := 11) rfl ?_
  refine ps_get dX5_bring_11 fl_X5_28 (by first | exact hA5.1 | exact hA4.1 | exact hA3.1 | exact hA2.1 | exact hA1.1 | exact hA.1) rfl rfl (q := 14) rfl ?_
  refine pp_iload_n dX5_bring_14 rfl (q := 15) rfl ?_
  refine pp_iconst dX5_bring_15 ci_2 (q := 16) rfl ?_
  refine ps_callVi dX5_bring_16 lk_X5_167 (by exact (by first | exact hA5.1 | exact hA4.1 | exact hA3.1 | exact hA2.1 | exact hA1.1 | exact hA.1)) (by rfl) (by rfl) (by rfl) (c_ofLetter (c := 2) hA.1 hA.2.1 hp.1 (by decide)) (by rfl) (by exact Nat.le_of_ble_eq_true rfl) (by decide) (by decide) (by exact Nat.le_of_ble_eq_true rfl) (q := 19) rfl (fun r16 g16 h16 => ?_)
  obtain ⟨rfl, rfl⟩ := And.intro h16.1.symm h16.2.symm
  rw [ht]
  refine pp_istore_n dX5_bring_19 (by decide) (ls1_3 (nl1 rfl)) (q := 20) rfl ?_
  refine pp_aload_n dX5_bring_20 rfl isRf_r (q := 21) rfl ?_
  refine pp_iload_n dX5_bring_21 rfl (q := 22) rfl ?_
  refine ps_callVr dX5_bring_22 lk_X5_171 (by exact (by first | exact hA5.1 | exact hA4.1 | exact hA3.1 | exact hA2.1 | exact hA1.1 | exact hA.1)) (by rfl) (by rfl) (by rfl) (c_upAt hA htb hu) (by rfl) (by exact Nat.le_of_ble_eq_true rfl) (by decide) (by decide) (by exact Nat.le_of_ble_eq_true rfl) (q := 25) rfl (fun r22 g22 h22 => ?_)
  obtain ⟨rfl, rfl⟩ := And.intro h22.1.symm h22.2.symm
  change PP mX5_bring 25 _ [Value.ref (ad (30, w, t))] _ _
  refine pp_astore dX5_bring_25 isRf_r (by decide) (ls1_4 (nl1 rfl)) (q := 27) rfl ?_
  refine pp_aload dX5_bring_27 rfl isRf_r (q := 29) rfl ?_
  refine pp_ifnull_r dX5_bring_29 (q := 32) rfl ?_
  refine pp_aload_n dX5_bring_32 rfl isRf_r (q := 33) rfl ?_
  refine pp_iload_n dX5_bring_33 rfl (q := 34) rfl ?_
  refine pp_iload_n dX5_bring_34 rfl (q := 35) rfl ?_
  refine ps_callVi dX5_bring_35 lk_X5_277 (by exact (by first | exact hA5.1 | exact hA4.1 | exact hA3.1 | exact hA2.1 | exact hA1.1 | exact hA.1)) (by rfl) (by rfl) (by rfl) (c_isCut hA hfb htb) (by rfl) (by exact Nat.le_of_ble_eq_true rfl) (by decide) (by decide) (by exact Nat.le_of_ble_eq_true rfl) (q := 38) rfl (fun r35 g35 h35 => ?_)
  obtain ⟨hb35, rfl⟩ := And.intro h35.1 h35.2.symm
  refine pp_if_eq (tgt := 51) dX5_bring_38 (by decide) (q := 41) rfl (fun c38 => ?_) (fun c38 => ?_)
  · have hnc := isB_f hb35 c38
    refine pp_aload_n dX5_bring_51 rfl isRf_r (q := 52) rfl ?_
    refine ps_get dX5_bring_52 fl_X5_28 (by first | exact hA5.1 | exact hA4.1 | exact hA3.1 | exact hA2.1 | exact hA1.1 | exact hA.1) rfl rfl (q := 55) rfl ?_
    refine pp_iload_n dX5_bring_55 rfl (q := 56) rfl ?_
    refine ps_callVv dX5_bring_56 lk_X5_280 (by exact (by first | exact hA5.1 | exact hA4.1 | exact hA3.1 | exact hA2.1 | exact hA1.1 | exact hA.1)) (by rfl) (by rfl) (by rfl) (c_endD hA.1 hA.2.1 hp.1) (by rfl) (by exact Nat.le_of_ble_eq_true rfl) (by decide) (by decide) (by exact Nat.le_of_ble_eq_true rfl) (q := 59) rfl (fun g56 h56 => ?_)
    obtain ⟨hB1, hE1⟩ := h56
    have hA1 := RW_bk hA hE1 hB1
    have hM1 := hA1.m htb hu.1
    refine pp_aload_n dX5_bring_59 rfl isRf_r (q := 60) rfl ?_
    refine pp_aload dX5_bring_60 rfl isRf_r (q := 62) rfl ?_
    refine pp_iload_n dX5_bring_62 rfl (q := 63) rfl ?_
    refine ps_callVv dX5_bring_63 lk_X5_283 (by exact (by first | exact hA5.1 | exact hA4.1 | exact hA3.1 | exact hA2.1 | exact hA1.1 | exact hA.1)) (by rfl) (by rfl) (by rfl) (c_takeNews hA1 htb hu.1 (pOk_ed hp) hpx) (by rfl) (by exact Nat.le_of_ble_eq_true rfl) (by decide) (by decide) (by exact Nat.le_of_ble_eq_true rfl) (q := 66) rfl (fun g63 h63 => ?_)
    obtain ⟨hA2, hE2⟩ := h63
    have hbk := @tkR_bk t (nI l) s k 0 (aBk A (edB (aB A) l))
    have hd2 : mdA (tkR t (nI l) s 0 k (aBk A (edB (aB A) l))) t := by unfold mdA; rw [hbk.2.1]; exact hu.1
    have hM2 := hA2.m htb hd2
    have hN : gN g63 = gN g := hE2.2.1.trans hE1.2.1
    refine pp_aload_n dX5_bring_66 rfl isRf_r (q := 67) rfl ?_
    refine pp_aload dX5_bring_67 rfl isRf_r (q := 69) rfl ?_
    refine pp_iload_n dX5_bring_69 rfl (q := 70) rfl ?_
    refine ps_callVi dX5_bring_70 lk_X5_287 (by exact (by first | exact hA5.1 | exact hA4.1 | exact hA3.1 | exact hA2.1 | exact hA1.1 | exact hA.1)) (by rfl) (by rfl) (by rfl) (c_respond hA2 htb hd2 (by rw [hbk.1]; exact hp.1) (by rw [hbk.1, hN]; exact hroomL) (by rw [hbk.1, hN]; exact hroomP)) (by rfl) (by exact Nat.le_of_ble_eq_true rfl) (by decide) (by decide) (by exact Nat.le_of_ble_eq_true rfl) (q := 73) rfl (fun r70 g70 h70 => ?_)
    obtain ⟨rfl, hA3, hE3⟩ := And.intro h70.1.symm h70.2
    refine ri_ret dX5_bring_73 rfl rfl ?_
    unfold brA
    rw [cIf_t ⟨hu, hnc⟩]
    exact ⟨rfl, hA3, ((hE1.mono (fun n h => bkS_w h)).tr hE2).tr hE3⟩
  · have hct := isB_t hb35 c38
    refine pp_aload_n dX5_bring_41 rfl isRf_r (q := 42) rfl ?_
    refine ps_get dX5_bring_42 fl_X5_28 (by first | exact hA5.1 | exact hA4.1 | exact hA3.1 | exact hA2.1 | exact hA1.1 | exact hA.1) rfl rfl (q := 45) rfl ?_
    refine pp_iload_n dX5_bring_45 rfl (q := 46) rfl ?_
    refine ps_callVv dX5_bring_46 lk_X5_105 (by exact (by first | exact hA5.1 | exact hA4.1 | exact hA3.1 | exact hA2.1 | exact hA1.1 | exact hA.1)) (by rfl) (by rfl) (by rfl) (c_endX hA.1 hA.2.1 hp.1) (by rfl) (by exact Nat.le_of_ble_eq_true rfl) (by decide) (by decide) (by exact Nat.le_of_ble_eq_true rfl) (q := 49) rfl (fun g46 h46 => ?_)
    obtain ⟨hB1, hE1⟩ := h46
    refine pp_iconst dX5_bring_49 ci_m1 (q := 50) rfl ?_
    refine ri_ret dX5_bring_50 rfl rfl ?_
    unfold brA
    rw [cIf_f (fun q => q.2 hct)]
    exact ⟨rfl, RW_bk hA hE1 hB1, hE1.mono (fun n h => bkS_w h)⟩
set_option maxRecDepth 20000 in
set_option maxHeartbeats 4000000 in
theorem c_bring_no {ad : Nm → Nat} {g : Sg} {w l f t k s : Nat} {A : AW} (hA : RW g w A) (hp : pOk (aB A) l k s) (hpx : ∀ i, i < k → ∃ x, x < 64 ∧ bp (aB A) (s + i) 0 = nI x) (hf : bl (aB A) l 1 = nI f) (hfb : f < 64) (ht : bl (aB A) l 2 = nI t) (htb : t < 64) (hu : ¬ upA A t) : PS mX5_bring 0 (ent mX5_bring [.ref (ad (10, w, 0)), .int (nI l)]) [] ad g (Ri (fun v g' => v = (brA A l f t k s).2 ∧ RW g' w (brA A l f t k s).1 ∧ EqX (wS w) g g')) := by
  have hno : noU A (nI t) := fun j hj e => by have e2 := eqT e (by omega) (by omega); subst e2; exact hu
  show PP mX5_bring 0 [some (.ref (ad (10, w, 0))), some (.int (nI l)), none, none, none] [] (Rel ad g) _
  refine pp_aload_n dX5_bring_0 rfl isRf_r (q := 1) rfl ?_
  refine ps_get dX5_bring_1 fl_X5_28 (by first | exact hA5.1 | exact hA4.1 | exact hA3.1 | exact hA2.1 | exact hA1.1 | exact hA.1) rfl rfl (q := 4) rfl ?_
  refine pp_iload_n dX5_bring_4 rfl (q := 5) rfl ?_
  refine pp_iconst dX5_bring_5 ci_1 (q := 6) rfl ?_
  refine ps_callVi dX5_bring_6 lk_X5_167 (by exact (by first | exact hA5.1 | exact hA4.1 | exact hA3.1 | exact hA2.1 | exact hA1.1 | exact hA.1)) (by rfl) (by rfl) (by rfl) (c_ofLetter (c := 1) hA.1 hA.2.1 hp.1 (by decide)) (by rfl) (by exact Nat.le_of_ble_eq_true rfl) (by decide) (by decide) (by exact Nat.le_of_ble_eq_true rfl) (q := 9) rfl (fun r6 g6 h6 => ?_)
  obtain ⟨rfl, rfl⟩ := And.intro h6.1.symm h6.2.symm
  rw [hf]
  refine pp_istore_n dX5_bring_9 (by decide) (ls1_2 (nl1 rfl)) (q := 10) rfl ?_
  refine pp_aload_n dX5_bring_10 rfl isRf_r (q := 11) rfl ?_
  refine ps_get dX5_bring_11 fl_X5_28 (by first | exact hA5.1 | exact hA4.1 | exact hA3.1 | exact hA2.1 | exact hA1.1 | exact hA.1) rfl rfl (q := 14) rfl ?_
  refine pp_iload_n dX5_bring_14 rfl (q := 15) rfl ?_
  refine pp_iconst dX5_bring_15 ci_2 (q := 16) rfl ?_
  refine ps_callVi dX5_bring_16 lk_X5_167 (by exact (by first | exact hA5.1 | exact hA4.1 | exact hA3.1 | exact hA2.1 | exact hA1.1 | exact hA.1)) (by rfl) (by rfl) (by rfl) (c_ofLetter (c := 2) hA.1 hA.2.1 hp.1 (by decide)) (by rfl) (by exact Nat.le_of_ble_eq_true rfl) (by decide) (by decide) (by exact Nat.le_of_ble_eq_true rfl) (q := 19) rfl (fun r16 g16 h16 => ?_)
  obtain ⟨rfl, rfl⟩ := And.intro h16.1.symm h16.2.symm
  rw [ht]
  refine pp_istore_n dX5_bring_19 (by decide) (ls1_3 (nl1 rfl)) (q := 20) rfl ?_
  refine pp_aload_n dX5_bring_20 rfl isRf_r (q := 21) rfl ?_
  refine pp_iload_n dX5_bring_21 rfl (q := 22) rfl ?_
  refine ps_callVr dX5_bring_22 lk_X5_171 (by exact (by first | exact hA5.1 | exact hA4.1 | exact hA3.1 | exact hA2.1 | exact hA1.1 | exact hA.1)) (by rfl) (by rfl) (by rfl) (c_upAt_no hA hno) (by rfl) (by exact Nat.le_of_ble_eq_true rfl) (by decide) (by decide) (by exact Nat.le_of_ble_eq_true rfl) (q := 25) rfl (fun r22 g22 h22 => ?_)
  obtain ⟨rfl, rfl⟩ := And.intro h22.1.symm h22.2.symm
  change PP mX5_bring 25 _ [Value.null] _ _
  refine pp_astore dX5_bring_25 (by first | exact isRf_r | exact isRf_va | exact isRf_n) (by decide) (ls1_4 (nl1 rfl)) (q := 27) rfl ?_
  refine pp_aload dX5_bring_27 rfl (by first | exact isRf_r | exact isRf_va | exact isRf_n) (q := 29) rfl ?_
  refine pp_ifnull_n (tgt := 41) dX5_bring_29 (by decide) ?_
  refine pp_aload_n dX5_bring_41 rfl isRf_r (q := 42) rfl ?_
  refine ps_get dX5_bring_42 fl_X5_28 (by first | exact hA5.1 | exact hA4.1 | exact hA3.1 | exact hA2.1 | exact hA1.1 | exact hA.1) rfl rfl (q := 45) rfl ?_
  refine pp_iload_n dX5_bring_45 rfl (q := 46) rfl ?_
  refine ps_callVv dX5_bring_46 lk_X5_105 (by exact (by first | exact hA5.1 | exact hA4.1 | exact hA3.1 | exact hA2.1 | exact hA1.1 | exact hA.1)) (by rfl) (by rfl) (by rfl) (c_endX hA.1 hA.2.1 hp.1) (by rfl) (by exact Nat.le_of_ble_eq_true rfl) (by decide) (by decide) (by exact Nat.le_of_ble_eq_true rfl) (q := 49) rfl (fun g46 h46 => ?_)
  obtain ⟨hB1, hE1⟩ := h46
  refine pp_iconst dX5_bring_49 ci_m1 (q := 50) rfl ?_
  refine ri_ret dX5_bring_50 rfl rfl ?_
  unfold brA
  rw [cIf_f (fun q => hu q.1)]
  exact ⟨rfl, RW_bk hA hE1 hB1, hE1.mono (fun n h => bkS_w h)⟩
theorem c_bring {ad : Nm → Nat} {g : Sg} {w l f t k s : Nat} {A : AW} (hA : RW g w A) (hp : pOk (aB A) l k s) (hpx : ∀ i, i < k → ∃ x, x < 64 ∧ bp (aB A) (s + i) 0 = nI x) (hf : bl (aB A) l 1 = nI f) (hfb : f < 64) (ht : bl (aB A) l 2 = nI t) (htb : t < 64) (hroomL : (bL (aB A) + 1) * wdN 0 ≤ gN g (21, w, 0)) (hroomP : (bP (aB A) + 64) * 4 ≤ gN g (21, w, 1)) : PS mX5_bring 0 (ent mX5_bring [.ref (ad (10, w, 0)), .int (nI l)]) [] ad g (Ri (fun v g' => v = (brA A l f t k s).2 ∧ RW g' w (brA A l f t k s).1 ∧ EqX (wS w) g g')) := by
  by_cases hu : upA A t
  · exact c_bring_up hA hp hpx hf hfb ht htb hu hroomL hroomP
  · exact c_bring_no hA hp hpx hf hfb ht htb hu
def eoF (m : Nat) (A : AW) (x : Nat) : AW := if (A.1 m).2.2 31 x = nI 2 then (if (A.1 m).1 5 - (A.1 m).2.2 34 x < nI 5 then tlA A (nI 8) else aSet (tlA (tlA A (nI 8)) (nI 9)) m (meEn (A.1 m) x (nI 3) ((A.1 m).2.2 32 x) (-1))) else A
def eoR (m : Nat) : Nat → Nat → AW → AW
  | _, 0, A => A
  | i, c + 1, A => eoR m (i + 1) c (eoF m A i)
theorem eoF_k {m : Nat} {A : AW} {x : Nat} : aB (eoF m A x) = aB A ∧ ((eoF m A x).1 m).1 = (A.1 m).1 ∧ ((eoF m A x).1 m).2.1 = (A.1 m).2.1 ∧ ((eoF m A x).1 m).2.2 36 = (A.1 m).2.2 36 := by
  unfold eoF
  split
  · split
    · exact ⟨rfl, rfl, rfl, rfl⟩
    · rw [aSet_m]; exact ⟨rfl, rfl, rfl, rfl⟩
  · exact ⟨rfl, rfl, rfl, rfl⟩
theorem eoR_k {m : Nat} : ∀ (c i : Nat) (A : AW), aB (eoR m i c A) = aB A ∧ ((eoR m i c A).1 m).1 = (A.1 m).1 ∧ ((eoR m i c A).1 m).2.1 = (A.1 m).2.1 ∧ ((eoR m i c A).1 m).2.2 36 = (A.1 m).2.2 36
  | 0, i, A => ⟨rfl, rfl, rfl, rfl⟩
  | c + 1, i, A => by
    obtain ⟨h1, h2, h3, h4⟩ := @eoR_k m c (i + 1) (eoF m A i)
    obtain ⟨k1, k2, k3, k4⟩ := @eoF_k m A i
    exact ⟨h1.trans k1, h2.trans k2, h3.trans k3, h4.trans k4⟩
theorem c_sayA {ad : Nm → Nat} {g : Sg} {w m x : Nat} {A : AW} {kind t : Int32} (hA : RW g w A) (hmb : m < 64) (hd : mdA A m) (hx : x < 64) : PS mX1_say 0 (ent mX1_say [.ref (ad (30, w, m)), .int (nI x), .int kind, .int t]) [] ad g (Rv (fun g' => RW g' w (aSet A m (meEn (A.1 m) x kind t (-1))) ∧ EqX (memS w m) g g')) := by
  have hM := hA.m hmb hd
  refine (c_say hM.1 hx).weak (fun v G hG => ?_)
  obtain ⟨g', h1, h2, rfl⟩ := hG
  exact ⟨_, h1, h2, RW_mem hA enG_eqx (RM_en hM hx) hd, enG_eqx⟩
set_option maxRecDepth 20000 in
set_option maxHeartbeats 4000000 in
theorem l_eod {ad : Nm → Nat} {w m : Nat} (hmb : m < 64) : ∀ (j i : Nat) (g : Sg) (A : AW), 64 - i < j → i ≤ 64 → RW g w A → mdA A m → PP mX5_endOldDoubts 2 [some (.ref (ad (10, w, 0))), some (.ref (ad (30, w, m))), some (.int (nI i))] [] (Rel ad g) (fun v G => ∃ g', Rel ad g' G ∧ Rv (fun g' => RW g' w (eoR m i (64 - i) A) ∧ EqX (wS w) g g') v g') := by
  intro j
  induction j with
  | zero => intro i g A h; omega
  | succ j ih =>
    intro i g A hij hik hA hd
    have hM := hA.m hmb hd
    refine pp_iload_n dX5_endOldDoubts_2 rfl (q := 3) rfl ?_
    refine pp_bipush dX5_endOldDoubts_3 cb_64 (q := 5) rfl ?_
    refine pp_icmp_ge (tgt := 63) dX5_endOldDoubts_5 (by decide) (q := 8) rfl (fun c5 => ?_) (fun c5 => ?_)
    · have e : i = 64 := by have := leT c5 (by decide) (by omega); omega
      subst e
      exact rv_ret dX5_endOldDoubts_63 rfl ⟨hA, EqX.rf⟩
    · have hlt := leF c5 (by decide) (by omega)
      have e31 := hM.ar (k := 31) (by omega) (by omega)
      refine pp_aload_n dX5_endOldDoubts_8 rfl isRf_r (q := 9) rfl ?_
      refine ps_get dX5_endOldDoubts_9 fl_X5_222 (by first | exact hM4.1 | exact hM3.1 | exact hM2.1 | exact hM1.1 | exact hM.1) rfl rfl (q := 12) rfl ?_
      refine pp_iload_n dX5_endOldDoubts_12 rfl (q := 13) rfl ?_
      refine ps_iald dX5_endOldDoubts_13 (by first | exact hM4.1 | exact hM3.1 | exact hM2.1 | exact hM1.1 | exact hM.1) rfl rfl (by omega) (by decide) (q := 14) rfl ?_
      rw [e31]
      refine pp_iconst dX5_endOldDoubts_14 ci_2 (q := 15) rfl ?_
      refine pp_icmp_ne (tgt := 57) dX5_endOldDoubts_15 (by decide) (q := 18) rfl (fun c15 => ?_) (fun c15 => ?_)
      · have hRn : RW g w (eoF m A i) := by unfold eoF; rw [if_neg c15]; exact hA
        have hEn : EqX (wS w) g g := EqX.rf
        refine pp_iinc dX5_endOldDoubts_57 rfl (nI_1 _) (ls1_2 (nl1 rfl)) (q := 60) rfl ?_
        refine pp_goto (tgt := 2) dX5_endOldDoubts_60 (by decide) ?_
        have hk := @eoF_k m A i
        refine (ih (i + 1) _ (eoF m A i) (by omega) (by omega) hRn (by unfold mdA; rw [hk.2.1]; exact hd)).weak (fun v G hG => ?_)
        obtain ⟨g', q1, q2, q3, q4⟩ := hG
        refine ⟨g', q1, q2, ?_, hEn.tr q4⟩
        rw [show 64 - i = (64 - (i + 1)) + 1 by omega]
        exact q3
      · refine pp_aload_n dX5_endOldDoubts_18 rfl isRf_r (q := 19) rfl ?_
        refine pp_bipush dX5_endOldDoubts_19 cb_8 (q := 21) rfl ?_
        refine ps_callVv dX5_endOldDoubts_21 lk_X5_225 (by exact (by first | exact hA5.1 | exact hA4.1 | exact hA3.1 | exact hA2.1 | exact hA1.1 | exact hA.1)) (by rfl) (by rfl) (by rfl) (c_tally hA) (by rfl) (by exact Nat.le_of_ble_eq_true rfl) (by decide) (by decide) (by exact Nat.le_of_ble_eq_true rfl) (q := 24) rfl (fun g21 h21 => ?_)
        obtain ⟨hA1, hE1⟩ := h21
        have hM1 := hA1.m hmb hd
        have e34 : gA g21 (34, w, m) = (A.1 m).2.2 34 := hM1.ar (k := 34) (by omega) (by omega)
        have e5 : gI g21 (30, w, m) 5 = (A.1 m).1 5 := hM1.sc sl5
        refine pp_aload_n dX5_endOldDoubts_24 rfl isRf_r (q := 25) rfl ?_
        refine ps_get dX5_endOldDoubts_25 fl_X5_203 (by first | exact hM4.1 | exact hM3.1 | exact hM2.1 | exact hM1.1 | exact hM.1) rfl rfl (q := 28) rfl ?_
        rw [e5]
        refine pp_aload_n dX5_endOldDoubts_28 rfl isRf_r (q := 29) rfl ?_
        refine ps_get dX5_endOldDoubts_29 fl_X5_228 (by first | exact hM4.1 | exact hM3.1 | exact hM2.1 | exact hM1.1 | exact hM.1) rfl rfl (q := 32) rfl ?_
        refine pp_iload_n dX5_endOldDoubts_32 rfl (q := 33) rfl ?_
        refine ps_iald dX5_endOldDoubts_33 (by first | exact hM4.1 | exact hM3.1 | exact hM2.1 | exact hM1.1 | exact hM.1) rfl rfl (by omega) (by decide) (q := 34) rfl ?_
        rw [e34]
        refine pp_isub dX5_endOldDoubts_34 (q := 35) rfl ?_
        refine pp_iconst dX5_endOldDoubts_35 ci_5 (q := 36) rfl ?_
        refine pp_icmp_lt (tgt := 57) dX5_endOldDoubts_36 (by decide) (q := 39) rfl (fun c36 => ?_) (fun c36 => ?_)
        · have hRn : RW g21 w (eoF m A i) := by unfold eoF; rw [if_pos c15, if_pos c36]; exact hA1
          have hEn : EqX (wS w) g g21 := hE1.mono t_w
          refine pp_iinc dX5_endOldDoubts_57 rfl (nI_1 _) (ls1_2 (nl1 rfl)) (q := 60) rfl ?_
          refine pp_goto (tgt := 2) dX5_endOldDoubts_60 (by decide) ?_
          have hk := @eoF_k m A i
          refine (ih (i + 1) _ (eoF m A i) (by omega) (by omega) hRn (by unfold mdA; rw [hk.2.1]; exact hd)).weak (fun v G hG => ?_)
          obtain ⟨g', q1, q2, q3, q4⟩ := hG
          refine ⟨g', q1, q2, ?_, hEn.tr q4⟩
          rw [show 64 - i = (64 - (i + 1)) + 1 by omega]
          exact q3
        · refine pp_aload_n dX5_endOldDoubts_39 rfl isRf_r (q := 40) rfl ?_
          refine pp_bipush dX5_endOldDoubts_40 cb_9 (q := 42) rfl ?_
          refine ps_callVv dX5_endOldDoubts_42 lk_X5_225 (by exact (by first | exact hA5.1 | exact hA4.1 | exact hA3.1 | exact hA2.1 | exact hA1.1 | exact hA.1)) (by rfl) (by rfl) (by rfl) (c_tally hA1) (by rfl) (by exact Nat.le_of_ble_eq_true rfl) (by decide) (by decide) (by exact Nat.le_of_ble_eq_true rfl) (q := 45) rfl (fun g42 h42 => ?_)
          obtain ⟨hA2, hE2⟩ := h42
          have hM2 := hA2.m hmb hd
          have e32 : gA g42 (32, w, m) = (A.1 m).2.2 32 := hM2.ar (k := 32) (by omega) (by omega)
          refine pp_aload_n dX5_endOldDoubts_45 rfl isRf_r (q := 46) rfl ?_
          refine pp_iload_n dX5_endOldDoubts_46 rfl (q := 47) rfl ?_
          refine pp_iconst dX5_endOldDoubts_47 ci_3 (q := 48) rfl ?_
          refine pp_aload_n dX5_endOldDoubts_48 rfl isRf_r (q := 49) rfl ?_
          refine ps_get dX5_endOldDoubts_49 fl_X5_231 (by first | exact hM4.1 | exact hM3.1 | exact hM2.1 | exact hM1.1 | exact hM.1) rfl rfl (q := 52) rfl ?_
          refine pp_iload_n dX5_endOldDoubts_52 rfl (q := 53) rfl ?_
          refine ps_iald dX5_endOldDoubts_53 (by first | exact hM4.1 | exact hM3.1 | exact hM2.1 | exact hM1.1 | exact hM.1) rfl rfl (by omega) (by decide) (q := 54) rfl ?_
          rw [e32]
          refine ps_callVv dX5_endOldDoubts_54 lk_X5_187 (by exact (by first | exact hM4.1 | exact hM3.1 | exact hM2.1 | exact hM1.1 | exact hM.1)) (by rfl) (by rfl) (by rfl) (c_sayA hA2 hmb hd hlt) (by rfl) (by exact Nat.le_of_ble_eq_true rfl) (by decide) (by decide) (by exact Nat.le_of_ble_eq_true rfl) (q := 57) rfl (fun g54 h54 => ?_)
          obtain ⟨hA3, hE3⟩ := h54
          have hRn : RW g54 w (eoF m A i) := by unfold eoF; rw [if_pos c15, if_neg c36]; exact hA3
          have hEn : EqX (wS w) g g54 := ((hE1.mono t_w).tr (hE2.mono t_w)).tr (hE3.mono m_w)
          refine pp_iinc dX5_endOldDoubts_57 rfl (nI_1 _) (ls1_2 (nl1 rfl)) (q := 60) rfl ?_
          refine pp_goto (tgt := 2) dX5_endOldDoubts_60 (by decide) ?_
          have hk := @eoF_k m A i
          refine (ih (i + 1) _ (eoF m A i) (by omega) (by omega) hRn (by unfold mdA; rw [hk.2.1]; exact hd)).weak (fun v G hG => ?_)
          obtain ⟨g', q1, q2, q3, q4⟩ := hG
          refine ⟨g', q1, q2, ?_, hEn.tr q4⟩
          rw [show 64 - i = (64 - (i + 1)) + 1 by omega]
          exact q3
set_option maxRecDepth 20000 in
set_option maxHeartbeats 4000000 in
theorem c_eod {ad : Nm → Nat} {g : Sg} {w m : Nat} {A : AW} (hA : RW g w A) (hmb : m < 64) (hd : mdA A m) : PS mX5_endOldDoubts 0 (ent mX5_endOldDoubts [.ref (ad (10, w, 0)), .ref (ad (30, w, m))]) [] ad g (Rv (fun g' => RW g' w (eoR m 0 64 A) ∧ EqX (wS w) g g')) := by
  have hM := hA.m hmb hd
  show PP mX5_endOldDoubts 0 [some (.ref (ad (10, w, 0))), some (.ref (ad (30, w, m))), none] [] (Rel ad g) _
  refine pp_iconst dX5_endOldDoubts_0 ci_0 (q := 1) rfl ?_
  refine pp_istore_n dX5_endOldDoubts_1 (by decide) (ls1_2 (nl1 rfl)) (q := 2) rfl ?_
  exact l_eod hmb 65 0 g A (by omega) (by omega) hA hd
def meDbt (M : Me) : Me := if ¬ M.1 7 < 0 ∧ M.1 7 < nI 64 ∧ M.2.2 31 (M.1 7).toNatClampNeg = nI 1 then meEn (meSI M 7 (-1)) (M.1 7).toNatClampNeg (nI 2) (M.2.2 32 (M.1 7).toNatClampNeg) (-1) else meSI M 7 (-1)
theorem meDbt_1 {M : Me} : (meDbt M).1 = (meSI M 7 (-1)).1 ∧ (meDbt M).2.1 = M.2.1 ∧ (meDbt M).2.2 36 = M.2.2 36 := by
  unfold meDbt
  split <;> exact ⟨rfl, rfl, rfl⟩
theorem RW_sI {g : Sg} {w m k : Nat} {A : AW} {x : Int32} (hA : RW g w A) (hmb : m < 64) (hd : mdA A m) (hk : k ≠ 14 ∧ k ≠ 1) : RW (sI g (30, w, m) k x) w (aSet A m (meSI (A.1 m) k x)) := by
  refine RW_mem hA (EqX.rf.sI ⟨rfl, rfl, by show 30 ≤ 30; omega, by show 30 ≤ 36; omega⟩) (RM_sI (hA.m hmb hd) hk.1) ?_
  show upd (A.1 m).1 k x 1 = nI 1
  unfold upd
  rw [if_neg (Ne.symm hk.2)]
  exact hd
theorem sI_w {g : Sg} {w m k : Nat} {x : Int32} : EqX (wS w) g (sI g (30, w, m) k x) := EqX.rf.sI (wS_of (by decide) (by decide))
theorem aSet_aSet {A : AW} {m : Nat} {M M' : Me} : aSet (aSet A m M) m M' = aSet A m M' := by
  unfold aSet
  congr 1
  funext m'
  dsimp only
  split <;> rfl
theorem aSet_self {A : AW} {m : Nat} : aSet A m (A.1 m) = A := by
  unfold aSet
  have : (fun m' => if m' = m then A.1 m else A.1 m') = A.1 := by funext m'; split <;> simp_all
  rw [this]
set_option maxRecDepth 20000 in
set_option maxHeartbeats 4000000 in
theorem c_dbt_in {ad : Nm → Nat} {g : Sg} {w m b : Nat} {A : AW} (hA : RW g w A) (hmb : m < 64) (hd : mdA A m) (hb : b < 64) (hb7 : (A.1 m).1 7 = nI b) : PS mX5_doubtUnanswered 0 (ent mX5_doubtUnanswered [.ref (ad (10, w, 0)), .ref (ad (30, w, m))]) [] ad g (Rv (fun g' => RW g' w (aSet A m (meDbt (A.1 m))) ∧ EqX (wS w) g g')) := by
  have hM := hA.m hmb hd
  show PP mX5_doubtUnanswered 0 [some (.ref (ad (10, w, 0))), some (.ref (ad (30, w, m))), none] [] (Rel ad g) _
  refine pp_aload_n dX5_doubtUnanswered_0 rfl isRf_r (q := 1) rfl ?_
  refine ps_get dX5_doubtUnanswered_1 fl_X5_216 (by first | exact hM4.1 | exact hM3.1 | exact hM2.1 | exact hM1.1 | exact hM.1) rfl rfl (q := 4) rfl ?_
  rw [hM.sc sl7, hb7]
  refine pp_istore_n dX5_doubtUnanswered_4 (by decide) (ls1_2 (nl1 rfl)) (q := 5) rfl ?_
  refine pp_aload_n dX5_doubtUnanswered_5 rfl isRf_r (q := 6) rfl ?_
  refine pp_iconst dX5_doubtUnanswered_6 ci_m1 (q := 7) rfl ?_
  refine ps_puti dX5_doubtUnanswered_7 fl_X5_216 (by first | exact hM4.1 | exact hM3.1 | exact hM2.1 | exact hM1.1 | exact hM.1) rfl (by exact Nat.le_of_ble_eq_true rfl) rfl rfl rfl (q := 10) rfl ?_
  have hA1 := RW_sI (k := 7) (x := -1) hA hmb hd (by decide)
  have hd1 : mdA (aSet A m (meSI (A.1 m) 7 (-1))) m := by unfold mdA; rw [aSet_m]; exact hd
  have hM1 := hA1.m hmb hd1
  rw [aSet_m] at hM1
  have e31 : gA (sI g (30, w, m) 7 (-1)) (31, w, m) = (A.1 m).2.2 31 := hM1.ar (k := 31) (by omega) (by omega)
  have e32 : gA (sI g (30, w, m) 7 (-1)) (32, w, m) = (A.1 m).2.2 32 := hM1.ar (k := 32) (by omega) (by omega)
  refine pp_iload_n dX5_doubtUnanswered_10 rfl (q := 11) rfl ?_
  refine ps_callNi dX5_doubtUnanswered_11 lk_X5_69 (by rfl) (c_isMem hb) (by rfl) (by exact Nat.le_of_ble_eq_true rfl) (by decide) (by decide) (by exact Nat.le_of_ble_eq_true rfl) (q := 14) rfl (fun r11 g11 h11 => ?_)
  obtain ⟨rfl, rfl⟩ := And.intro h11.1.symm h11.2.symm
  refine pp_if_eq (tgt := 39) dX5_doubtUnanswered_14 (by decide) (q := 17) rfl (fun c14 => absurd c14 nI1_ne) (fun c14 => ?_)
  refine pp_aload_n dX5_doubtUnanswered_17 rfl isRf_r (q := 18) rfl ?_
  refine ps_get dX5_doubtUnanswered_18 fl_X5_222 (by first | exact hM4.1 | exact hM3.1 | exact hM2.1 | exact hM1.1 | exact hM.1) rfl rfl (q := 21) rfl ?_
  refine pp_iload_n dX5_doubtUnanswered_21 rfl (q := 22) rfl ?_
  refine ps_iald dX5_doubtUnanswered_22 (by first | exact hM4.1 | exact hM3.1 | exact hM2.1 | exact hM1.1 | exact hM.1) rfl rfl (by omega) (by decide) (q := 23) rfl ?_
  rw [e31]
  refine pp_iconst dX5_doubtUnanswered_23 ci_1 (q := 24) rfl ?_
  refine pp_icmp_ne (tgt := 39) dX5_doubtUnanswered_24 (by decide) (q := 27) rfl (fun c24 => ?_) (fun c24 => ?_)
  · refine rv_ret dX5_doubtUnanswered_39 rfl ?_
    first
      | (refine ⟨?_, sI_w⟩; unfold meDbt; rw [hb7, nI_clamp (by omega), if_neg (fun q => c24 q.2.2)]; exact hA1)
      | (refine ⟨?_, sI_w.tr (hE2.mono m_w)⟩; unfold meDbt; rw [hb7, nI_clamp (by omega), if_pos ⟨nI_pos (by omega), nI_lt hb (by decide), c24⟩]; exact hA2)
  · refine pp_aload_n dX5_doubtUnanswered_27 rfl isRf_r (q := 28) rfl ?_
    refine pp_iload_n dX5_doubtUnanswered_28 rfl (q := 29) rfl ?_
    refine pp_iconst dX5_doubtUnanswered_29 ci_2 (q := 30) rfl ?_
    refine pp_aload_n dX5_doubtUnanswered_30 rfl isRf_r (q := 31) rfl ?_
    refine ps_get dX5_doubtUnanswered_31 fl_X5_231 (by first | exact hM4.1 | exact hM3.1 | exact hM2.1 | exact hM1.1 | exact hM.1) rfl rfl (q := 34) rfl ?_
    refine pp_iload_n dX5_doubtUnanswered_34 rfl (q := 35) rfl ?_
    refine ps_iald dX5_doubtUnanswered_35 (by first | exact hM4.1 | exact hM3.1 | exact hM2.1 | exact hM1.1 | exact hM.1) rfl rfl (by omega) (by decide) (q := 36) rfl ?_
    rw [e32]
    refine ps_callVv dX5_doubtUnanswered_36 lk_X5_187 (by exact (by first | exact hM4.1 | exact hM3.1 | exact hM2.1 | exact hM1.1 | exact hM.1)) (by rfl) (by rfl) (by rfl) (c_sayA hA1 hmb hd1 hb) (by rfl) (by exact Nat.le_of_ble_eq_true rfl) (by decide) (by decide) (by exact Nat.le_of_ble_eq_true rfl) (q := 39) rfl (fun g36 h36 => ?_)
    obtain ⟨hA2, hE2⟩ := h36
    rw [aSet_aSet, aSet_m] at hA2
    refine rv_ret dX5_doubtUnanswered_39 rfl ?_
    first
      | (refine ⟨?_, sI_w⟩; unfold meDbt; rw [hb7, nI_clamp (by omega), if_neg (fun q => c24 q.2.2)]; exact hA1)
      | (refine ⟨?_, sI_w.tr (hE2.mono m_w)⟩; unfold meDbt; rw [hb7, nI_clamp (by omega), if_pos ⟨nI_pos (by omega), nI_lt hb (by decide), c24⟩]; exact hA2)
set_option maxRecDepth 20000 in
set_option maxHeartbeats 4000000 in
theorem c_dbt_out {ad : Nm → Nat} {g : Sg} {w m : Nat} {A : AW} (hA : RW g w A) (hmb : m < 64) (hd : mdA A m) (hb : (A.1 m).1 7 < 0 ∨ nI 64 ≤ (A.1 m).1 7) : PS mX5_doubtUnanswered 0 (ent mX5_doubtUnanswered [.ref (ad (10, w, 0)), .ref (ad (30, w, m))]) [] ad g (Rv (fun g' => RW g' w (aSet A m (meDbt (A.1 m))) ∧ EqX (wS w) g g')) := by
  have hM := hA.m hmb hd
  show PP mX5_doubtUnanswered 0 [some (.ref (ad (10, w, 0))), some (.ref (ad (30, w, m))), none] [] (Rel ad g) _
  refine pp_aload_n dX5_doubtUnanswered_0 rfl isRf_r (q := 1) rfl ?_
  refine ps_get dX5_doubtUnanswered_1 fl_X5_216 (by first | exact hM4.1 | exact hM3.1 | exact hM2.1 | exact hM1.1 | exact hM.1) rfl rfl (q := 4) rfl ?_
  rw [hM.sc sl7]
  refine pp_istore_n dX5_doubtUnanswered_4 (by decide) (ls1_2 (nl1 rfl)) (q := 5) rfl ?_
  refine pp_aload_n dX5_doubtUnanswered_5 rfl isRf_r (q := 6) rfl ?_
  refine pp_iconst dX5_doubtUnanswered_6 ci_m1 (q := 7) rfl ?_
  refine ps_puti dX5_doubtUnanswered_7 fl_X5_216 (by first | exact hM4.1 | exact hM3.1 | exact hM2.1 | exact hM1.1 | exact hM.1) rfl (by exact Nat.le_of_ble_eq_true rfl) rfl rfl rfl (q := 10) rfl ?_
  have hA1 := RW_sI (k := 7) (x := -1) hA hmb hd (by decide)
  have hd1 : mdA (aSet A m (meSI (A.1 m) 7 (-1))) m := by unfold mdA; rw [aSet_m]; exact hd
  have hM1 := hA1.m hmb hd1
  rw [aSet_m] at hM1
  have e31 : gA (sI g (30, w, m) 7 (-1)) (31, w, m) = (A.1 m).2.2 31 := hM1.ar (k := 31) (by omega) (by omega)
  have e32 : gA (sI g (30, w, m) 7 (-1)) (32, w, m) = (A.1 m).2.2 32 := hM1.ar (k := 32) (by omega) (by omega)
  refine pp_iload_n dX5_doubtUnanswered_10 rfl (q := 11) rfl ?_
  refine ps_callNi dX5_doubtUnanswered_11 lk_X5_69 (by rfl) (c_isMem_out hb) (by rfl) (by exact Nat.le_of_ble_eq_true rfl) (by decide) (by decide) (by exact Nat.le_of_ble_eq_true rfl) (q := 14) rfl (fun r11 g11 h11 => ?_)
  obtain ⟨rfl, rfl⟩ := And.intro h11.1.symm h11.2.symm
  refine pp_if_eq (tgt := 39) dX5_doubtUnanswered_14 (by decide) (q := 17) rfl (fun c14 => ?_) (fun c14 => absurd rfl c14)
  refine rv_ret dX5_doubtUnanswered_39 rfl ?_
  refine ⟨?_, sI_w⟩
  unfold meDbt
  rw [if_neg (fun q => hb.elim q.1 (fun h => absurd q.2.1 (Int32.not_lt.mpr h)))]
  exact hA1
theorem c_dbt {ad : Nm → Nat} {g : Sg} {w m : Nat} {A : AW} (hA : RW g w A) (hmb : m < 64) (hd : mdA A m) : PS mX5_doubtUnanswered 0 (ent mX5_doubtUnanswered [.ref (ad (10, w, 0)), .ref (ad (30, w, m))]) [] ad g (Rv (fun g' => RW g' w (aSet A m (meDbt (A.1 m))) ∧ EqX (wS w) g g')) := by
  rcases mem_cases ((A.1 m).1 7) with ⟨b, hb, he⟩ | h
  · exact c_dbt_in hA hmb hd hb he
  · exact c_dbt_out hA hmb hd h
set_option maxRecDepth 20000 in
set_option maxHeartbeats 4000000 in
theorem c_fallDown {ad : Nm → Nat} {g : Sg} {w m : Nat} {A : AW} (hA : RW g w A) (hmb : m < 64) (hd : mdA A m) : PS mX5_fallDown 0 (ent mX5_fallDown [.ref (ad (10, w, 0)), .ref (ad (30, w, m))]) [] ad g (Ri (fun v g' => v = (meFgt m (meSI (A.1 m) 2 (nI 1))).1 4 ∧ RW g' w (aSet A m (meFgt m (meSI (A.1 m) 2 (nI 1)))) ∧ EqX (wS w) g g')) := by
  have hM := hA.m hmb hd
  show PP mX5_fallDown 0 [some (.ref (ad (10, w, 0))), some (.ref (ad (30, w, m)))] [] (Rel ad g) _
  refine pp_aload_n dX5_fallDown_0 rfl isRf_r (q := 1) rfl ?_
  refine pp_iconst dX5_fallDown_1 ci_1 (q := 2) rfl ?_
  refine ps_puti dX5_fallDown_2 fl_X5_80 (by first | exact hM4.1 | exact hM3.1 | exact hM2.1 | exact hM1.1 | exact hM.1) rfl (by exact Nat.le_of_ble_eq_true rfl) rfl rfl rfl (q := 5) rfl ?_
  have hA1 := RW_sI (k := 2) (x := nI 1) hA hmb hd (by decide)
  have hd1 : mdA (aSet A m (meSI (A.1 m) 2 (nI 1))) m := by unfold mdA; rw [aSet_m]; exact hd
  have hM1 := hA1.m hmb hd1
  rw [aSet_m] at hM1
  refine pp_aload_n dX5_fallDown_5 rfl isRf_r (q := 6) rfl ?_
  refine ps_callVv dX5_fallDown_6 lk_X5_197 (by exact (by first | exact hM4.1 | exact hM3.1 | exact hM2.1 | exact hM1.1 | exact hM.1)) (by rfl) (by rfl) (by rfl) (c_forgetAll hM1.1 hmb) (by rfl) (by exact Nat.le_of_ble_eq_true rfl) (by decide) (by decide) (by exact Nat.le_of_ble_eq_true rfl) (q := 9) rfl (fun g6 h6 => ?_)
  have hz := hM1.2.2.2.2.2
  have hM2 := faG_RM hmb hM1.1 hM1.2.1 hM1.2.2.1 (fun k j a b hj => by rw [hM1.ar a b]; exact hz k j a b hj)
  have hE2 := faG_eqx (g := sI g (30, w, m) 2 (nI 1)) (w := w) (m := m)
  have hA2 := RW_mem hA1 hE2 hM2 hd
  rw [aSet_aSet] at hA2
  rw [← h6] at hM2 hE2 hA2
  refine pp_aload_n dX5_fallDown_9 rfl isRf_r (q := 10) rfl ?_
  refine ps_get dX5_fallDown_10 fl_X5_184 (by first | exact hM4.1 | exact hM3.1 | exact hM2.1 | exact hM1.1 | exact hM.1) rfl rfl (q := 13) rfl ?_
  refine ri_ret dX5_fallDown_13 rfl rfl ?_
  exact ⟨hM2.sc sl4, hA2, sI_w.tr (hE2.mono m_w)⟩
set_option maxRecDepth 20000 in
set_option maxHeartbeats 4000000 in
theorem c_riseUp {ad : Nm → Nat} {g : Sg} {w m : Nat} {A : AW} (hA : RW g w A) (hmb : m < 64) (hd : mdA A m) : PS mX5_riseUp 0 (ent mX5_riseUp [.ref (ad (10, w, 0)), .ref (ad (30, w, m))]) [] ad g (Ri (fun v g' => v = (meRai m ((meSI (A.1 m) 2 (nI 0)).1 4 + nI 1) (meSI (A.1 m) 2 (nI 0))).1 4 ∧ RW g' w (aSet A m (meRai m ((meSI (A.1 m) 2 (nI 0)).1 4 + nI 1) (meSI (A.1 m) 2 (nI 0)))) ∧ EqX (wS w) g g')) := by
  have hM := hA.m hmb hd
  show PP mX5_riseUp 0 [some (.ref (ad (10, w, 0))), some (.ref (ad (30, w, m)))] [] (Rel ad g) _
  refine pp_aload_n dX5_riseUp_0 rfl isRf_r (q := 1) rfl ?_
  refine pp_iconst dX5_riseUp_1 ci_0 (q := 2) rfl ?_
  refine ps_puti dX5_riseUp_2 fl_X5_80 (by first | exact hM4.1 | exact hM3.1 | exact hM2.1 | exact hM1.1 | exact hM.1) rfl (by exact Nat.le_of_ble_eq_true rfl) rfl rfl rfl (q := 5) rfl ?_
  have hA1 := RW_sI (k := 2) (x := nI 0) hA hmb hd (by decide)
  have hd1 : mdA (aSet A m (meSI (A.1 m) 2 (nI 0))) m := by unfold mdA; rw [aSet_m]; exact hd
  have hM1 := hA1.m hmb hd1
  rw [aSet_m] at hM1
  refine pp_aload_n dX5_riseUp_5 rfl isRf_r (q := 6) rfl ?_
  refine pp_aload_n dX5_riseUp_6 rfl isRf_r (q := 7) rfl ?_
  refine ps_get dX5_riseUp_7 fl_X5_184 (by first | exact hM4.1 | exact hM3.1 | exact hM2.1 | exact hM1.1 | exact hM.1) rfl rfl (q := 10) rfl ?_
  rw [hM1.sc sl4]
  refine pp_iconst dX5_riseUp_10 ci_1 (q := 11) rfl ?_
  refine pp_iadd dX5_riseUp_11 (q := 12) rfl ?_
  refine ps_callVv dX5_riseUp_12 lk_X5_200 (by exact (by first | exact hM4.1 | exact hM3.1 | exact hM2.1 | exact hM1.1 | exact hM.1)) (by rfl) (by rfl) (by rfl) (c_raiseTerm hM1.1 hmb) (by rfl) (by exact Nat.le_of_ble_eq_true rfl) (by decide) (by decide) (by exact Nat.le_of_ble_eq_true rfl) (q := 15) rfl (fun g12 h12 => ?_)
  have hM2 := RM_rai (t := (meSI (A.1 m) 2 (nI 0)).1 4 + nI 1) hM1 hmb
  have hE2 := rai_eqx (g := sI g (30, w, m) 2 (nI 0)) (w := w) (m := m) (t := (meSI (A.1 m) 2 (nI 0)).1 4 + nI 1)
  have hA2 := RW_mem hA1 hE2 hM2 hd
  rw [aSet_aSet] at hA2
  rw [← h12] at hM2 hE2 hA2
  refine pp_aload_n dX5_riseUp_15 rfl isRf_r (q := 16) rfl ?_
  refine ps_get dX5_riseUp_16 fl_X5_184 (by first | exact hM4.1 | exact hM3.1 | exact hM2.1 | exact hM1.1 | exact hM.1) rfl rfl (q := 19) rfl ?_
  refine ri_ret dX5_riseUp_19 rfl rfl ?_
  exact ⟨hM2.sc sl4, hA2, sI_w.tr (hE2.mono m_w)⟩
