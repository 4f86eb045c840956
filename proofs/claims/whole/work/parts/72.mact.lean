theorem wyM {A : AW} {n v : Nat} {a b : Int32} (hv : v = 3 ∨ v = 4 ∨ v = 5 ∨ v = 6) (h : whyA A n v a b = nI 0) : (∃ m, m < 64 ∧ a = nI m ∧ mdA A m) ∧ bL (aB A) ≤ 1196 ∧ bP (aB A) ≤ 19800 := by
  have q := whyA_0 h
  rcases hv with rfl | rfl | rfl | rfl <;> exact ⟨Classical.not_not.mp (show ¬ ¬ mdX A a from q.2.1), q.2.2.2.2.1⟩
theorem m_to0w {ad : Nm → Nat} {g : Sg} {A : AW} {n m : Nat} {o : Prop} {v w : Int32} (h : RS g A n o) (hm : m < 64) (hd : mdA A m) (e : w = v + nI 1) : PS mX7_to 0 (ent mX7_to [.ref (ad (40, 0, 0)), .int (nI m), .int (nI 0), .int w]) [] ad g (Rv (fun g' => RS g' (aSet A m (meSI (A.1 m) 2 v)) n o ∧ EqM g g')) := by
  subst e
  exact m_to0 h hm hd
theorem m_gq {ad : Nm → Nat} {g : Sg} {A : AW} {n m : Nat} {o : Prop} (h : RS g A n o) (hm : m < 64) (hd : mdA A m) : PS mX7_goesQuiet 0 (ent mX7_goesQuiet [.ref (ad (40, 0, 0)), .int (nI m)]) [] ad g (Rv (fun g' => RS g' (aSet A m (meStop (A.1 m))) n o ∧ EqM g g')) := by
  refine (m_goesQuiet h.1 hm).weak (fun v G hG => ?_)
  obtain ⟨g', h1, h2, h3⟩ := hG
  subst h3
  exact ⟨_, h1, h2, h.set hm (fun i hi => by
    rw [upd_ne (fun q => hi (by unfold ownI; omega)), upd_ne (fun q => hi (by unfold ownI; omega)), upd_ne (fun q => hi (by unfold ownI; omega)), upd_ne (fun q => hi (by unfold ownI; omega))]) (RFo_t6 (RFo_t5 (RFo_t4 (RFo_t3 (h.2.o hm hd) hm) hm) hm) hm) hd⟩
theorem m_ter {ad : Nm → Nat} {g : Sg} {A : AW} {n m : Nat} {o : Prop} (h : RS g A n o) (hm : m < 64) (hd : mdA A m) : PS mX7_of 0 (ent mX7_of [.ref (ad (40, 0, 0)), .int (nI m), .int (nI 1)]) [] ad g (Ri (fun v g' => v = (A.1 m).1 4 ∧ g' = g)) := by
  refine (m_of h.1 hm (by omega)).weak (fun v G hG => ?_)
  obtain ⟨g', h1, r, h2, h3, h4⟩ := hG
  exact ⟨g', h1, r, h2, h3.trans (h.2.o hm hd).1.2.1, h4⟩
theorem md_set {A : AW} {m : Nat} {M : Me} (h : M.1 1 = nI 1) : mdA (aSet A m M) m := by unfold mdA; rw [aSet_m]; exact h
theorem snd6_stop {A : AW} {m : Nat} {to ab : Int32} : sndA (aSet A m (meStop (A.1 m))) m (nI 6) to ab = aSet (sndA A m (nI 6) to ab) m (meStop ((sndA A m (nI 6) to ab).1 m)) := by
  have e0 : isFl (nI 6) = true := by decide
  have e1 : (sndA A m (nI 6) to ab).1 = A.1 := by
    unfold sndA
    rw [e0, fold_t]
    rfl
  have e2 : pkL (aSet A m (meStop (A.1 m))) m true = pkL A m true := by
    unfold pkL
    rw [aSet_m, show (meStop (A.1 m)).2.2 = (A.1 m).2.2 from rfl]
  rw [e1]
  unfold sndA
  rw [e0, e2]
  exact fold_set _ (aBk A (opB (aB A) (nI 6) (nI m) to ab (-1))) (fun k _ => rfl)
theorem sj_stop {M : Me} {x : Int64} : meSJ (meStop M) x = meStop (meSJ M x) := by unfold meSJ; rfl
theorem sdR_s {m c : Nat} {kind ab : Int32} {l : List Nat} {A : AW} : sdR m kind ab (c + 1) l A = if l.length = 0 then (A, 0) else ((sdR m kind ab c (l.eraseIdx (drN (stir (A.1 m).2.1) l.length)) (sndA (aSet A m (meSJ (A.1 m) (stir (A.1 m).2.1))) m kind (nI (l.getD (drN (stir (A.1 m).2.1) l.length) 0)) ab)).1, (sdR m kind ab c (l.eraseIdx (drN (stir (A.1 m).2.1) l.length)) (sndA (aSet A m (meSJ (A.1 m) (stir (A.1 m).2.1))) m kind (nI (l.getD (drN (stir (A.1 m).2.1) l.length) 0)) ab)).2 + 1) := rfl
theorem sdR_stop {m : Nat} {ab : Int32} : ∀ (c : Nat) (l : List Nat) (A : AW), sdR m (nI 6) ab c l (aSet A m (meStop (A.1 m))) = (aSet (sdR m (nI 6) ab c l A).1 m (meStop ((sdR m (nI 6) ab c l A).1.1 m)), (sdR m (nI 6) ab c l A).2)
  | 0, l, A => rfl
  | c + 1, l, A => by
    rw [sdR_s, sdR_s]
    by_cases h : l.length = 0
    · rw [if_pos h, if_pos h]
    · rw [if_neg h, if_neg h]
      have hs : ((aSet A m (meStop (A.1 m))).1 m).2.1 = (A.1 m).2.1 := by rw [aSet_m]; rfl
      have e : aSet (aSet A m (meStop (A.1 m))) m (meSJ ((aSet A m (meStop (A.1 m))).1 m) (stir (A.1 m).2.1)) = aSet (aSet A m (meSJ (A.1 m) (stir (A.1 m).2.1))) m (meStop ((aSet A m (meSJ (A.1 m) (stir (A.1 m).2.1))).1 m)) := by
        rw [aSet_aSet, aSet_aSet, aSet_m, aSet_m]
        rw [sj_stop]
      rw [hs, e, snd6_stop, sdR_stop c]
theorem gw_eq {A : AW} {m : Nat} : gwA A m = (aSet (sdA (aSet A m (meSI (meEn (A.1 m) m (nI 4) ((A.1 m).1 4) (-1)) 2 (nI 2))) m (nI 6) (-1)).1 m (meStop ((sdA (aSet A m (meSI (meEn (A.1 m) m (nI 4) ((A.1 m).1 4) (-1)) 2 (nI 2))) m (nI 6) (-1)).1.1 m)), nI (sdA (aSet A m (meSI (meEn (A.1 m) m (nI 4) ((A.1 m).1 4) (-1)) 2 (nI 2))) m (nI 6) (-1)).2) := by
  obtain ⟨M, hM⟩ : ∃ M, M = meSI (meEn (A.1 m) m (nI 4) ((A.1 m).1 4) (-1)) 2 (nI 2) := ⟨_, rfl⟩
  have e : gwB A m = aSet (aSet A m M) m (meStop ((aSet A m M).1 m)) := by
    rw [aSet_m, aSet_aSet, hM]
    rfl
  have e3 : sdA (gwB A m) m (nI 6) (-1) = (aSet (sdA (aSet A m M) m (nI 6) (-1)).1 m (meStop ((sdA (aSet A m M) m (nI 6) (-1)).1.1 m)), (sdA (aSet A m M) m (nI 6) (-1)).2) := by
    unfold sdA
    rw [e, ← sdR_stop]
    rw [show ((aSet (aSet A m M) m (meStop ((aSet A m M).1 m))).1 m).2.2 31 = ((aSet A m M).1 m).2.2 31 from by rw [aSet_m]; rfl]
  rw [← hM]
  unfold gwA
  rw [e3]
set_option maxRecDepth 20000 in
set_option maxHeartbeats 4000000 in
theorem m_turn {ad : Nm → Nat} {g : Sg} {S : CS} {a : Int32} (hR : RR g S) (hH : okH (sH S)) : PS mX7_turn 0 (ent mX7_turn [.ref (ad (40, 0, 0)), .int a]) [] ad g (MdQ g (spAct 4 a (nI 0) (lN 0) S)) := by
  have h := hR.1
  have hI := inv_run hH
  have hn := okH_len hH
  show PP mX7_turn 0 [some (.ref (ad (40, 0, 0))), some (.int a), none] [] (Rel ad g) _
  refine pp_aload_n dX7_turn_0 rfl isRf_r (q := 1) rfl ?_
  refine pp_iload_n dX7_turn_1 rfl (q := 2) rfl ?_
  refine pp_iconst dX7_turn_2 ci_1 (q := 3) rfl ?_
  refine ps_callVi dX7_turn_3 lk_X7_141 (by exact (by first | exact h1.1 | exact h.1)) (by rfl) (by rfl) (by rfl) (m_why1 (b := nI 0) h hI (by omega)) (by rfl) (by exact Nat.le_of_ble_eq_true rfl) (by decide) (by decide) (by exact Nat.le_of_ble_eq_true rfl) (q := 6) rfl (fun r3 g3 h3 => ?_)
  obtain ⟨rfl, rfl⟩ := And.intro h3.1.symm h3.2.symm
  refine pp_istore_n dX7_turn_6 (by decide) (ls1_2 (nl1 rfl)) (q := 7) rfl ?_
  refine pp_iload_n dX7_turn_7 rfl (q := 8) rfl ?_
  refine pp_if_eq (tgt := 19) dX7_turn_8 (by decide) (q := 11) rfl (fun c8 => ?_) (fun c8 => ?_)
  · have hw : whyA (runA (sH S)) (sH S).length 4 a (nI 0) = nI 0 := c8
    obtain ⟨⟨m, hm, rfl, hd⟩, hlb, hpb⟩ := wyM (by omega) hw
    have es : stA (runA (sH S)) 4 (nI m) (nI 0) (lN 0) = ttA (runA (sH S)) m := by
      show ttA (runA (sH S)) (cl (nI m)) = _
      rw [cl_nI (by omega)]
    refine pp_aload_n dX7_turn_19 rfl isRf_r (q := 20) rfl ?_
    refine pp_aload_n dX7_turn_20 rfl isRf_r (q := 21) rfl ?_
    refine pp_iload_n dX7_turn_21 rfl (q := 22) rfl ?_
    refine ps_callVi dX7_turn_22 lk_X7_144 (by exact (by first | exact h1.1 | exact h.1)) (by rfl) (by rfl) (by rfl) (m_turn0 h hI hm hd hlb hpb) (by rfl) (by exact Nat.le_of_ble_eq_true rfl) (by decide) (by decide) (by exact Nat.le_of_ble_eq_true rfl) (q := 25) rfl (fun r22 g22 h22 => ?_)
    obtain ⟨rfl, h1, hE1⟩ := h22
    refine ps_callVi dX7_turn_25 lk_X7_138 (by exact (by first | exact h1.1 | exact h.1)) (by rfl) (by rfl) (by rfl) (m_dd (m := 0) h1) (by rfl) (by exact Nat.le_of_ble_eq_true rfl) (by decide) (by decide) (by exact Nat.le_of_ble_eq_true rfl) (q := 28) rfl (fun r25 g25 h25 => ?_)
    obtain ⟨rfl, hZ, hEZ⟩ := h25
    refine ri_ret dX7_turn_28 rfl rfl ?_
    first | exact mq_no hR hk (sp_no (show whyA (runA (sH S)) (sH S).length 4 a (nI 0) = - nI k from ek) hk.1) | (have q := mq_ok (v := 4) (a := nI m) (b := nI 0) (sd := lN 0) hR (by omega) hw (hE1.tr hEZ) (by rw [es]; exact hZ); rw [es] at q; exact q)
  · obtain ⟨k, hk, ek⟩ := whyA_k (fun q => c8 q)
    rw [ek]
    refine pp_aload_n dX7_turn_11 rfl isRf_r (q := 12) rfl ?_
    refine pp_iload_n dX7_turn_12 rfl (q := 13) rfl ?_
    refine ps_callVi dX7_turn_13 lk_X7_132 (by exact (by first | exact h1.1 | exact h.1)) (by rfl) (by rfl) (by rfl) (m_no h.1 hk.1) (by rfl) (by exact Nat.le_of_ble_eq_true rfl) (by decide) (by decide) (by exact Nat.le_of_ble_eq_true rfl) (q := 16) rfl (fun r13 g13 h13 => ?_)
    obtain ⟨rfl, rfl⟩ := And.intro h13.1.symm h13.2.symm
    refine pp_goto (tgt := 28) dX7_turn_16 (by decide) ?_
    refine ri_ret dX7_turn_28 rfl rfl ?_
    first | exact mq_no hR hk (sp_no (show whyA (runA (sH S)) (sH S).length 4 a (nI 0) = - nI k from ek) hk.1) | (have q := mq_ok (v := 4) (a := nI m) (b := nI 0) (sd := lN 0) hR (by omega) hw (hE1.tr hEZ) (by rw [es]; exact hZ); rw [es] at q; exact q)
set_option maxRecDepth 20000 in
set_option maxHeartbeats 4000000 in
theorem m_leave {ad : Nm → Nat} {g : Sg} {S : CS} {a : Int32} (hR : RR g S) (hH : okH (sH S)) : PS mX7_leave 0 (ent mX7_leave [.ref (ad (40, 0, 0)), .int a]) [] ad g (MdQ g (spAct 3 a (nI 0) (lN 0) S)) := by
  have h := hR.1
  have hI := inv_run hH
  have hn := okH_len hH
  show PP mX7_leave 0 [some (.ref (ad (40, 0, 0))), some (.int a), none, none] [] (Rel ad g) _
  refine pp_aload_n dX7_leave_0 rfl isRf_r (q := 1) rfl ?_
  refine pp_iload_n dX7_leave_1 rfl (q := 2) rfl ?_
  refine pp_iconst dX7_leave_2 ci_1 (q := 3) rfl ?_
  refine ps_callVi dX7_leave_3 lk_X7_141 (by exact (by first | exact h4.1 | exact h3.1 | exact h2.1 | exact h1.1 | exact h.1)) (by rfl) (by rfl) (by rfl) (m_why1 (b := nI 0) h hI (by omega)) (by rfl) (by exact Nat.le_of_ble_eq_true rfl) (by decide) (by decide) (by exact Nat.le_of_ble_eq_true rfl) (q := 6) rfl (fun r3 g3 h3 => ?_)
  obtain ⟨rfl, rfl⟩ := And.intro h3.1.symm h3.2.symm
  refine pp_istore_n dX7_leave_6 (by decide) (ls1_2 (nl1 rfl)) (q := 7) rfl ?_
  refine pp_iload_n dX7_leave_7 rfl (q := 8) rfl ?_
  refine pp_if_eq (tgt := 17) dX7_leave_8 (by decide) (q := 11) rfl (fun c8 => ?_) (fun c8 => ?_)
  · have hw : whyA (runA (sH S)) (sH S).length 3 a (nI 0) = nI 0 := c8
    obtain ⟨⟨m, hm, rfl, hd⟩, hlb, hpb⟩ := wyM (by omega) hw
    have es : stA (runA (sH S)) 3 (nI m) (nI 0) (lN 0) = gwA (runA (sH S)) m := by
      show gwA (runA (sH S)) (cl (nI m)) = _
      rw [cl_nI (by omega)]
    refine pp_aload_n dX7_leave_17 rfl isRf_r (q := 18) rfl ?_
    refine pp_iload_n dX7_leave_18 rfl (q := 19) rfl ?_
    refine pp_iload_n dX7_leave_19 rfl (q := 20) rfl ?_
    refine pp_iconst dX7_leave_20 ci_4 (q := 21) rfl ?_
    refine pp_aload_n dX7_leave_21 rfl isRf_r (q := 22) rfl ?_
    refine pp_iload_n dX7_leave_22 rfl (q := 23) rfl ?_
    refine pp_iconst dX7_leave_23 ci_1 (q := 24) rfl ?_
    refine ps_callVi dX7_leave_24 lk_X7_48 (by exact (by first | exact h4.1 | exact h3.1 | exact h2.1 | exact h1.1 | exact h.1)) (by rfl) (by rfl) (by rfl) (m_ter h hm hd) (by rfl) (by exact Nat.le_of_ble_eq_true rfl) (by decide) (by decide) (by exact Nat.le_of_ble_eq_true rfl) (q := 27) rfl (fun r24 g24 h24 => ?_)
    obtain ⟨rfl, rfl⟩ := And.intro h24.1.symm h24.2.symm
    refine pp_iconst dX7_leave_27 ci_m1 (q := 28) rfl ?_
    refine ps_callVv dX7_leave_28 lk_X7_67 (by exact (by first | exact h4.1 | exact h3.1 | exact h2.1 | exact h1.1 | exact h.1)) (by rfl) (by rfl) (by rfl) (m_wr h hm hm hd) (by rfl) (by exact Nat.le_of_ble_eq_true rfl) (by decide) (by decide) (by exact Nat.le_of_ble_eq_true rfl) (q := 31) rfl (fun g28 h28 => ?_)
    obtain ⟨h1, hE1⟩ := h28
    refine pp_aload_n dX7_leave_31 rfl isRf_r (q := 32) rfl ?_
    refine pp_iload_n dX7_leave_32 rfl (q := 33) rfl ?_
    refine pp_iconst dX7_leave_33 ci_0 (q := 34) rfl ?_
    refine pp_iconst dX7_leave_34 ci_3 (q := 35) rfl ?_
    refine ps_callVv dX7_leave_35 lk_X7_63 (by exact (by first | exact h4.1 | exact h3.1 | exact h2.1 | exact h1.1 | exact h.1)) (by rfl) (by rfl) (by rfl) (m_to0w (v := nI 2) h1 hm (md_set hd) (by decide)) (by rfl) (by exact Nat.le_of_ble_eq_true rfl) (by decide) (by decide) (by exact Nat.le_of_ble_eq_true rfl) (q := 38) rfl (fun g35 h35 => ?_)
    obtain ⟨h2, hE2⟩ := h35
    rw [aSet_m, aSet_aSet] at h2
    have hM := hI.m hm hd
    have hMe := okMm_en (x := m) (kind := nI 4) hM ⟨4, by omega, by omega, rfl⟩ hM.2.1 (Or.inl rfl)
    have hM2 : okMm ((sH S).length + 1) (aB (runA (sH S))) m (meSI (meEn ((runA (sH S)).1 m) m (nI 4) (((runA (sH S)).1 m).1 4) (-1)) 2 (nI 2)) := by
      obtain ⟨a1, a2, a3, a4, a5, a6⟩ := hMe
      exact ⟨⟨2, by omega, rfl⟩, a2, a3, a4, wfR_cg a5 rfl rfl rfl, a6⟩
    have hI2 : INV ((sH S).length + 1) ((sH S).length + 1) (aSet (runA (sH S)) m (meSI (meEn ((runA (sH S)).1 m) m (nI 4) (((runA (sH S)).1 m).1 4) (-1)) 2 (nI 2))) := hI.set hd hM2 hd
    have hd2 : mdA (aSet (runA (sH S)) m (meSI (meEn ((runA (sH S)).1 m) m (nI 4) (((runA (sH S)).1 m).1 4) (-1)) 2 (nI 2))) m := md_set hd
    refine pp_aload_n dX7_leave_38 rfl isRf_r (q := 39) rfl ?_
    refine pp_iload_n dX7_leave_39 rfl (q := 40) rfl ?_
    refine pp_iconst dX7_leave_40 ci_m1 (q := 41) rfl ?_
    refine pp_bipush dX7_leave_41 cb_6 (q := 43) rfl ?_
    refine pp_iconst dX7_leave_43 ci_m1 (q := 44) rfl ?_
    refine ps_callVi dX7_leave_44 lk_X7_115 (by exact (by first | exact h4.1 | exact h3.1 | exact h2.1 | exact h1.1 | exact h.1)) (by rfl) (by rfl) (by rfl) (m_s3 h2 hI2 hm hd2 isN_m1 (fun q => absurd q (by decide)) (by show bL (aB (runA (sH S))) + 3 ≤ 1200; omega) (by show bP (aB (runA (sH S))) + 192 ≤ 20000; omega)) (by rfl) (by exact Nat.le_of_ble_eq_true rfl) (by decide) (by decide) (by exact Nat.le_of_ble_eq_true rfl) (q := 47) rfl (fun r44 g44 h44 => ?_)
    obtain ⟨rfl, h3, hE3⟩ := h44
    have hd3 : mdA (sdA (aSet (runA (sH S)) m (meSI (meEn ((runA (sH S)).1 m) m (nI 4) (((runA (sH S)).1 m).1 4) (-1)) 2 (nI 2))) m (nI 6) (-1)).1 m := by unfold mdA; rw [sdA_k.1]; exact hd2
    refine pp_istore_n dX7_leave_47 (by decide) (ls1_3 (nl1 rfl)) (q := 48) rfl ?_
    refine pp_aload_n dX7_leave_48 rfl isRf_r (q := 49) rfl ?_
    refine pp_iload_n dX7_leave_49 rfl (q := 50) rfl ?_
    refine ps_callVv dX7_leave_50 lk_X7_135 (by exact (by first | exact h4.1 | exact h3.1 | exact h2.1 | exact h1.1 | exact h.1)) (by rfl) (by rfl) (by rfl) (m_gq h3 hm hd3) (by rfl) (by exact Nat.le_of_ble_eq_true rfl) (by decide) (by decide) (by exact Nat.le_of_ble_eq_true rfl) (q := 53) rfl (fun g50 h50 => ?_)
    obtain ⟨h4, hE4⟩ := h50
    refine pp_aload_n dX7_leave_53 rfl isRf_r (q := 54) rfl ?_
    refine pp_iload_n dX7_leave_54 rfl (q := 55) rfl ?_
    refine ps_callVi dX7_leave_55 lk_X7_138 (by exact (by first | exact h4.1 | exact h3.1 | exact h2.1 | exact h1.1 | exact h.1)) (by rfl) (by rfl) (by rfl) (m_dd (m := 0) h4) (by rfl) (by exact Nat.le_of_ble_eq_true rfl) (by decide) (by decide) (by exact Nat.le_of_ble_eq_true rfl) (q := 58) rfl (fun r55 g55 h55 => ?_)
    obtain ⟨rfl, hZ, hEZ⟩ := h55
    refine ri_ret dX7_leave_58 rfl rfl ?_
    have hE := (((hE1.tr hE2).tr hE3).tr hE4).tr hEZ
    rw [gw_eq] at es
    have q := mq_ok (v := 3) (a := nI m) (b := nI 0) (sd := lN 0) hR (by omega) hw (hE) (by rw [es]; exact hZ)
    rw [es] at q
    exact q
  · obtain ⟨k, hk, ek⟩ := whyA_k (fun q => c8 q)
    rw [ek]
    refine pp_aload_n dX7_leave_11 rfl isRf_r (q := 12) rfl ?_
    refine pp_iload_n dX7_leave_12 rfl (q := 13) rfl ?_
    refine ps_callVi dX7_leave_13 lk_X7_132 (by exact (by first | exact h4.1 | exact h3.1 | exact h2.1 | exact h1.1 | exact h.1)) (by rfl) (by rfl) (by rfl) (m_no h.1 hk.1) (by rfl) (by exact Nat.le_of_ble_eq_true rfl) (by decide) (by decide) (by exact Nat.le_of_ble_eq_true rfl) (q := 16) rfl (fun r13 g13 h13 => ?_)
    obtain ⟨rfl, rfl⟩ := And.intro h13.1.symm h13.2.symm
    refine ri_ret dX7_leave_16 rfl rfl ?_
    exact mq_no hR hk (sp_no (show whyA (runA (sH S)) (sH S).length 3 a (nI 0) = - nI k from ek) hk.1)
set_option maxRecDepth 20000 in
set_option maxHeartbeats 4000000 in
theorem m_rise {ad : Nm → Nat} {g : Sg} {S : CS} {a : Int32} (hR : RR g S) (hH : okH (sH S)) : PS mX7_rise 0 (ent mX7_rise [.ref (ad (40, 0, 0)), .int a]) [] ad g (MdQ g (spAct 6 a (nI 0) (lN 0) S)) := by
  have h := hR.1
  have hI := inv_run hH
  have hn := okH_len hH
  show PP mX7_rise 0 [some (.ref (ad (40, 0, 0))), some (.int a), none] [] (Rel ad g) _
  refine pp_aload_n dX7_rise_0 rfl isRf_r (q := 1) rfl ?_
  refine pp_iload_n dX7_rise_1 rfl (q := 2) rfl ?_
  refine pp_iconst dX7_rise_2 ci_2 (q := 3) rfl ?_
  refine ps_callVi dX7_rise_3 lk_X7_141 (by exact (by first | exact h3.1 | exact h2.1 | exact h1.1 | exact h.1)) (by rfl) (by rfl) (by rfl) (m_why2 (b := nI 0) h hI (by omega)) (by rfl) (by exact Nat.le_of_ble_eq_true rfl) (by decide) (by decide) (by exact Nat.le_of_ble_eq_true rfl) (q := 6) rfl (fun r3 g3 h3 => ?_)
  obtain ⟨rfl, rfl⟩ := And.intro h3.1.symm h3.2.symm
  refine pp_istore_n dX7_rise_6 (by decide) (ls1_2 (nl1 rfl)) (q := 7) rfl ?_
  refine pp_iload_n dX7_rise_7 rfl (q := 8) rfl ?_
  refine pp_if_eq (tgt := 17) dX7_rise_8 (by decide) (q := 11) rfl (fun c8 => ?_) (fun c8 => ?_)
  · have hw : whyA (runA (sH S)) (sH S).length 6 a (nI 0) = nI 0 := c8
    obtain ⟨⟨m, hm, rfl, hd⟩, hlb, hpb⟩ := wyM (by omega) hw
    have es : stA (runA (sH S)) 6 (nI m) (nI 0) (lN 0) = riA (runA (sH S)) m := by
      show riA (runA (sH S)) (cl (nI m)) = _
      rw [cl_nI (by omega)]
    refine pp_aload_n dX7_rise_17 rfl isRf_r (q := 18) rfl ?_
    refine pp_iload_n dX7_rise_18 rfl (q := 19) rfl ?_
    refine pp_iconst dX7_rise_19 ci_0 (q := 20) rfl ?_
    refine pp_iconst dX7_rise_20 ci_1 (q := 21) rfl ?_
    refine ps_callVv dX7_rise_21 lk_X7_63 (by exact (by first | exact h3.1 | exact h2.1 | exact h1.1 | exact h.1)) (by rfl) (by rfl) (by rfl) (m_to0w (v := nI 0) h hm hd (by decide)) (by rfl) (by exact Nat.le_of_ble_eq_true rfl) (by decide) (by decide) (by exact Nat.le_of_ble_eq_true rfl) (q := 24) rfl (fun g21 h21 => ?_)
    obtain ⟨h1, hE1⟩ := h21
    have hd1 := md_set (A := (runA (sH S))) (m := m) (M := meSI ((runA (sH S)).1 m) 2 (nI 0)) hd
    refine pp_aload_n dX7_rise_24 rfl isRf_r (q := 25) rfl ?_
    refine pp_iload_n dX7_rise_25 rfl (q := 26) rfl ?_
    refine pp_iconst dX7_rise_26 ci_1 (q := 27) rfl ?_
    refine pp_aload_n dX7_rise_27 rfl isRf_r (q := 28) rfl ?_
    refine pp_iload_n dX7_rise_28 rfl (q := 29) rfl ?_
    refine pp_iconst dX7_rise_29 ci_1 (q := 30) rfl ?_
    refine ps_callVi dX7_rise_30 lk_X7_48 (by exact (by first | exact h3.1 | exact h2.1 | exact h1.1 | exact h.1)) (by rfl) (by rfl) (by rfl) (m_ter h1 hm hd1) (by rfl) (by exact Nat.le_of_ble_eq_true rfl) (by decide) (by decide) (by exact Nat.le_of_ble_eq_true rfl) (q := 33) rfl (fun r30 g30 h30 => ?_)
    obtain ⟨rfl, rfl⟩ := And.intro h30.1.symm h30.2.symm
    refine pp_iconst dX7_rise_33 ci_1 (q := 34) rfl ?_
    refine pp_iadd dX7_rise_34 (q := 35) rfl ?_
    skip
    refine ps_callVv dX7_rise_35 lk_X7_63 (by exact (by first | exact h3.1 | exact h2.1 | exact h1.1 | exact h.1)) (by rfl) (by rfl) (by rfl) (m_to1 h1 hm hd1) (by rfl) (by exact Nat.le_of_ble_eq_true rfl) (by decide) (by decide) (by exact Nat.le_of_ble_eq_true rfl) (q := 38) rfl (fun g35 h35 => ?_)
    obtain ⟨h2, hE2⟩ := h35
    rw [aSet_m, aSet_aSet] at h2
    have hd2 := md_set (A := (runA (sH S))) (m := m) (M := meSI (meSI ((runA (sH S)).1 m) 2 (nI 0)) 4 ((meSI ((runA (sH S)).1 m) 2 (nI 0)).1 4 + nI 1)) hd
    refine pp_aload_n dX7_rise_38 rfl isRf_r (q := 39) rfl ?_
    refine pp_iload_n dX7_rise_39 rfl (q := 40) rfl ?_
    refine pp_iload_n dX7_rise_40 rfl (q := 41) rfl ?_
    refine pp_iconst dX7_rise_41 ci_1 (q := 42) rfl ?_
    refine pp_aload_n dX7_rise_42 rfl isRf_r (q := 43) rfl ?_
    refine pp_iload_n dX7_rise_43 rfl (q := 44) rfl ?_
    refine pp_iconst dX7_rise_44 ci_1 (q := 45) rfl ?_
    refine ps_callVi dX7_rise_45 lk_X7_48 (by exact (by first | exact h3.1 | exact h2.1 | exact h1.1 | exact h.1)) (by rfl) (by rfl) (by rfl) (m_ter h2 hm hd2) (by rfl) (by exact Nat.le_of_ble_eq_true rfl) (by decide) (by decide) (by exact Nat.le_of_ble_eq_true rfl) (q := 48) rfl (fun r45 g45 h45 => ?_)
    obtain ⟨rfl, rfl⟩ := And.intro h45.1.symm h45.2.symm
    refine pp_iconst dX7_rise_48 ci_m1 (q := 49) rfl ?_
    refine ps_callVv dX7_rise_49 lk_X7_67 (by exact (by first | exact h3.1 | exact h2.1 | exact h1.1 | exact h.1)) (by rfl) (by rfl) (by rfl) (m_wr h2 hm hm hd2) (by rfl) (by exact Nat.le_of_ble_eq_true rfl) (by decide) (by decide) (by exact Nat.le_of_ble_eq_true rfl) (q := 52) rfl (fun g49 h49 => ?_)
    obtain ⟨h3, hE3⟩ := h49
    rw [aSet_m, aSet_aSet, meSI_eq] at h3
    refine pp_aload_n dX7_rise_52 rfl isRf_r (q := 53) rfl ?_
    refine pp_aload_n dX7_rise_53 rfl isRf_r (q := 54) rfl ?_
    refine pp_iload_n dX7_rise_54 rfl (q := 55) rfl ?_
    refine pp_iconst dX7_rise_55 ci_1 (q := 56) rfl ?_
    refine ps_callVi dX7_rise_56 lk_X7_48 (by exact (by first | exact h3.1 | exact h2.1 | exact h1.1 | exact h.1)) (by rfl) (by rfl) (by rfl) (m_ter h3 hm (md_set hd)) (by rfl) (by exact Nat.le_of_ble_eq_true rfl) (by decide) (by decide) (by exact Nat.le_of_ble_eq_true rfl) (q := 59) rfl (fun r56 g56 h56 => ?_)
    obtain ⟨rfl, rfl⟩ := And.intro h56.1.symm h56.2.symm
    rw [aSet_m]
    refine ps_callVi dX7_rise_59 lk_X7_138 (by exact (by first | exact h3.1 | exact h2.1 | exact h1.1 | exact h.1)) (by rfl) (by rfl) (by rfl) (m_dd (m := 0) h3) (by rfl) (by exact Nat.le_of_ble_eq_true rfl) (by decide) (by decide) (by exact Nat.le_of_ble_eq_true rfl) (q := 62) rfl (fun r59 g59 h59 => ?_)
    obtain ⟨rfl, hZ, hEZ⟩ := h59
    refine ri_ret dX7_rise_62 rfl rfl ?_
    have q := mq_ok (v := 6) (a := nI m) (b := nI 0) (sd := lN 0) hR (by omega) hw (((hE1.tr hE2).tr hE3).tr hEZ) (by rw [es]; exact hZ)
    rw [es] at q
    exact q
  · obtain ⟨k, hk, ek⟩ := whyA_k (fun q => c8 q)
    rw [ek]
    refine pp_aload_n dX7_rise_11 rfl isRf_r (q := 12) rfl ?_
    refine pp_iload_n dX7_rise_12 rfl (q := 13) rfl ?_
    refine ps_callVi dX7_rise_13 lk_X7_132 (by exact (by first | exact h3.1 | exact h2.1 | exact h1.1 | exact h.1)) (by rfl) (by rfl) (by rfl) (m_no h.1 hk.1) (by rfl) (by exact Nat.le_of_ble_eq_true rfl) (by decide) (by decide) (by exact Nat.le_of_ble_eq_true rfl) (q := 16) rfl (fun r13 g13 h13 => ?_)
    obtain ⟨rfl, rfl⟩ := And.intro h13.1.symm h13.2.symm
    refine ri_ret dX7_rise_16 rfl rfl ?_
    exact mq_no hR hk (sp_no (show whyA (runA (sH S)) (sH S).length 6 a (nI 0) = - nI k from ek) hk.1)
