def meK0 (M : Me) (i : Nat) : Me := (M.1, M.2.1, fun k => if k = 31 then (fun x => if x < i then nI 0 else M.2.2 31 x) else M.2.2 k)
theorem RFo_k0 {f : Nat → Int32} {sd : Nat → Int64} {m i : Nat} {M : Me} (h : RFo f sd m (meK0 M i)) (hm : m < 64) (hi : i < 64) : RFo (upd f (nw m i) (nI 0)) sd m (meK0 M (i + 1)) := by
  obtain ⟨⟨a0, a1, a2, a3, a4, a5, a6⟩, b, c, d⟩ := h
  have e : ∀ k, k < 448 → upd f (nw m i) (nI 0) k = f k := fun k hk => upd_ne (by unfold nw; omega)
  refine ⟨⟨(e _ (by omega)).trans a0, (e _ (by omega)).trans a1, (e _ (by omega)).trans a2, (e _ (by omega)).trans a3, (e _ (by omega)).trans a4, (e _ (by omega)).trans a5, (e _ (by omega)).trans a6⟩, b, fun x hx => ?_, fun j hj hj2 => (upd_ne (by unfold nw; omega)).trans (d j hj hj2)⟩
  have e31 : (meK0 M (i + 1)).2.2 31 x = if x < i + 1 then nI 0 else M.2.2 31 x := rfl
  have e31' : (meK0 M i).2.2 31 x = if x < i then nI 0 else M.2.2 31 x := rfl
  obtain ⟨c1, c2⟩ := c x hx
  by_cases hxi : x = i
  · subst hxi
    rw [upd_eq, e31, if_pos (by omega)]
    exact ⟨rfl, fun q => absurd rfl q⟩
  · rw [upd_ne (by unfold nw; omega)]
    have e4 : (meK0 M (i + 1)).2.2 31 x = (meK0 M i).2.2 31 x := by
      rw [e31, e31']
      by_cases hlt : x < i
      · rw [if_pos hlt, if_pos (by omega)]
      · rw [if_neg hlt, if_neg (by omega)]
    rw [e4]
    refine ⟨c1, fun q c hc hc4 => ?_⟩
    rw [upd_ne (by unfold nw; omega)]
    have := c2 q c hc hc4
    rw [this]
    show (if 31 + c = 31 then _ else M.2.2 (31 + c)) x = (if 31 + c = 31 then _ else M.2.2 (31 + c)) x
    rw [if_neg (by omega), if_neg (by omega)]
theorem meK0_0 {M : Me} : meK0 M 0 = M := by
  obtain ⟨a, b, c⟩ := M
  unfold meK0
  congr 2
  funext k
  by_cases hk : k = 31
  · subst hk; rw [if_pos rfl]; funext x; rw [if_neg (by omega)]
  · rw [if_neg hk]
theorem RFo_z {f : Nat → Int32} {sd : Nat → Int64} {m : Nat} {M : Me} (h : RFo f sd m (meK0 M 64)) : RFo f sd m (meZ M) := by
  obtain ⟨a, b, c, d⟩ := h
  refine ⟨a, b, fun x hx => ?_, fun j hj hj2 => (d j hj hj2).trans ?_⟩
  · have e : (meK0 M 64).2.2 31 x = nI 0 := if_pos hx
    have e' : (meZ M).2.2 31 x = nI 0 := rfl
    rw [e']
    exact ⟨(c x hx).1.trans e, fun q => absurd rfl q⟩
  · rfl
set_option maxRecDepth 20000 in
set_option maxHeartbeats 4000000 in
theorem s_fal {ad : Nm → Nat} {g : Sg} {m i : Nat} {v2 : Int32} {Q : Option Value → PH → Prop} (h : al g (40, 0, 0) ∧ True) (hmb : m < 64) (hi : i < 64) (hk : PP mX7_fall 26 [some (.ref (ad (40, 0, 0))), some (.int (nI m)), some (.int v2), some (.int (nI (i + 1)))] [] (Rel ad (sA g (41, 0, 0) (upd (gA g (41, 0, 0)) (nw m i) (nI 0)))) Q) : PP mX7_fall 26 [some (.ref (ad (40, 0, 0))), some (.int (nI m)), some (.int v2), some (.int (nI i))] [] (Rel ad g) Q := by
  refine pp_iload_n dX7_fall_26 rfl (q := 27) rfl ?_
  refine pp_bipush dX7_fall_27 cb_64 (q := 29) rfl ?_
  refine pp_icmp_ge (tgt := 49) dX7_fall_29 (by decide) (q := 32) rfl (fun c29 => absurd c29 (nI_ge hi (by decide))) (fun c29 => ?_)
  refine pp_aload_n dX7_fall_32 rfl isRf_r (q := 33) rfl ?_
  refine ps_get dX7_fall_33 fl_X7_8 (by first | exact h1.1 | exact h.1) rfl rfl (q := 36) rfl ?_
  refine pp_iload_n dX7_fall_36 rfl (q := 37) rfl ?_
  refine pp_iload_n dX7_fall_37 rfl (q := 38) rfl ?_
  refine ps_callSi dX7_fall_38 lk_X7_44 (by rfl) m_newsAt (by rfl) (by exact Nat.le_of_ble_eq_true rfl) (by decide) (by decide) (by exact Nat.le_of_ble_eq_true rfl) (q := 41) rfl (fun r38 g38 h38 => ?_)
  obtain ⟨rfl, rfl⟩ := And.intro h38.1.symm h38.2.symm
  refine pp_iconst dX7_fall_41 ci_0 (q := 42) rfl ?_
  refine ps_iast (j := nw m i) dX7_fall_42 (by first | exact h1.1 | exact h.1) (fun _ => rfl) rfl (by unfold nw; omega) (by decide) (q := 43) rfl ?_
  refine pp_iinc dX7_fall_43 rfl (nI_1 _) (ls1_3 (nl1 rfl)) (q := 46) rfl ?_
  refine pp_goto (tgt := 26) dX7_fall_46 (by decide) ?_
  exact hk
set_option maxRecDepth 20000 in
set_option maxHeartbeats 4000000 in
theorem s_falz {ad : Nm → Nat} {g : Sg} {m : Nat} {v2 : Int32} {Q : Option Value → PH → Prop} (hm : al g (40, 0, 0)) (hk : PP mX7_fall 49 [some (.ref (ad (40, 0, 0))), some (.int (nI m)), some (.int v2), some (.int (nI 64))] [] (Rel ad g) Q) : PP mX7_fall 26 [some (.ref (ad (40, 0, 0))), some (.int (nI m)), some (.int v2), some (.int (nI 64))] [] (Rel ad g) Q := by
  refine pp_iload_n dX7_fall_26 rfl (q := 27) rfl ?_
  refine pp_bipush dX7_fall_27 cb_64 (q := 29) rfl ?_
  refine pp_icmp_ge (tgt := 49) dX7_fall_29 (by decide) (q := 32) rfl (fun c29 => ?_) (fun c29 => absurd (by decide) c29)
  exact hk
theorem l_fal {ad : Nm → Nat} {g0 : Sg} {A : AW} {n m : Nat} {v2 : Int32} {M : Me} {Q : Option Value → PH → Prop} (hmb : m < 64) (hM : M.1 1 = nI 1) (hk : ∀ g', RS g' (aSet A m (meZ M)) n False → EqM g0 g' → PP mX7_fall 49 [some (.ref (ad (40, 0, 0))), some (.int (nI m)), some (.int v2), some (.int (nI 64))] [] (Rel ad g') Q) : ∀ (j i : Nat) (g : Sg), 64 - i < j → i ≤ 64 → RS g (aSet A m (meK0 M i)) n False → EqM g0 g → PP mX7_fall 26 [some (.ref (ad (40, 0, 0))), some (.int (nI m)), some (.int v2), some (.int (nI i))] [] (Rel ad g) Q := by
  intro j
  induction j with
  | zero => intro i g h; omega
  | succ j ih =>
    intro i g hij hik h hE
    by_cases e : i = 64
    · subst e
      have h' : RS g (aSet A m (meZ M)) n False := h.sim hmb hM (fun q => RFo_z q) hM
      exact s_falz h.1 (hk g h' hE)
    · have hi : i < 64 := by omega
      have ho := h.2.o hmb (md_set (A := A) (m := m) (M := meK0 M i) hM)
      rw [aSet_m] at ho
      obtain ⟨h1, h2⟩ := h.set (f := upd (gA g (41, 0, 0)) (nw m i) (nI 0)) hmb (fun k hk => upd_ne (fun q => hk (by have := nw_own (m := m) (c := 0) hi (by omega); unfold ownI; omega))) (RFo_k0 ho hmb hi) hM
      rw [aSet_aSet] at h1
      exact s_fal ⟨h.1, trivial⟩ hmb hi (ih (i + 1) _ (by omega) (by omega) h1 (hE.tr h2))
set_option maxRecDepth 20000 in
set_option maxHeartbeats 4000000 in
theorem m_fall {ad : Nm → Nat} {g : Sg} {S : CS} {a : Int32} (hR : RR g S) (hH : okH (sH S)) : PS mX7_fall 0 (ent mX7_fall [.ref (ad (40, 0, 0)), .int a]) [] ad g (MdQ g (spAct 5 a (nI 0) (lN 0) S)) := by
  have h := hR.1
  have hI := inv_run hH
  have hn := okH_len hH
  show PP mX7_fall 0 [some (.ref (ad (40, 0, 0))), some (.int a), none, none] [] (Rel ad g) _
  refine pp_aload_n dX7_fall_0 rfl isRf_r (q := 1) rfl ?_
  refine pp_iload_n dX7_fall_1 rfl (q := 2) rfl ?_
  refine pp_iconst dX7_fall_2 ci_1 (q := 3) rfl ?_
  refine ps_callVi dX7_fall_3 lk_X7_141 (by exact (by first | exact h1.1 | exact h.1)) (by rfl) (by rfl) (by rfl) (m_why1 (b := nI 0) h hI (by omega)) (by rfl) (by exact Nat.le_of_ble_eq_true rfl) (by decide) (by decide) (by exact Nat.le_of_ble_eq_true rfl) (q := 6) rfl (fun r3 g3 h3 => ?_)
  obtain ⟨rfl, rfl⟩ := And.intro h3.1.symm h3.2.symm
  refine pp_istore_n dX7_fall_6 (by decide) (ls1_2 (nl1 rfl)) (q := 7) rfl ?_
  refine pp_iload_n dX7_fall_7 rfl (q := 8) rfl ?_
  refine pp_if_eq (tgt := 17) dX7_fall_8 (by decide) (q := 11) rfl (fun c8 => ?_) (fun c8 => ?_)
  · have hw : whyA (runA (sH S)) (sH S).length 5 a (nI 0) = nI 0 := c8
    obtain ⟨⟨m, hm, rfl, hd⟩, hlb, hpb⟩ := wyM (by omega) hw
    have es : stA (runA (sH S)) 5 (nI m) (nI 0) (lN 0) = faA (runA (sH S)) m := by
      show faA (runA (sH S)) (cl (nI m)) = _
      rw [cl_nI (by omega)]
    refine pp_aload_n dX7_fall_17 rfl isRf_r (q := 18) rfl ?_
    refine pp_iload_n dX7_fall_18 rfl (q := 19) rfl ?_
    refine pp_iconst dX7_fall_19 ci_0 (q := 20) rfl ?_
    refine pp_iconst dX7_fall_20 ci_2 (q := 21) rfl ?_
    refine ps_callVv dX7_fall_21 lk_X7_63 (by exact (by first | exact h1.1 | exact h.1)) (by rfl) (by rfl) (by rfl) (m_to0w (v := nI 1) h hm hd (by decide)) (by rfl) (by exact Nat.le_of_ble_eq_true rfl) (by decide) (by decide) (by exact Nat.le_of_ble_eq_true rfl) (q := 24) rfl (fun g21 h21 => ?_)
    obtain ⟨h1, hE1⟩ := h21
    refine pp_iconst dX7_fall_24 ci_0 (q := 25) rfl ?_
    refine pp_istore_n dX7_fall_25 (by decide) (ls1_3 (nl1 rfl)) (q := 26) rfl ?_
    refine l_fal (g0 := g) (A := (runA (sH S))) (n := (sH S).length) (M := (meSI ((runA (sH S)).1 m) 2 (nI 1))) hm hd (fun g2 h2 hE2 => ?_) 65 0 g21 (by omega) (by omega) (by rw [meK0_0]; exact h1) hE1
    refine pp_aload_n dX7_fall_49 rfl isRf_r (q := 50) rfl ?_
    refine pp_iload_n dX7_fall_50 rfl (q := 51) rfl ?_
    refine pp_iload_n dX7_fall_51 rfl (q := 52) rfl ?_
    refine pp_iconst dX7_fall_52 ci_1 (q := 53) rfl ?_
    refine pp_aload_n dX7_fall_53 rfl isRf_r (q := 54) rfl ?_
    refine pp_iload_n dX7_fall_54 rfl (q := 55) rfl ?_
    refine pp_iconst dX7_fall_55 ci_1 (q := 56) rfl ?_
    refine ps_callVi dX7_fall_56 lk_X7_48 (by exact (by first | exact h4.1 | exact h3.1 | exact h2.1 | exact h1.1 | exact h.1)) (by rfl) (by rfl) (by rfl) (m_ter h2 hm (md_set hd)) (by rfl) (by exact Nat.le_of_ble_eq_true rfl) (by decide) (by decide) (by exact Nat.le_of_ble_eq_true rfl) (q := 59) rfl (fun r56 g56 h56 => ?_)
    obtain ⟨rfl, rfl⟩ := And.intro h56.1.symm h56.2.symm
    refine pp_iconst dX7_fall_59 ci_m1 (q := 60) rfl ?_
    refine ps_callVv dX7_fall_60 lk_X7_67 (by exact (by first | exact h4.1 | exact h3.1 | exact h2.1 | exact h1.1 | exact h.1)) (by rfl) (by rfl) (by rfl) (m_wr h2 hm hm (md_set hd)) (by rfl) (by exact Nat.le_of_ble_eq_true rfl) (by decide) (by decide) (by exact Nat.le_of_ble_eq_true rfl) (q := 63) rfl (fun g60 h60 => ?_)
    obtain ⟨h3, hE3⟩ := h60
    rw [aSet_m, aSet_aSet] at h3
    refine pp_aload_n dX7_fall_63 rfl isRf_r (q := 64) rfl ?_
    refine pp_iload_n dX7_fall_64 rfl (q := 65) rfl ?_
    refine ps_callVv dX7_fall_65 lk_X7_135 (by exact (by first | exact h4.1 | exact h3.1 | exact h2.1 | exact h1.1 | exact h.1)) (by rfl) (by rfl) (by rfl) (m_gq h3 hm (md_set hd)) (by rfl) (by exact Nat.le_of_ble_eq_true rfl) (by decide) (by decide) (by exact Nat.le_of_ble_eq_true rfl) (q := 68) rfl (fun g65 h65 => ?_)
    obtain ⟨h4, hE4⟩ := h65
    rw [aSet_m, aSet_aSet] at h4
    refine pp_aload_n dX7_fall_68 rfl isRf_r (q := 69) rfl ?_
    refine pp_aload_n dX7_fall_69 rfl isRf_r (q := 70) rfl ?_
    refine pp_iload_n dX7_fall_70 rfl (q := 71) rfl ?_
    refine pp_iconst dX7_fall_71 ci_1 (q := 72) rfl ?_
    refine ps_callVi dX7_fall_72 lk_X7_48 (by exact (by first | exact h4.1 | exact h3.1 | exact h2.1 | exact h1.1 | exact h.1)) (by rfl) (by rfl) (by rfl) (m_ter h4 hm (md_set hd)) (by rfl) (by exact Nat.le_of_ble_eq_true rfl) (by decide) (by decide) (by exact Nat.le_of_ble_eq_true rfl) (q := 75) rfl (fun r72 g72 h72 => ?_)
    obtain ⟨rfl, rfl⟩ := And.intro h72.1.symm h72.2.symm
    rw [aSet_m]
    refine ps_callVi dX7_fall_75 lk_X7_138 (by exact (by first | exact h4.1 | exact h3.1 | exact h2.1 | exact h1.1 | exact h.1)) (by rfl) (by rfl) (by rfl) (m_dd (m := 0) h4) (by rfl) (by exact Nat.le_of_ble_eq_true rfl) (by decide) (by decide) (by exact Nat.le_of_ble_eq_true rfl) (q := 78) rfl (fun r75 g75 h75 => ?_)
    obtain ⟨rfl, hZ, hEZ⟩ := h75
    refine ri_ret dX7_fall_78 rfl rfl ?_
    have q := mq_ok (v := 5) (a := nI m) (b := nI 0) (sd := lN 0) hR (by omega) hw (((hE2.tr hE3).tr hE4).tr hEZ) (by rw [es]; exact hZ)
    rw [es] at q
    exact q
  · obtain ⟨k, hk, ek⟩ := whyA_k (fun q => c8 q)
    rw [ek]
    refine pp_aload_n dX7_fall_11 rfl isRf_r (q := 12) rfl ?_
    refine pp_iload_n dX7_fall_12 rfl (q := 13) rfl ?_
    refine ps_callVi dX7_fall_13 lk_X7_132 (by exact (by first | exact h1.1 | exact h.1)) (by rfl) (by rfl) (by rfl) (m_no h.1 hk.1) (by rfl) (by exact Nat.le_of_ble_eq_true rfl) (by decide) (by decide) (by exact Nat.le_of_ble_eq_true rfl) (q := 16) rfl (fun r13 g13 h13 => ?_)
    obtain ⟨rfl, rfl⟩ := And.intro h13.1.symm h13.2.symm
    refine ri_ret dX7_fall_16 rfl rfl ?_
    exact mq_no hR hk (sp_no (show whyA (runA (sH S)) (sH S).length 5 a (nI 0) = - nI k from ek) hk.1)
set_option maxRecDepth 20000 in
set_option maxHeartbeats 4000000 in
theorem m_join {ad : Nm → Nat} {g : Sg} {S : CS} {a b : Int32} (hR : RR g S) (hH : okH (sH S)) : PS mX7_join 0 (ent mX7_join [.ref (ad (40, 0, 0)), .int a, .int b]) [] ad g (MdQ g (spAct 2 a b (lN 0) S)) := by
  have h := hR.1
  have hI := inv_run hH
  have hn := okH_len hH
  show PP mX7_join 0 [some (.ref (ad (40, 0, 0))), some (.int a), some (.int b)] [] (Rel ad g) _
  refine pp_iload_n dX7_join_0 rfl (q := 1) rfl ?_
  refine ps_callSi dX7_join_1 lk_X7_121 (by rfl) m_isMem (by rfl) (by exact Nat.le_of_ble_eq_true rfl) (by decide) (by decide) (by exact Nat.le_of_ble_eq_true rfl) (q := 4) rfl (fun r1 g1 h1 => ?_)
  obtain ⟨hb1, rfl⟩ := And.intro h1.1 h1.2.symm
  refine pp_if_eq (tgt := 14) dX7_join_4 (by decide) (q := 7) rfl (fun c4 => ?_) (fun c4 => ?_)
  · have ha := isB_f hb1 c4
    refine pp_aload_n dX7_join_14 rfl isRf_r (q := 15) rfl ?_
    refine pp_bipush dX7_join_15 cb_m3 (q := 17) rfl ?_
    refine ps_callVi dX7_join_17 lk_X7_132 (by exact (by first | exact h1.1 | exact h.1)) (by rfl) (by rfl) (by rfl) (m_no3 h.1) (by rfl) (by exact Nat.le_of_ble_eq_true rfl) (by decide) (by decide) (by exact Nat.le_of_ble_eq_true rfl) (q := 20) rfl (fun r17 g17 h17 => ?_)
    obtain ⟨rfl, rfl⟩ := And.intro h17.1.symm h17.2.symm
    refine ri_ret dX7_join_20 rfl rfl ?_
    first | exact mq_no hR (by unfold isW; omega) (sp_no (wy3 (v := 2) (A := (runA (sH S))) (n := (sH S).length) (a := a) (b := b) (show beyP (runA (sH S)) 2 a b from Or.inl ha)) (by unfold isW; omega)) | exact mq_no hR (by unfold isW; omega) (sp_no (wy3 (v := 2) (A := (runA (sH S))) (n := (sH S).length) (a := a) (b := b) (show beyP (runA (sH S)) 2 a b from Or.inr hb)) (by unfold isW; omega))
  · have ha := isB_t hb1 c4
    refine pp_iload_n dX7_join_7 rfl (q := 8) rfl ?_
    refine ps_callSi dX7_join_8 lk_X7_121 (by rfl) m_isMem (by rfl) (by exact Nat.le_of_ble_eq_true rfl) (by decide) (by decide) (by exact Nat.le_of_ble_eq_true rfl) (q := 11) rfl (fun r8 g8 h8 => ?_)
    obtain ⟨hb8, rfl⟩ := And.intro h8.1 h8.2.symm
    refine pp_if_ne (tgt := 21) dX7_join_11 (by decide) (q := 14) rfl (fun c11 => ?_) (fun c11 => ?_)
    · have hb := isB_t hb8 c11
      obtain ⟨m, hm, rfl⟩ := ha
      obtain ⟨x, hx, rfl⟩ := hb
      refine pp_aload_n dX7_join_21 rfl isRf_r (q := 22) rfl ?_
      refine pp_iload_n dX7_join_22 rfl (q := 23) rfl ?_
      refine ps_callVi dX7_join_23 lk_X7_125 (by exact (by first | exact h1.1 | exact h.1)) (by rfl) (by rfl) (by rfl) (m_made h hI hm) (by rfl) (by exact Nat.le_of_ble_eq_true rfl) (by decide) (by decide) (by exact Nat.le_of_ble_eq_true rfl) (q := 26) rfl (fun r23 g23 h23 => ?_)
      obtain ⟨hb23, rfl⟩ := And.intro h23.1 h23.2.symm
      refine pp_if_eq (tgt := 37) dX7_join_26 (by decide) (q := 29) rfl (fun c26 => ?_) (fun c26 => ?_)
      · have hd := isB_f hb23 c26
        refine pp_aload_n dX7_join_37 rfl isRf_r (q := 38) rfl ?_
        refine pp_bipush dX7_join_38 cb_m2 (q := 40) rfl ?_
        refine ps_callVi dX7_join_40 lk_X7_132 (by exact (by first | exact h1.1 | exact h.1)) (by rfl) (by rfl) (by rfl) (m_no2 h.1) (by rfl) (by exact Nat.le_of_ble_eq_true rfl) (by decide) (by decide) (by exact Nat.le_of_ble_eq_true rfl) (q := 43) rfl (fun r40 g40 h40 => ?_)
        obtain ⟨rfl, rfl⟩ := And.intro h40.1.symm h40.2.symm
        refine ri_ret dX7_join_43 rfl rfl ?_
        first | exact mq_no hR (by unfold isW; omega) (sp_no (wy2 (v := 2) (A := (runA (sH S))) (n := (sH S).length) (a := nI m) (b := nI x) (show ¬ beyP (runA (sH S)) 2 (nI m) (nI x) from fun q => q.elim (nnM hm) (nnM hx)) (show misP (runA (sH S)) 2 (nI m) (nI x) from Or.inl (fun q => hd (mdX_i hm q)))) (by unfold isW; omega)) | exact mq_no hR (by unfold isW; omega) (sp_no (wy2 (v := 2) (A := (runA (sH S))) (n := (sH S).length) (a := nI m) (b := nI x) (show ¬ beyP (runA (sH S)) 2 (nI m) (nI x) from fun q => q.elim (nnM hm) (nnM hx)) (show misP (runA (sH S)) 2 (nI m) (nI x) from Or.inr (fun q => hdx (mdX_i hx q)))) (by unfold isW; omega))
      · have hd := isB_t hb23 c26
        refine pp_aload_n dX7_join_29 rfl isRf_r (q := 30) rfl ?_
        refine pp_iload_n dX7_join_30 rfl (q := 31) rfl ?_
        refine ps_callVi dX7_join_31 lk_X7_125 (by exact (by first | exact h1.1 | exact h.1)) (by rfl) (by rfl) (by rfl) (m_made h hI hx) (by rfl) (by exact Nat.le_of_ble_eq_true rfl) (by decide) (by decide) (by exact Nat.le_of_ble_eq_true rfl) (q := 34) rfl (fun r31 g31 h31 => ?_)
        obtain ⟨hb31, rfl⟩ := And.intro h31.1 h31.2.symm
        refine pp_if_ne (tgt := 44) dX7_join_34 (by decide) (q := 37) rfl (fun c34 => ?_) (fun c34 => ?_)
        · have hdx := isB_t hb31 c34
          refine pp_aload_n dX7_join_44 rfl isRf_r (q := 45) rfl ?_
          refine pp_iload_n dX7_join_45 rfl (q := 46) rfl ?_
          refine pp_iconst dX7_join_46 ci_0 (q := 47) rfl ?_
          refine ps_callVi dX7_join_47 lk_X7_48 (by exact (by first | exact h1.1 | exact h.1)) (by rfl) (by rfl) (by rfl) (m_of h.1 hm (by omega)) (by rfl) (by exact Nat.le_of_ble_eq_true rfl) (by decide) (by decide) (by exact Nat.le_of_ble_eq_true rfl) (q := 50) rfl (fun r47 g47 h47 => ?_)
          obtain ⟨rfl, rfl⟩ := And.intro h47.1.symm h47.2.symm
          rw [Nat.add_zero]
          refine pp_iconst dX7_join_50 ci_1 (q := 51) rfl ?_
          refine pp_icmp_eq (tgt := 61) dX7_join_51 (by decide) (q := 54) rfl (fun c51 => ?_) (fun c51 => ?_)
          · have hu := (h.2.st hI hm).2.mp c51
            refine pp_iload_n dX7_join_61 rfl (q := 62) rfl ?_
            refine pp_iload_n dX7_join_62 rfl (q := 63) rfl ?_
            refine pp_icmp_ne (tgt := 73) dX7_join_63 (by decide) (q := 66) rfl (fun c63 => ?_) (fun c63 => ?_)
            · have hne : ¬ m = x := fun q => c63 (by rw [q])
              refine pp_aload_n dX7_join_73 rfl isRf_r (q := 74) rfl ?_
              refine ps_callVi dX7_join_74 lk_X7_128 (by exact (by first | exact h1.1 | exact h.1)) (by rfl) (by rfl) (by rfl) (m_full (N := 0) h (by omega)) (by rfl) (by exact Nat.le_of_ble_eq_true rfl) (by decide) (by decide) (by exact Nat.le_of_ble_eq_true rfl) (q := 77) rfl (fun r74 g74 h74 => ?_)
              obtain ⟨hb74, rfl⟩ := And.intro h74.1 h74.2.symm
              refine pp_if_eq (tgt := 87) dX7_join_77 (by decide) (q := 80) rfl (fun c77 => ?_) (fun c77 => ?_)
              · have hf := Classical.not_not.mp (fun q => isB_f hb74 c77 q)
                refine pp_aload_n dX7_join_87 rfl isRf_r (q := 88) rfl ?_
                refine pp_aload_n dX7_join_88 rfl isRf_r (q := 89) rfl ?_
                refine pp_iload_n dX7_join_89 rfl (q := 90) rfl ?_
                refine pp_iload_n dX7_join_90 rfl (q := 91) rfl ?_
                refine pp_iconst dX7_join_91 ci_5 (q := 92) rfl ?_
                refine pp_iconst dX7_join_92 ci_m1 (q := 93) rfl ?_
                refine ps_callVi dX7_join_93 lk_X7_89 (by exact (by first | exact h1.1 | exact h.1)) (by rfl) (by rfl) (by rfl) (m_send h hm hd (fun y hy => ((hI.m hm hd).2.2.2.2.2 y hy).1) (by omega) (by omega)) (by rfl) (by exact Nat.le_of_ble_eq_true rfl) (by decide) (by decide) (by exact Nat.le_of_ble_eq_true rfl) (q := 96) rfl (fun r93 g93 h93 => ?_)
                obtain ⟨rfl, h1, hE1⟩ := h93
                refine ps_callVi dX7_join_96 lk_X7_138 (by exact (by first | exact h1.1 | exact h.1)) (by rfl) (by rfl) (by rfl) (m_dd (m := 0) h1) (by rfl) (by exact Nat.le_of_ble_eq_true rfl) (by decide) (by decide) (by exact Nat.le_of_ble_eq_true rfl) (q := 99) rfl (fun r96 g96 h96 => ?_)
                obtain ⟨rfl, hZ, hEZ⟩ := h96
                refine ri_ret dX7_join_99 rfl rfl ?_
                have hw := wy0 (v := 2) (A := (runA (sH S))) (n := (sH S).length) (a := nI m) (b := nI x) (show ¬ beyP (runA (sH S)) 2 (nI m) (nI x) from fun q => q.elim (nnM hm) (nnM hx)) (show ¬ misP (runA (sH S)) 2 (nI m) (nI x) from fun q => q.elim (nnD hm hd) (nnD hx hdx)) (show ¬ dwnP (runA (sH S)) 2 (nI m) from nnU hm hu) (show ¬ natP (runA (sH S)) 2 (nI m) (nI x) from fun q => hne (eqT q (by omega) (by omega))) hf
                have es : stA (runA (sH S)) 2 (nI m) (nI x) (lN 0) = (sndA (runA (sH S)) m (nI 5) (nI x) (-1), nI (bL (aB (runA (sH S))))) := by
                  show (sndA (runA (sH S)) (cl (nI m)) (nI 5) (nI x) (-1), nI (bL (aB (runA (sH S))))) = _
                  rw [cl_nI (by omega)]
                have q := mq_ok (v := 2) (a := nI m) (b := nI x) (sd := lN 0) hR (by omega) hw ((sdM hE1).tr hEZ) (by rw [es]; exact hZ)
                rw [es] at q
                exact q
              · have hf := isB_t hb74 c77
                refine pp_aload_n dX7_join_80 rfl isRf_r (q := 81) rfl ?_
                refine pp_bipush dX7_join_81 cb_m10 (q := 83) rfl ?_
                refine ps_callVi dX7_join_83 lk_X7_132 (by exact (by first | exact h1.1 | exact h.1)) (by rfl) (by rfl) (by rfl) (m_no10 h.1) (by rfl) (by exact Nat.le_of_ble_eq_true rfl) (by decide) (by decide) (by exact Nat.le_of_ble_eq_true rfl) (q := 86) rfl (fun r83 g83 h83 => ?_)
                obtain ⟨rfl, rfl⟩ := And.intro h83.1.symm h83.2.symm
                refine ri_ret dX7_join_86 rfl rfl ?_
                exact mq_no hR (by unfold isW; omega) (sp_no (wyA (v := 2) (A := (runA (sH S))) (n := (sH S).length) (a := nI m) (b := nI x) (show ¬ beyP (runA (sH S)) 2 (nI m) (nI x) from fun q => q.elim (nnM hm) (nnM hx)) (show ¬ misP (runA (sH S)) 2 (nI m) (nI x) from fun q => q.elim (nnD hm hd) (nnD hx hdx)) (show ¬ dwnP (runA (sH S)) 2 (nI m) from nnU hm hu) (show ¬ natP (runA (sH S)) 2 (nI m) (nI x) from fun q => hne (eqT q (by omega) (by omega))) hf) (by unfold isW; omega))
            · have q63 := c63
              refine pp_aload_n dX7_join_66 rfl isRf_r (q := 67) rfl ?_
              refine pp_bipush dX7_join_67 cb_m9 (q := 69) rfl ?_
              refine ps_callVi dX7_join_69 lk_X7_132 (by exact (by first | exact h1.1 | exact h.1)) (by rfl) (by rfl) (by rfl) (m_no9 h.1) (by rfl) (by exact Nat.le_of_ble_eq_true rfl) (by decide) (by decide) (by exact Nat.le_of_ble_eq_true rfl) (q := 72) rfl (fun r69 g69 h69 => ?_)
              obtain ⟨rfl, rfl⟩ := And.intro h69.1.symm h69.2.symm
              refine ri_ret dX7_join_72 rfl rfl ?_
              exact mq_no hR (by unfold isW; omega) (sp_no (wy9 (v := 2) (A := (runA (sH S))) (n := (sH S).length) (a := nI m) (b := nI x) (show ¬ beyP (runA (sH S)) 2 (nI m) (nI x) from fun q => q.elim (nnM hm) (nnM hx)) (show ¬ misP (runA (sH S)) 2 (nI m) (nI x) from fun q => q.elim (nnD hm hd) (nnD hx hdx)) (show ¬ dwnP (runA (sH S)) 2 (nI m) from nnU hm hu) (show natP (runA (sH S)) 2 (nI m) (nI x) from q63)) (by unfold isW; omega))
          · have hu : ¬ upA (runA (sH S)) m := fun q => c51 ((h.2.st hI hm).2.mpr q)
            refine pp_aload_n dX7_join_54 rfl isRf_r (q := 55) rfl ?_
            refine pp_bipush dX7_join_55 cb_m8 (q := 57) rfl ?_
            refine ps_callVi dX7_join_57 lk_X7_132 (by exact (by first | exact h1.1 | exact h.1)) (by rfl) (by rfl) (by rfl) (m_no8 h.1) (by rfl) (by exact Nat.le_of_ble_eq_true rfl) (by decide) (by decide) (by exact Nat.le_of_ble_eq_true rfl) (q := 60) rfl (fun r57 g57 h57 => ?_)
            obtain ⟨rfl, rfl⟩ := And.intro h57.1.symm h57.2.symm
            refine ri_ret dX7_join_60 rfl rfl ?_
            exact mq_no hR (by unfold isW; omega) (sp_no (wy8 (v := 2) (A := (runA (sH S))) (n := (sH S).length) (a := nI m) (b := nI x) (show ¬ beyP (runA (sH S)) 2 (nI m) (nI x) from fun q => q.elim (nnM hm) (nnM hx)) (show ¬ misP (runA (sH S)) 2 (nI m) (nI x) from fun q => q.elim (nnD hm hd) (nnD hx hdx)) (show dwnP (runA (sH S)) 2 (nI m) from fun q => hu (upX_i hm q))) (by unfold isW; omega))
        · have hdx := isB_f hb31 c34
          refine pp_aload_n dX7_join_37 rfl isRf_r (q := 38) rfl ?_
          refine pp_bipush dX7_join_38 cb_m2 (q := 40) rfl ?_
          refine ps_callVi dX7_join_40 lk_X7_132 (by exact (by first | exact h1.1 | exact h.1)) (by rfl) (by rfl) (by rfl) (m_no2 h.1) (by rfl) (by exact Nat.le_of_ble_eq_true rfl) (by decide) (by decide) (by exact Nat.le_of_ble_eq_true rfl) (q := 43) rfl (fun r40 g40 h40 => ?_)
          obtain ⟨rfl, rfl⟩ := And.intro h40.1.symm h40.2.symm
          refine ri_ret dX7_join_43 rfl rfl ?_
          first | exact mq_no hR (by unfold isW; omega) (sp_no (wy2 (v := 2) (A := (runA (sH S))) (n := (sH S).length) (a := nI m) (b := nI x) (show ¬ beyP (runA (sH S)) 2 (nI m) (nI x) from fun q => q.elim (nnM hm) (nnM hx)) (show misP (runA (sH S)) 2 (nI m) (nI x) from Or.inl (fun q => hd (mdX_i hm q)))) (by unfold isW; omega)) | exact mq_no hR (by unfold isW; omega) (sp_no (wy2 (v := 2) (A := (runA (sH S))) (n := (sH S).length) (a := nI m) (b := nI x) (show ¬ beyP (runA (sH S)) 2 (nI m) (nI x) from fun q => q.elim (nnM hm) (nnM hx)) (show misP (runA (sH S)) 2 (nI m) (nI x) from Or.inr (fun q => hdx (mdX_i hx q)))) (by unfold isW; omega))
    · have hb := isB_f hb8 c11
      refine pp_aload_n dX7_join_14 rfl isRf_r (q := 15) rfl ?_
      refine pp_bipush dX7_join_15 cb_m3 (q := 17) rfl ?_
      refine ps_callVi dX7_join_17 lk_X7_132 (by exact (by first | exact h1.1 | exact h.1)) (by rfl) (by rfl) (by rfl) (m_no3 h.1) (by rfl) (by exact Nat.le_of_ble_eq_true rfl) (by decide) (by decide) (by exact Nat.le_of_ble_eq_true rfl) (q := 20) rfl (fun r17 g17 h17 => ?_)
      obtain ⟨rfl, rfl⟩ := And.intro h17.1.symm h17.2.symm
      refine ri_ret dX7_join_20 rfl rfl ?_
      first | exact mq_no hR (by unfold isW; omega) (sp_no (wy3 (v := 2) (A := (runA (sH S))) (n := (sH S).length) (a := a) (b := b) (show beyP (runA (sH S)) 2 a b from Or.inl ha)) (by unfold isW; omega)) | exact mq_no hR (by unfold isW; omega) (sp_no (wy3 (v := 2) (A := (runA (sH S))) (n := (sH S).length) (a := a) (b := b) (show beyP (runA (sH S)) 2 a b from Or.inr hb)) (by unfold isW; omega))
