set_option maxRecDepth 20000 in
set_option maxHeartbeats 4000000 in
theorem m_isStep {ad : Nm → Nat} {g : Sg} {x : Int32} {n : Nat} (hm : al g (40, 0, 0)) (hL : gI g (40, 0, 0) 9 = nI n) (hn : n < 2 ^ 31) : PS mX7_isStep 0 (ent mX7_isStep [.ref (ad (40, 0, 0)), .int x]) [] ad g (Ri (fun v g' => isB v (inR x n) ∧ g' = g)) := by
  show PP mX7_isStep 0 [some (.ref (ad (40, 0, 0))), some (.int x)] [] (Rel ad g) _
  refine pp_iload_n dX7_isStep_0 rfl (q := 1) rfl ?_
  refine pp_if_lt (tgt := 16) dX7_isStep_1 (by decide) (q := 4) rfl (fun c1 => ?_) (fun c1 => ?_)
  · have ho := inR_no (n := n) hn (Or.inl c1)
    refine pp_iconst dX7_isStep_16 ci_0 (q := 17) rfl ?_
    refine ri_ret dX7_isStep_17 rfl (by decide) ?_
    first | exact ⟨isB_0 ho, rfl⟩ | exact ⟨isB_1 hy, rfl⟩
  · skip
    refine pp_iload_n dX7_isStep_4 rfl (q := 5) rfl ?_
    refine pp_aload_n dX7_isStep_5 rfl isRf_r (q := 6) rfl ?_
    refine ps_get dX7_isStep_6 fl_X7_200 hm rfl rfl (q := 9) rfl ?_
    rw [hL]
    refine pp_icmp_ge (tgt := 16) dX7_isStep_9 (by decide) (q := 12) rfl (fun c9 => ?_) (fun c9 => ?_)
    · have ho := inR_no hn (Or.inr c9)
      refine pp_iconst dX7_isStep_16 ci_0 (q := 17) rfl ?_
      refine ri_ret dX7_isStep_17 rfl (by decide) ?_
      first | exact ⟨isB_0 ho, rfl⟩ | exact ⟨isB_1 hy, rfl⟩
    · have hy := inR_yes hn c1 (Int32.not_le.mp c9)
      refine pp_iconst dX7_isStep_12 ci_1 (q := 13) rfl ?_
      refine pp_goto (tgt := 17) dX7_isStep_13 (by decide) ?_
      refine ri_ret dX7_isStep_17 rfl (by decide) ?_
      first | exact ⟨isB_0 ho, rfl⟩ | exact ⟨isB_1 hy, rfl⟩
set_option maxRecDepth 20000 in
set_option maxHeartbeats 4000000 in
theorem m_wayAt {ad : Nm → Nat} {g : Sg} {S : CS} {a : Int32} (hR : RR g S) (hH : okH (sH S)) : PS mX7_wayAt 0 (ent mX7_wayAt [.ref (ad (40, 0, 0)), .int a]) [] ad g (MdQ g (anS S (qWayAt (sY S) a))) := by
  obtain ⟨hy1, hy2, hy3⟩ := hR.2.2.2.2.1
  have h := hR.1
  have hI := inv_run hH
  have hn := okH_len hH
  show PP mX7_wayAt 0 [some (.ref (ad (40, 0, 0))), some (.int a)] [] (Rel ad g) _
  refine pp_aload_n dX7_wayAt_0 rfl isRf_r (q := 1) rfl ?_
  refine pp_iload_n dX7_wayAt_1 rfl (q := 2) rfl ?_
  refine ps_callVi dX7_wayAt_2 lk_X7_206 (by exact h.1) (by rfl) (by rfl) (by rfl) (m_isStep h.1 hy1 (by omega)) (by rfl) (by exact Nat.le_of_ble_eq_true rfl) (by decide) (by decide) (by exact Nat.le_of_ble_eq_true rfl) (q := 5) rfl (fun r2 g2 h2 => ?_)
  obtain ⟨hb2, rfl⟩ := And.intro h2.1 h2.2.symm
  refine pp_if_eq (tgt := 17) dX7_wayAt_5 (by decide) (q := 8) rfl (fun c5 => ?_) (fun c5 => ?_)
  · have hi := isB_f hb2 c5
    refine pp_aload_n dX7_wayAt_17 rfl isRf_r (q := 18) rfl ?_
    refine pp_bipush dX7_wayAt_18 cb_m3 (q := 20) rfl ?_
    refine ps_callVi dX7_wayAt_20 lk_X7_132 (by exact h.1) (by rfl) (by rfl) (by rfl) (m_no3 h.1) (by rfl) (by exact Nat.le_of_ble_eq_true rfl) (by decide) (by decide) (by exact Nat.le_of_ble_eq_true rfl) (q := 23) rfl (fun r20 g20 h20 => ?_)
    obtain ⟨rfl, rfl⟩ := And.intro h20.1.symm h20.2.symm
    refine ri_ret dX7_wayAt_23 rfl rfl ?_
    first | exact mq_inl hR (by unfold isW; omega) (cIf_f hi) | exact mq_inr hR (by unfold qWayAt; rw [cIf_t ⟨v, hv, rfl⟩, cl_nI (by omega), List.getD_eq_getElem?_getD, ey]; rfl)
  · obtain ⟨v, hv, rfl⟩ := isB_t hb2 c5
    obtain ⟨y, ey⟩ : ∃ y, (sY S)[v]? = some y := ⟨_, List.getElem?_eq_getElem hv⟩
    refine pp_aload_n dX7_wayAt_8 rfl isRf_r (q := 9) rfl ?_
    refine ps_get dX7_wayAt_9 fl_X7_27 h.1 rfl rfl (q := 12) rfl ?_
    refine pp_iload_n dX7_wayAt_12 rfl (q := 13) rfl ?_
    refine ps_iald (j := v) dX7_wayAt_13 h.1 rfl rfl (by show v < 1300; omega) (by decide) (q := 14) rfl ?_
    rw [hy3 v y ey]
    refine pp_goto (tgt := 23) dX7_wayAt_14 (by decide) ?_
    refine ri_ret dX7_wayAt_23 rfl rfl ?_
    first | exact mq_inl hR (by unfold isW; omega) (cIf_f hi) | exact mq_inr hR (by unfold qWayAt; rw [cIf_t ⟨v, hv, rfl⟩, cl_nI (by omega), List.getD_eq_getElem?_getD, ey]; rfl)
theorem RR_y {g : Sg} {S : CS} {f : Nat → Int32} {Y : List Int32} (hR : RR g S) (h9 : gI g (40, 0, 0) 9 = nI Y.length) (hl : Y.length ≤ 1200) (hf : ∀ i v, Y[i]? = some v → f i = v) : RR (sA g (46, 0, 0) f) (stY S Y) := by
  obtain ⟨r1, r2, r3, r4, r5, r8⟩ := hR
  exact ⟨r1, r2, r3, r4, ⟨h9, hl, hf⟩, r8⟩
set_option maxRecDepth 20000 in
set_option maxHeartbeats 4000000 in
theorem m_forge {ad : Nm → Nat} {g : Sg} {S : CS} {a b : Int32} (hR : RR g S) (hH : okH (sH S)) : PS mX7_forge 0 (ent mX7_forge [.ref (ad (40, 0, 0)), .int a, .int b]) [] ad g (MdQ g (spForge a b S)) := by
  obtain ⟨hy1, hy2, hy3⟩ := hR.2.2.2.2.1
  have h := hR.1
  have hI := inv_run hH
  have hn := okH_len hH
  show PP mX7_forge 0 [some (.ref (ad (40, 0, 0))), some (.int a), some (.int b)] [] (Rel ad g) _
  refine pp_aload_n dX7_forge_0 rfl isRf_r (q := 1) rfl ?_
  refine pp_iload_n dX7_forge_1 rfl (q := 2) rfl ?_
  refine ps_callVi dX7_forge_2 lk_X7_206 (by exact h.1) (by rfl) (by rfl) (by rfl) (m_isStep h.1 hy1 (by omega)) (by rfl) (by exact Nat.le_of_ble_eq_true rfl) (by decide) (by decide) (by exact Nat.le_of_ble_eq_true rfl) (q := 5) rfl (fun r2 g2 h2 => ?_)
  obtain ⟨hb2, rfl⟩ := And.intro h2.1 h2.2.symm
  refine pp_if_ne (tgt := 15) dX7_forge_5 (by decide) (q := 8) rfl (fun c5 => ?_) (fun c5 => ?_)
  · obtain ⟨v, hv, rfl⟩ := isB_t hb2 c5
    refine pp_aload_n dX7_forge_15 rfl isRf_r (q := 16) rfl ?_
    refine ps_get dX7_forge_16 fl_X7_27 h.1 rfl rfl (q := 19) rfl ?_
    refine pp_iload_n dX7_forge_19 rfl (q := 20) rfl ?_
    refine pp_iload_n dX7_forge_20 rfl (q := 21) rfl ?_
    refine ps_iast (j := v) dX7_forge_21 h.1 (fun _ => rfl) rfl (by show v < 1300; omega) (by decide) (q := 22) rfl ?_
    refine pp_iconst dX7_forge_22 ci_1 (q := 23) rfl ?_
    refine ri_ret dX7_forge_23 rfl rfl ?_
    have hq : spForge (nI v) b S = (nI 1, stY S ((sY S).set v b)) := by unfold spForge; rw [cIf_t ⟨v, hv, rfl⟩, cl_nI (by omega)]
    rw [hq]
    refine ⟨rfl, RR_y hR (by rw [List.length_set]; exact hy1) (by rw [List.length_set]; exact hy2) (fun i w hw => ?_), EqX.rf.sA ⟨by show 40 ≤ 46; omega, by show 46 ≤ 49; omega⟩⟩
    by_cases e : i = v
    · subst e
      rw [List.getElem?_set_self hv] at hw
      rw [upd_eq]
      exact Option.some.inj hw
    · rw [List.getElem?_set_ne (Ne.symm e)] at hw
      rw [upd_ne e]
      exact hy3 i w hw
  · have hi := isB_f hb2 c5
    refine pp_aload_n dX7_forge_8 rfl isRf_r (q := 9) rfl ?_
    refine pp_bipush dX7_forge_9 cb_m3 (q := 11) rfl ?_
    refine ps_callVi dX7_forge_11 lk_X7_132 (by exact h.1) (by rfl) (by rfl) (by rfl) (m_no3 h.1) (by rfl) (by exact Nat.le_of_ble_eq_true rfl) (by decide) (by decide) (by exact Nat.le_of_ble_eq_true rfl) (q := 14) rfl (fun r11 g11 h11 => ?_)
    obtain ⟨rfl, rfl⟩ := And.intro h11.1.symm h11.2.symm
    refine ri_ret dX7_forge_14 rfl rfl ?_
    exact mq_no hR (by unfold isW; omega) (cIf_f hi)
set_option maxRecDepth 20000 in
set_option maxHeartbeats 4000000 in
theorem m_whyN {ad : Nm → Nat} {g : Sg} {A : AW} {N n : Nat} {a b : Int32} (h : RS g A n False) (hI : INV N N A) : PS mX7_whyNews 0 (ent mX7_whyNews [.ref (ad (40, 0, 0)), .int a, .int b]) [] ad g (Ri (fun v g' => ((v = nI 0 ∧ ∃ m x, m < 64 ∧ x < 64 ∧ a = nI m ∧ b = nI x ∧ mdA A m ∧ ¬ (A.1 m).2.2 31 x = 0) ∨ ∃ k, (isW k ∧ k ≠ 7) ∧ v = - nI k ∧ ∀ q, qN A a b q = .inl k) ∧ g' = g)) := by
  show PP mX7_whyNews 0 [some (.ref (ad (40, 0, 0))), some (.int a), some (.int b)] [] (Rel ad g) _
  refine pp_iload_n dX7_whyNews_0 rfl (q := 1) rfl ?_
  refine ps_callSi dX7_whyNews_1 lk_X7_121 (by rfl) m_isMem (by rfl) (by exact Nat.le_of_ble_eq_true rfl) (by decide) (by decide) (by exact Nat.le_of_ble_eq_true rfl) (q := 4) rfl (fun r1 g1 h1 => ?_)
  obtain ⟨hb1, rfl⟩ := And.intro h1.1 h1.2.symm
  refine pp_if_eq (tgt := 14) dX7_whyNews_4 (by decide) (q := 7) rfl (fun c4 => ?_) (fun c4 => ?_)
  · have ha := isB_f hb1 c4
    refine pp_bipush dX7_whyNews_14 cb_m3 (q := 16) rfl ?_
    refine ri_ret dX7_whyNews_16 rfl rfl ?_
    first | exact ⟨Or.inr ⟨3, by unfold isW; omega, rfl, fun q => cIf_f (fun z => ha z.1)⟩, rfl⟩ | exact ⟨Or.inr ⟨3, by unfold isW; omega, rfl, fun q => cIf_f (fun z => hb z.2)⟩, rfl⟩
  · have ha := isB_t hb1 c4
    refine pp_iload_n dX7_whyNews_7 rfl (q := 8) rfl ?_
    refine ps_callSi dX7_whyNews_8 lk_X7_121 (by rfl) m_isMem (by rfl) (by exact Nat.le_of_ble_eq_true rfl) (by decide) (by decide) (by exact Nat.le_of_ble_eq_true rfl) (q := 11) rfl (fun r8 g8 h8 => ?_)
    obtain ⟨hb8, rfl⟩ := And.intro h8.1 h8.2.symm
    refine pp_if_ne (tgt := 17) dX7_whyNews_11 (by decide) (q := 14) rfl (fun c11 => ?_) (fun c11 => ?_)
    · have hb := isB_t hb8 c11
      obtain ⟨m, hm, rfl⟩ := ha
      obtain ⟨x, hx, rfl⟩ := hb
      refine pp_aload_n dX7_whyNews_17 rfl isRf_r (q := 18) rfl ?_
      refine pp_iload_n dX7_whyNews_18 rfl (q := 19) rfl ?_
      refine ps_callVi dX7_whyNews_19 lk_X7_125 (by exact h.1) (by rfl) (by rfl) (by rfl) (m_made h hI hm) (by rfl) (by exact Nat.le_of_ble_eq_true rfl) (by decide) (by decide) (by exact Nat.le_of_ble_eq_true rfl) (q := 22) rfl (fun r19 g19 h19 => ?_)
      obtain ⟨hb19, rfl⟩ := And.intro h19.1 h19.2.symm
      refine pp_if_eq (tgt := 34) dX7_whyNews_22 (by decide) (q := 25) rfl (fun c22 => ?_) (fun c22 => ?_)
      · have hd := isB_f hb19 c22
        refine pp_bipush dX7_whyNews_34 cb_m2 (q := 36) rfl ?_
        refine pp_goto (tgt := 40) dX7_whyNews_36 (by decide) ?_
        refine ri_ret dX7_whyNews_40 rfl rfl ?_
        first | exact ⟨Or.inl ⟨rfl, m, x, hm, hx, rfl, rfl, hd, c31⟩, rfl⟩ | exact ⟨Or.inr ⟨2, by unfold isW; omega, rfl, fun q => by unfold qN; rw [cIf_t ⟨⟨m, hm, rfl⟩, ⟨x, hx, rfl⟩⟩, cIf_f (fun z => hd (mdX_i hm z.1))]⟩, rfl⟩ | exact ⟨Or.inr ⟨2, by unfold isW; omega, rfl, fun q => by unfold qN; rw [cIf_t ⟨⟨m, hm, rfl⟩, ⟨x, hx, rfl⟩⟩, cIf_f (fun z => z.2 (by rw [cl_nI (by omega), cl_nI (by omega)]; exact c31))]⟩, rfl⟩
      · have hd := isB_t hb19 c22
        refine pp_aload_n dX7_whyNews_25 rfl isRf_r (q := 26) rfl ?_
        refine pp_iload_n dX7_whyNews_26 rfl (q := 27) rfl ?_
        refine pp_iload_n dX7_whyNews_27 rfl (q := 28) rfl ?_
        refine ps_callVi dX7_whyNews_28 lk_X7_72 (by exact h.1) (by rfl) (by rfl) (by rfl) (m_kindOf h.1 hm hx) (by rfl) (by exact Nat.le_of_ble_eq_true rfl) (by decide) (by decide) (by exact Nat.le_of_ble_eq_true rfl) (q := 31) rfl (fun r28 g28 h28 => ?_)
        obtain ⟨rfl, rfl⟩ := And.intro h28.1.symm h28.2.symm
        rw [((h.2.o hm hd).2.2.1 x hx).1]
        refine pp_if_ne (tgt := 39) dX7_whyNews_31 (by decide) (q := 34) rfl (fun c31 => ?_) (fun c31 => ?_)
        · skip
          refine pp_iconst dX7_whyNews_39 ci_0 (q := 40) rfl ?_
          refine ri_ret dX7_whyNews_40 rfl rfl ?_
          first | exact ⟨Or.inl ⟨rfl, m, x, hm, hx, rfl, rfl, hd, c31⟩, rfl⟩ | exact ⟨Or.inr ⟨2, by unfold isW; omega, rfl, fun q => by unfold qN; rw [cIf_t ⟨⟨m, hm, rfl⟩, ⟨x, hx, rfl⟩⟩, cIf_f (fun z => hd (mdX_i hm z.1))]⟩, rfl⟩ | exact ⟨Or.inr ⟨2, by unfold isW; omega, rfl, fun q => by unfold qN; rw [cIf_t ⟨⟨m, hm, rfl⟩, ⟨x, hx, rfl⟩⟩, cIf_f (fun z => z.2 (by rw [cl_nI (by omega), cl_nI (by omega)]; exact c31))]⟩, rfl⟩
        · skip
          refine pp_bipush dX7_whyNews_34 cb_m2 (q := 36) rfl ?_
          refine pp_goto (tgt := 40) dX7_whyNews_36 (by decide) ?_
          refine ri_ret dX7_whyNews_40 rfl rfl ?_
          first | exact ⟨Or.inl ⟨rfl, m, x, hm, hx, rfl, rfl, hd, c31⟩, rfl⟩ | exact ⟨Or.inr ⟨2, by unfold isW; omega, rfl, fun q => by unfold qN; rw [cIf_t ⟨⟨m, hm, rfl⟩, ⟨x, hx, rfl⟩⟩, cIf_f (fun z => hd (mdX_i hm z.1))]⟩, rfl⟩ | exact ⟨Or.inr ⟨2, by unfold isW; omega, rfl, fun q => by unfold qN; rw [cIf_t ⟨⟨m, hm, rfl⟩, ⟨x, hx, rfl⟩⟩, cIf_f (fun z => z.2 (by rw [cl_nI (by omega), cl_nI (by omega)]; exact c31))]⟩, rfl⟩
    · have hb := isB_f hb8 c11
      refine pp_bipush dX7_whyNews_14 cb_m3 (q := 16) rfl ?_
      refine ri_ret dX7_whyNews_16 rfl rfl ?_
      first | exact ⟨Or.inr ⟨3, by unfold isW; omega, rfl, fun q => cIf_f (fun z => ha z.1)⟩, rfl⟩ | exact ⟨Or.inr ⟨3, by unfold isW; omega, rfl, fun q => cIf_f (fun z => hb z.2)⟩, rfl⟩
set_option maxRecDepth 20000 in
set_option maxHeartbeats 4000000 in
theorem m_news {ad : Nm → Nat} {g : Sg} {S : CS} {a b c : Int32} (hR : RR g S) (hH : okH (sH S)) : PS mX7_news 0 (ent mX7_news [.ref (ad (40, 0, 0)), .int a, .int b, .int c]) [] ad g (MdQ g (anS S (qNews (runA (sH S)) a b c))) := by
  have h := hR.1
  have hI := inv_run hH
  have hn := okH_len hH
  show PP mX7_news 0 [some (.ref (ad (40, 0, 0))), some (.int a), some (.int b), some (.int c), none] [] (Rel ad g) _
  refine pp_aload_n dX7_news_0 rfl isRf_r (q := 1) rfl ?_
  refine pp_iload_n dX7_news_1 rfl (q := 2) rfl ?_
  refine pp_iload_n dX7_news_2 rfl (q := 3) rfl ?_
  refine ps_callVi dX7_news_3 lk_X7_175 (by exact h.1) (by rfl) (by rfl) (by rfl) (m_whyN h hI) (by rfl) (by exact Nat.le_of_ble_eq_true rfl) (by decide) (by decide) (by exact Nat.le_of_ble_eq_true rfl) (q := 6) rfl (fun r3 g3 h3 => ?_)
  obtain ⟨hz, rfl⟩ := And.intro h3.1 h3.2.symm
  refine pp_istore dX7_news_6 (by decide) (ls1_4 (nl1 rfl)) (q := 8) rfl ?_
  refine pp_iload dX7_news_8 rfl (q := 10) rfl ?_
  refine pp_if_eq (tgt := 20) dX7_news_10 (by decide) (q := 13) rfl (fun c10 => ?_) (fun c10 => ?_)
  · obtain ⟨m, x, hm, hx, rfl, rfl, hd, hk0⟩ : ∃ m x, m < 64 ∧ x < 64 ∧ a = nI m ∧ b = nI x ∧ mdA (runA (sH S)) m ∧ ¬ ((runA (sH S)).1 m).2.2 31 x = 0 := by
      rcases hz with ⟨-, q⟩ | ⟨k, hk, e, -⟩
      · exact q
      · exact absurd (e.symm.trans c10) (ngk_ne hk.1)
    have hno := (h.2.o hm hd).2.2.1 x hx
    refine pp_iload_n dX7_news_20 rfl (q := 21) rfl ?_
    refine pp_i2l dX7_news_21 (q := 22) rfl ?_
    refine pp_lconst (v := lN 0) dX7_news_22 rfl (q := 23) rfl ?_
    refine pp_ldc2 (v := lN 4) dX7_news_23 kc_X7_163 (q := 26) rfl ?_
    refine ps_callSi dX7_news_26 lk_X7_165 (by rfl) (m_isIn (x := c) (n := 5) (by omega) (by omega)) (by rfl) (by exact Nat.le_of_ble_eq_true rfl) (by decide) (by decide) (by exact Nat.le_of_ble_eq_true rfl) (q := 29) rfl (fun r26 g26 h26 => ?_)
    obtain ⟨hb26, rfl⟩ := And.intro h26.1 h26.2.symm
    refine pp_if_eq (tgt := 47) dX7_news_29 (by decide) (q := 32) rfl (fun c29 => ?_) (fun c29 => ?_)
    · have hi := isB_f hb26 c29
      refine pp_aload_n dX7_news_47 rfl isRf_r (q := 48) rfl ?_
      refine pp_bipush dX7_news_48 cb_m9 (q := 50) rfl ?_
      refine ps_callVi dX7_news_50 lk_X7_132 (by exact h.1) (by rfl) (by rfl) (by rfl) (m_no9 h.1) (by rfl) (by exact Nat.le_of_ble_eq_true rfl) (by decide) (by decide) (by exact Nat.le_of_ble_eq_true rfl) (q := 53) rfl (fun r50 g50 h50 => ?_)
      obtain ⟨rfl, rfl⟩ := And.intro h50.1.symm h50.2.symm
      refine ri_ret dX7_news_53 rfl rfl ?_
      first | exact mq_inl hR (by unfold isW; omega) (by unfold qNews; rw [qN_ok hm hx hd hk0, cIf_f hi]) | exact mq_inr hR (by unfold qNews; rw [qN_ok hm hx hd hk0, cIf_t ⟨v, hv, rfl⟩, cl_nI (by omega), cl_nI (by omega), cl_nI (by omega)])
    · obtain ⟨v, hv, rfl⟩ := isB_t hb26 c29
      refine pp_aload_n dX7_news_32 rfl isRf_r (q := 33) rfl ?_
      refine ps_get dX7_news_33 fl_X7_8 h.1 rfl rfl (q := 36) rfl ?_
      refine pp_iload_n dX7_news_36 rfl (q := 37) rfl ?_
      refine pp_iload_n dX7_news_37 rfl (q := 38) rfl ?_
      refine ps_callSi dX7_news_38 lk_X7_44 (by rfl) m_newsAt (by rfl) (by exact Nat.le_of_ble_eq_true rfl) (by decide) (by decide) (by exact Nat.le_of_ble_eq_true rfl) (q := 41) rfl (fun r38 g38 h38 => ?_)
      obtain ⟨rfl, rfl⟩ := And.intro h38.1.symm h38.2.symm
      refine pp_iload_n dX7_news_41 rfl (q := 42) rfl ?_
      refine pp_iadd dX7_news_42 (q := 43) rfl ?_
      try rw [nI_add]
      refine ps_iald (j := nw m x + v) dX7_news_43 h.1 rfl rfl (by unfold nw; omega) (by decide) (q := 44) rfl ?_
      have e43 : gA g (41, 0, 0) (nw m x + v) = ((runA (sH S)).1 m).2.2 (31 + v) x := by
        by_cases e : v = 0
        · subst e; exact hno.1
        · exact hno.2 hk0 v (by omega) (by omega)
      rw [e43]
      refine pp_goto (tgt := 53) dX7_news_44 (by decide) ?_
      refine ri_ret dX7_news_53 rfl rfl ?_
      first | exact mq_inl hR (by unfold isW; omega) (by unfold qNews; rw [qN_ok hm hx hd hk0, cIf_f hi]) | exact mq_inr hR (by unfold qNews; rw [qN_ok hm hx hd hk0, cIf_t ⟨v, hv, rfl⟩, cl_nI (by omega), cl_nI (by omega), cl_nI (by omega)])
  · obtain ⟨k, hk, ek, hq⟩ : ∃ k, (isW k ∧ k ≠ 7) ∧ r3 = - nI k ∧ ∀ q, qN (runA (sH S)) a b q = .inl k := by
      rcases hz with ⟨q, -⟩ | q
      · exact absurd q c10
      · exact q
    rw [ek]
    refine pp_aload_n dX7_news_13 rfl isRf_r (q := 14) rfl ?_
    refine pp_iload dX7_news_14 rfl (q := 16) rfl ?_
    refine ps_callVi dX7_news_16 lk_X7_132 (by exact h.1) (by rfl) (by rfl) (by rfl) (m_no h.1 hk.1) (by rfl) (by exact Nat.le_of_ble_eq_true rfl) (by decide) (by decide) (by exact Nat.le_of_ble_eq_true rfl) (q := 19) rfl (fun r16 g16 h16 => ?_)
    obtain ⟨rfl, rfl⟩ := And.intro h16.1.symm h16.2.symm
    refine ri_ret dX7_news_19 rfl rfl ?_
    exact mq_inl hR hk (hq _)
set_option maxRecDepth 20000 in
set_option maxHeartbeats 4000000 in
theorem m_as {ad : Nm → Nat} {g : Sg} {S : CS} {a b c : Int32} (hR : RR g S) (hH : okH (sH S)) : PS mX7_as 0 (ent mX7_as [.ref (ad (40, 0, 0)), .int a, .int b, .int c]) [] ad g (MdQ g (anS S (qAs (runA (sH S)) a b c))) := by
  have h := hR.1
  have hI := inv_run hH
  have hn := okH_len hH
  show PP mX7_as 0 [some (.ref (ad (40, 0, 0))), some (.int a), some (.int b), some (.int c), none] [] (Rel ad g) _
  refine pp_aload_n dX7_as_0 rfl isRf_r (q := 1) rfl ?_
  refine pp_iload_n dX7_as_1 rfl (q := 2) rfl ?_
  refine pp_iload_n dX7_as_2 rfl (q := 3) rfl ?_
  refine ps_callVi dX7_as_3 lk_X7_175 (by exact h.1) (by rfl) (by rfl) (by rfl) (m_whyN h hI) (by rfl) (by exact Nat.le_of_ble_eq_true rfl) (by decide) (by decide) (by exact Nat.le_of_ble_eq_true rfl) (q := 6) rfl (fun r3 g3 h3 => ?_)
  obtain ⟨hz, rfl⟩ := And.intro h3.1 h3.2.symm
  refine pp_istore dX7_as_6 (by decide) (ls1_4 (nl1 rfl)) (q := 8) rfl ?_
  refine pp_iload dX7_as_8 rfl (q := 10) rfl ?_
  refine pp_if_eq (tgt := 20) dX7_as_10 (by decide) (q := 13) rfl (fun c10 => ?_) (fun c10 => ?_)
  · obtain ⟨m, x, hm, hx, rfl, rfl, hd, hk0⟩ : ∃ m x, m < 64 ∧ x < 64 ∧ a = nI m ∧ b = nI x ∧ mdA (runA (sH S)) m ∧ ¬ ((runA (sH S)).1 m).2.2 31 x = 0 := by
      rcases hz with ⟨-, q⟩ | ⟨k, hk, e, -⟩
      · exact q
      · exact absurd (e.symm.trans c10) (ngk_ne hk.1)
    have hno := (h.2.o hm hd).2.2.1 x hx
    refine pp_iload_n dX7_as_20 rfl (q := 21) rfl ?_
    refine pp_i2l dX7_as_21 (q := 22) rfl ?_
    refine pp_lconst (v := lN 1) dX7_as_22 rfl (q := 23) rfl ?_
    refine pp_ldc2 (v := lN 4) dX7_as_23 kc_X7_163 (q := 26) rfl ?_
    refine ps_callSi dX7_as_26 lk_X7_165 (by rfl) m_isIn1 (by rfl) (by exact Nat.le_of_ble_eq_true rfl) (by decide) (by decide) (by exact Nat.le_of_ble_eq_true rfl) (q := 29) rfl (fun r26 g26 h26 => ?_)
    obtain ⟨hb26, rfl⟩ := And.intro h26.1 h26.2.symm
    refine pp_if_ne (tgt := 39) dX7_as_29 (by decide) (q := 32) rfl (fun c29 => ?_) (fun c29 => ?_)
    · have hc := isB_t hb26 c29
      refine pp_aload_n dX7_as_39 rfl isRf_r (q := 40) rfl ?_
      refine pp_iload_n dX7_as_40 rfl (q := 41) rfl ?_
      refine pp_iload_n dX7_as_41 rfl (q := 42) rfl ?_
      refine ps_callVi dX7_as_42 lk_X7_72 (by exact h.1) (by rfl) (by rfl) (by rfl) (m_kindOf h.1 hm hx) (by rfl) (by exact Nat.le_of_ble_eq_true rfl) (by decide) (by decide) (by exact Nat.le_of_ble_eq_true rfl) (q := 45) rfl (fun r42 g42 h42 => ?_)
      obtain ⟨rfl, rfl⟩ := And.intro h42.1.symm h42.2.symm
      rw [hno.1]
      refine pp_iload_n dX7_as_45 rfl (q := 46) rfl ?_
      refine pp_icmp_lt (tgt := 64) dX7_as_46 (by decide) (q := 49) rfl (fun c46 => ?_) (fun c46 => ?_)
      · skip
        refine pp_aload_n dX7_as_64 rfl isRf_r (q := 65) rfl ?_
        refine pp_bipush dX7_as_65 cb_m5 (q := 67) rfl ?_
        refine ps_callVi dX7_as_67 lk_X7_132 (by exact h.1) (by rfl) (by rfl) (by rfl) (m_no5 h.1) (by rfl) (by exact Nat.le_of_ble_eq_true rfl) (by decide) (by decide) (by exact Nat.le_of_ble_eq_true rfl) (q := 70) rfl (fun r67 g67 h67 => ?_)
        obtain ⟨rfl, rfl⟩ := And.intro h67.1.symm h67.2.symm
        refine ri_ret dX7_as_70 rfl rfl ?_
        first | exact mq_inl hR (by unfold isW; omega) (by unfold qAs; rw [qN_ok hm hx hd hk0, cIf_t hc, cl_nI (by omega), cl_nI (by omega), cIf_t c46]) | exact mq_inr hR (by unfold qAs; rw [qN_ok hm hx hd hk0, cIf_t hc, cl_nI (by omega), cl_nI (by omega), cIf_f c46])
      · skip
        refine pp_aload_n dX7_as_49 rfl isRf_r (q := 50) rfl ?_
        refine ps_get dX7_as_50 fl_X7_8 h.1 rfl rfl (q := 53) rfl ?_
        refine pp_iload_n dX7_as_53 rfl (q := 54) rfl ?_
        refine pp_iload_n dX7_as_54 rfl (q := 55) rfl ?_
        refine ps_callSi dX7_as_55 lk_X7_44 (by rfl) m_newsAt (by rfl) (by exact Nat.le_of_ble_eq_true rfl) (by decide) (by decide) (by exact Nat.le_of_ble_eq_true rfl) (q := 58) rfl (fun r55 g55 h55 => ?_)
        obtain ⟨rfl, rfl⟩ := And.intro h55.1.symm h55.2.symm
        refine pp_iconst dX7_as_58 ci_1 (q := 59) rfl ?_
        refine pp_iadd dX7_as_59 (q := 60) rfl ?_
        try rw [nI_add]
        refine ps_iald (j := nw m x + 1) dX7_as_60 h.1 rfl rfl (by unfold nw; omega) (by decide) (q := 61) rfl ?_
        rw [hno.2 hk0 1 (by omega) (by omega)]
        refine pp_goto (tgt := 70) dX7_as_61 (by decide) ?_
        refine ri_ret dX7_as_70 rfl rfl ?_
        first | exact mq_inl hR (by unfold isW; omega) (by unfold qAs; rw [qN_ok hm hx hd hk0, cIf_t hc, cl_nI (by omega), cl_nI (by omega), cIf_t c46]) | exact mq_inr hR (by unfold qAs; rw [qN_ok hm hx hd hk0, cIf_t hc, cl_nI (by omega), cl_nI (by omega), cIf_f c46])
    · have hi := isB_f hb26 c29
      refine pp_aload_n dX7_as_32 rfl isRf_r (q := 33) rfl ?_
      refine pp_bipush dX7_as_33 cb_m9 (q := 35) rfl ?_
      refine ps_callVi dX7_as_35 lk_X7_132 (by exact h.1) (by rfl) (by rfl) (by rfl) (m_no9 h.1) (by rfl) (by exact Nat.le_of_ble_eq_true rfl) (by decide) (by decide) (by exact Nat.le_of_ble_eq_true rfl) (q := 38) rfl (fun r35 g35 h35 => ?_)
      obtain ⟨rfl, rfl⟩ := And.intro h35.1.symm h35.2.symm
      refine ri_ret dX7_as_38 rfl rfl ?_
      exact mq_inl hR (by unfold isW; omega) (by unfold qAs; rw [qN_ok hm hx hd hk0, cIf_f hi])
  · obtain ⟨k, hk, ek, hq⟩ : ∃ k, (isW k ∧ k ≠ 7) ∧ r3 = - nI k ∧ ∀ q, qN (runA (sH S)) a b q = .inl k := by
      rcases hz with ⟨q, -⟩ | q
      · exact absurd q c10
      · exact q
    rw [ek]
    refine pp_aload_n dX7_as_13 rfl isRf_r (q := 14) rfl ?_
    refine pp_iload dX7_as_14 rfl (q := 16) rfl ?_
    refine ps_callVi dX7_as_16 lk_X7_132 (by exact h.1) (by rfl) (by rfl) (by rfl) (m_no h.1 hk.1) (by rfl) (by exact Nat.le_of_ble_eq_true rfl) (by decide) (by decide) (by exact Nat.le_of_ble_eq_true rfl) (q := 19) rfl (fun r16 g16 h16 => ?_)
    obtain ⟨rfl, rfl⟩ := And.intro h16.1.symm h16.2.symm
    refine ri_ret dX7_as_19 rfl rfl ?_
    exact mq_inl hR hk (hq _)
set_option maxRecDepth 20000 in
set_option maxHeartbeats 4000000 in
theorem m_round {ad : Nm → Nat} {g : Sg} {S : CS} {a b : Int32} (hR : RR g S) (hH : okH (sH S)) : PS mX7_round 0 (ent mX7_round [.ref (ad (40, 0, 0)), .int a, .int b]) [] ad g (MdQ g (anS S (qRound (runA (sH S)) a b))) := by
  have h := hR.1
  have hI := inv_run hH
  have hn := okH_len hH
  show PP mX7_round 0 [some (.ref (ad (40, 0, 0))), some (.int a), some (.int b)] [] (Rel ad g) _
  refine pp_iload_n dX7_round_0 rfl (q := 1) rfl ?_
  refine ps_callSi dX7_round_1 lk_X7_121 (by rfl) m_isMem (by rfl) (by exact Nat.le_of_ble_eq_true rfl) (by decide) (by decide) (by exact Nat.le_of_ble_eq_true rfl) (q := 4) rfl (fun r1 g1 h1 => ?_)
  obtain ⟨hb1, rfl⟩ := And.intro h1.1 h1.2.symm
  refine pp_if_ne (tgt := 14) dX7_round_4 (by decide) (q := 7) rfl (fun c4 => ?_) (fun c4 => ?_)
  · obtain ⟨m, hm, rfl⟩ := isB_t hb1 c4
    refine pp_aload_n dX7_round_14 rfl isRf_r (q := 15) rfl ?_
    refine pp_iload_n dX7_round_15 rfl (q := 16) rfl ?_
    refine ps_callVi dX7_round_16 lk_X7_125 (by exact h.1) (by rfl) (by rfl) (by rfl) (m_made h hI hm) (by rfl) (by exact Nat.le_of_ble_eq_true rfl) (by decide) (by decide) (by exact Nat.le_of_ble_eq_true rfl) (q := 19) rfl (fun r16 g16 h16 => ?_)
    obtain ⟨hb16, rfl⟩ := And.intro h16.1 h16.2.symm
    refine pp_if_ne (tgt := 29) dX7_round_19 (by decide) (q := 22) rfl (fun c19 => ?_) (fun c19 => ?_)
    · have hd := isB_t hb16 c19
      refine pp_iload_n dX7_round_29 rfl (q := 30) rfl ?_
      refine pp_i2l dX7_round_30 (q := 31) rfl ?_
      refine pp_lconst (v := lN 0) dX7_round_31 rfl (q := 32) rfl ?_
      refine pp_aload_n dX7_round_32 rfl isRf_r (q := 33) rfl ?_
      refine pp_iload_n dX7_round_33 rfl (q := 34) rfl ?_
      refine pp_iconst dX7_round_34 ci_5 (q := 35) rfl ?_
      refine ps_callVi dX7_round_35 lk_X7_48 (by exact h.1) (by rfl) (by rfl) (by rfl) (m_of h.1 hm (by omega)) (by rfl) (by exact Nat.le_of_ble_eq_true rfl) (by decide) (by decide) (by exact Nat.le_of_ble_eq_true rfl) (q := 38) rfl (fun r35 g35 h35 => ?_)
      obtain ⟨rfl, rfl⟩ := And.intro h35.1.symm h35.2.symm
      obtain ⟨L, q9, hL, hL64, -⟩ := (hI.m hm hd).2.2.2.2.1
      rw [show gA g (41, 0, 0) (7 * m + 5) = nI L from (h.2.o hm hd).1.2.2.2.2.2.1.trans hL]
      refine pp_iconst dX7_round_38 ci_1 (q := 39) rfl ?_
      refine pp_isub dX7_round_39 (q := 40) rfl ?_
      skip
      refine pp_i2l dX7_round_40 (q := 41) rfl ?_
      refine ps_callSi dX7_round_41 lk_X7_165 (by rfl) (m_isInN (by omega)) (by rfl) (by exact Nat.le_of_ble_eq_true rfl) (by decide) (by decide) (by exact Nat.le_of_ble_eq_true rfl) (q := 44) rfl (fun r41 g41 h41 => ?_)
      obtain ⟨hb41, rfl⟩ := And.intro h41.1 h41.2.symm
      refine pp_if_eq (tgt := 65) dX7_round_44 (by decide) (q := 47) rfl (fun c44 => ?_) (fun c44 => ?_)
      · have hi := isB_f hb41 c44
        refine pp_aload_n dX7_round_65 rfl isRf_r (q := 66) rfl ?_
        refine pp_bipush dX7_round_66 cb_m3 (q := 68) rfl ?_
        refine ps_callVi dX7_round_68 lk_X7_132 (by exact h.1) (by rfl) (by rfl) (by rfl) (m_no3 h.1) (by rfl) (by exact Nat.le_of_ble_eq_true rfl) (by decide) (by decide) (by exact Nat.le_of_ble_eq_true rfl) (q := 71) rfl (fun r68 g68 h68 => ?_)
        obtain ⟨rfl, rfl⟩ := And.intro h68.1.symm h68.2.symm
        refine ri_ret dX7_round_71 rfl rfl ?_
        first | exact mq_inl hR (by unfold isW; omega) (by unfold qRound; rw [qM_ok hm hd, cl_nI (n := m) (by omega), hL, cl_nI (by omega), cIf_f hi]) | exact mq_inr hR (by unfold qRound; rw [qM_ok hm hd, cl_nI (n := m) (by omega), hL, cl_nI (by omega), cIf_t ⟨v, hv, rfl⟩, cl_nI (by omega)])
      · obtain ⟨v, hv, rfl⟩ := isB_t hb41 c44
        refine pp_aload_n dX7_round_47 rfl isRf_r (q := 48) rfl ?_
        refine ps_get dX7_round_48 fl_X7_8 h.1 rfl rfl (q := 51) rfl ?_
        refine pp_sipush dX7_round_51 cs_20928 (q := 54) rfl ?_
        refine pp_bipush dX7_round_54 cb_64 (q := 56) rfl ?_
        refine pp_iload_n dX7_round_56 rfl (q := 57) rfl ?_
        refine pp_imul dX7_round_57 (q := 58) rfl ?_
        try rw [pk_mul]
        refine pp_iadd dX7_round_58 (q := 59) rfl ?_
        try rw [nI_add]
        refine pp_iload_n dX7_round_59 rfl (q := 60) rfl ?_
        refine pp_iadd dX7_round_60 (q := 61) rfl ?_
        try rw [nI_add]
        refine ps_iald (j := 20928 + 64 * m + v) dX7_round_61 h.1 rfl rfl (by omega) (by decide) (q := 62) rfl ?_
        rw [(h.2.o hm hd).2.2.2 v (by rw [hL, cl_nI (by omega)]; exact hv) (by omega)]
        refine pp_goto (tgt := 71) dX7_round_62 (by decide) ?_
        refine ri_ret dX7_round_71 rfl rfl ?_
        first | exact mq_inl hR (by unfold isW; omega) (by unfold qRound; rw [qM_ok hm hd, cl_nI (n := m) (by omega), hL, cl_nI (by omega), cIf_f hi]) | exact mq_inr hR (by unfold qRound; rw [qM_ok hm hd, cl_nI (n := m) (by omega), hL, cl_nI (by omega), cIf_t ⟨v, hv, rfl⟩, cl_nI (by omega)])
    · have hd := isB_f hb16 c19
      refine pp_aload_n dX7_round_22 rfl isRf_r (q := 23) rfl ?_
      refine pp_bipush dX7_round_23 cb_m2 (q := 25) rfl ?_
      refine ps_callVi dX7_round_25 lk_X7_132 (by exact h.1) (by rfl) (by rfl) (by rfl) (m_no2 h.1) (by rfl) (by exact Nat.le_of_ble_eq_true rfl) (by decide) (by decide) (by exact Nat.le_of_ble_eq_true rfl) (q := 28) rfl (fun r25 g25 h25 => ?_)
      obtain ⟨rfl, rfl⟩ := And.intro h25.1.symm h25.2.symm
      refine ri_ret dX7_round_28 rfl rfl ?_
      exact mq_inl hR (by unfold isW; omega) (by unfold qRound qM; rw [cIf_t ⟨m, hm, rfl⟩, cIf_f (fun q => hd (mdX_i hm q))])
  · have ha := isB_f hb1 c4
    refine pp_aload_n dX7_round_7 rfl isRf_r (q := 8) rfl ?_
    refine pp_bipush dX7_round_8 cb_m3 (q := 10) rfl ?_
    refine ps_callVi dX7_round_10 lk_X7_132 (by exact h.1) (by rfl) (by rfl) (by rfl) (m_no3 h.1) (by rfl) (by exact Nat.le_of_ble_eq_true rfl) (by decide) (by decide) (by exact Nat.le_of_ble_eq_true rfl) (q := 13) rfl (fun r10 g10 h10 => ?_)
    obtain ⟨rfl, rfl⟩ := And.intro h10.1.symm h10.2.symm
    refine ri_ret dX7_round_13 rfl rfl ?_
    exact mq_inl hR (by unfold isW; omega) (cIf_f ha)
set_option maxRecDepth 20000 in
set_option maxHeartbeats 4000000 in
theorem m_carries {ad : Nm → Nat} {g : Sg} {S : CS} {a b c : Int32} (hR : RR g S) (hH : okH (sH S)) : PS mX7_carries 0 (ent mX7_carries [.ref (ad (40, 0, 0)), .int a, .int b, .int c]) [] ad g (MdQ g (anS S (qCarr (aB (runA (sH S))) a b c))) := by
  have h := hR.1
  have hI := inv_run hH
  have hn := okH_len hH
  show PP mX7_carries 0 [some (.ref (ad (40, 0, 0))), some (.int a), some (.int b), some (.int c)] [] (Rel ad g) _
  refine pp_aload_n dX7_carries_0 rfl isRf_r (q := 1) rfl ?_
  refine pp_iload_n dX7_carries_1 rfl (q := 2) rfl ?_
  refine ps_callVi dX7_carries_2 lk_X7_147 (by exact h.1) (by rfl) (by rfl) (by rfl) (m_isLetter h.1 h.2.2.2.1.2.1 (by have := h.2.2.2.1.1; omega)) (by rfl) (by exact Nat.le_of_ble_eq_true rfl) (by decide) (by decide) (by exact Nat.le_of_ble_eq_true rfl) (q := 5) rfl (fun r2 g2 h2 => ?_)
  obtain ⟨hb2, rfl⟩ := And.intro h2.1 h2.2.symm
  refine pp_if_eq (tgt := 26) dX7_carries_5 (by decide) (q := 8) rfl (fun c5 => ?_) (fun c5 => ?_)
  · have ha := isB_f hb2 c5
    refine pp_aload_n dX7_carries_26 rfl isRf_r (q := 27) rfl ?_
    refine pp_bipush dX7_carries_27 cb_m3 (q := 29) rfl ?_
    refine ps_callVi dX7_carries_29 lk_X7_132 (by exact h.1) (by rfl) (by rfl) (by rfl) (m_no3 h.1) (by rfl) (by exact Nat.le_of_ble_eq_true rfl) (by decide) (by decide) (by exact Nat.le_of_ble_eq_true rfl) (q := 32) rfl (fun r29 g29 h29 => ?_)
    obtain ⟨rfl, rfl⟩ := And.intro h29.1.symm h29.2.symm
    refine ri_ret dX7_carries_32 rfl rfl ?_
    first | exact mq_inl hR (by unfold isW; omega) (cIf_f (fun q => ha q.1)) | exact mq_inl hR (by unfold isW; omega) (by unfold qCarr; rw [cl_nI (n := l) (by omega), hp4, cl_nI (n := k) (by omega), cIf_f (fun q => hb q.2)])
  · obtain ⟨l, hl, rfl⟩ := isB_t hb2 c5
    obtain ⟨k, s, hp, -⟩ := hI.1.2.2.1 l hl
    have hP := hI.1.2.1
    have hLb := h.2.2.2.1.1
    obtain ⟨-, hp4, hp7, hsk, hk64⟩ := id hp
    refine pp_iload_n dX7_carries_8 rfl (q := 9) rfl ?_
    refine pp_i2l dX7_carries_9 (q := 10) rfl ?_
    refine pp_lconst (v := lN 0) dX7_carries_10 rfl (q := 11) rfl ?_
    refine pp_aload_n dX7_carries_11 rfl isRf_r (q := 12) rfl ?_
    refine pp_iload_n dX7_carries_12 rfl (q := 13) rfl ?_
    refine pp_iconst dX7_carries_13 ci_5 (q := 14) rfl ?_
    refine ps_callVi dX7_carries_14 lk_X7_83 (by exact h.1) (by rfl) (by rfl) (by rfl) (m_lt (c := 5) h hl (by omega)) (by rfl) (by exact Nat.le_of_ble_eq_true rfl) (by decide) (by decide) (by exact Nat.le_of_ble_eq_true rfl) (q := 17) rfl (fun r14 g14 h14 => ?_)
    obtain ⟨rfl, rfl⟩ := And.intro h14.1.symm h14.2.symm
    rw [show bl (aB (runA (sH S))) l (lcx 5) = nI k from hp4]
    refine pp_iconst dX7_carries_17 ci_1 (q := 18) rfl ?_
    refine pp_isub dX7_carries_18 (q := 19) rfl ?_
    skip
    refine pp_i2l dX7_carries_19 (q := 20) rfl ?_
    refine ps_callSi dX7_carries_20 lk_X7_165 (by rfl) (m_isInN (by omega)) (by rfl) (by exact Nat.le_of_ble_eq_true rfl) (by decide) (by decide) (by exact Nat.le_of_ble_eq_true rfl) (q := 23) rfl (fun r20 g20 h20 => ?_)
    obtain ⟨hb20, rfl⟩ := And.intro h20.1 h20.2.symm
    refine pp_if_ne (tgt := 33) dX7_carries_23 (by decide) (q := 26) rfl (fun c23 => ?_) (fun c23 => ?_)
    · obtain ⟨i, hi, rfl⟩ := isB_t hb20 c23
      refine pp_iload_n dX7_carries_33 rfl (q := 34) rfl ?_
      refine pp_i2l dX7_carries_34 (q := 35) rfl ?_
      refine pp_lconst (v := lN 0) dX7_carries_35 rfl (q := 36) rfl ?_
      refine pp_ldc2 (v := lN 3) dX7_carries_36 kc_X7_171 (q := 39) rfl ?_
      refine ps_callSi dX7_carries_39 lk_X7_165 (by rfl) (m_isIn (x := c) (n := 4) (by omega) (by omega)) (by rfl) (by exact Nat.le_of_ble_eq_true rfl) (by decide) (by decide) (by exact Nat.le_of_ble_eq_true rfl) (q := 42) rfl (fun r39 g39 h39 => ?_)
      obtain ⟨hb39, rfl⟩ := And.intro h39.1 h39.2.symm
      refine pp_if_ne (tgt := 52) dX7_carries_42 (by decide) (q := 45) rfl (fun c42 => ?_) (fun c42 => ?_)
      · obtain ⟨v, hv, rfl⟩ := isB_t hb39 c42
        refine pp_aload_n dX7_carries_52 rfl isRf_r (q := 53) rfl ?_
        refine ps_get dX7_carries_53 fl_X7_8 h.1 rfl rfl (q := 56) rfl ?_
        refine pp_ldc (v := nI 38720) dX7_carries_56 kc_X7_71 (q := 58) rfl ?_
        refine pp_iconst dX7_carries_58 ci_4 (q := 59) rfl ?_
        refine pp_aload_n dX7_carries_59 rfl isRf_r (q := 60) rfl ?_
        refine pp_iload_n dX7_carries_60 rfl (q := 61) rfl ?_
        refine pp_iconst dX7_carries_61 ci_4 (q := 62) rfl ?_
        refine ps_callVi dX7_carries_62 lk_X7_83 (by exact h.1) (by rfl) (by rfl) (by rfl) (m_lt (c := 4) h hl (by omega)) (by rfl) (by exact Nat.le_of_ble_eq_true rfl) (by decide) (by decide) (by exact Nat.le_of_ble_eq_true rfl) (q := 65) rfl (fun r62 g62 h62 => ?_)
        obtain ⟨rfl, rfl⟩ := And.intro h62.1.symm h62.2.symm
        rw [show bl (aB (runA (sH S))) l (lcx 4) = nI s from hp7]
        refine pp_iload_n dX7_carries_65 rfl (q := 66) rfl ?_
        refine pp_iadd dX7_carries_66 (q := 67) rfl ?_
        try rw [nI_add]
        refine pp_imul dX7_carries_67 (q := 68) rfl ?_
        try rw [pk_mul]
        refine pp_iadd dX7_carries_68 (q := 69) rfl ?_
        try rw [nI_add]
        refine pp_iload_n dX7_carries_69 rfl (q := 70) rfl ?_
        refine pp_iadd dX7_carries_70 (q := 71) rfl ?_
        try rw [nI_add]
        refine ps_iald (j := 38720 + 4 * (s + i) + v) dX7_carries_71 h.1 rfl rfl (by omega) (by decide) (q := 72) rfl ?_
        rw [h.2.pc (by omega) hv]
        refine ri_ret dX7_carries_72 rfl rfl ?_
        exact mq_inr hR (by unfold qCarr; rw [cl_nI (n := l) (by omega), hp4, cl_nI (n := k) (by omega), cIf_t ⟨⟨l, hl, rfl⟩, ⟨i, hi, rfl⟩⟩, cIf_t ⟨v, hv, rfl⟩, hp7, cl_nI (by omega), cl_nI (by omega), cl_nI (by omega)])
      · have hc := isB_f hb39 c42
        refine pp_aload_n dX7_carries_45 rfl isRf_r (q := 46) rfl ?_
        refine pp_bipush dX7_carries_46 cb_m9 (q := 48) rfl ?_
        refine ps_callVi dX7_carries_48 lk_X7_132 (by exact h.1) (by rfl) (by rfl) (by rfl) (m_no9 h.1) (by rfl) (by exact Nat.le_of_ble_eq_true rfl) (by decide) (by decide) (by exact Nat.le_of_ble_eq_true rfl) (q := 51) rfl (fun r48 g48 h48 => ?_)
        obtain ⟨rfl, rfl⟩ := And.intro h48.1.symm h48.2.symm
        refine ri_ret dX7_carries_51 rfl rfl ?_
        exact mq_inl hR (by unfold isW; omega) (by unfold qCarr; rw [cl_nI (n := l) (by omega), hp4, cl_nI (n := k) (by omega), cIf_t ⟨⟨l, hl, rfl⟩, ⟨i, hi, rfl⟩⟩, cIf_f hc])
    · have hb := isB_f hb20 c23
      refine pp_aload_n dX7_carries_26 rfl isRf_r (q := 27) rfl ?_
      refine pp_bipush dX7_carries_27 cb_m3 (q := 29) rfl ?_
      refine ps_callVi dX7_carries_29 lk_X7_132 (by exact h.1) (by rfl) (by rfl) (by rfl) (m_no3 h.1) (by rfl) (by exact Nat.le_of_ble_eq_true rfl) (by decide) (by decide) (by exact Nat.le_of_ble_eq_true rfl) (q := 32) rfl (fun r29 g29 h29 => ?_)
      obtain ⟨rfl, rfl⟩ := And.intro h29.1.symm h29.2.symm
      refine ri_ret dX7_carries_32 rfl rfl ?_
      first | exact mq_inl hR (by unfold isW; omega) (cIf_f (fun q => ha q.1)) | exact mq_inl hR (by unfold isW; omega) (by unfold qCarr; rw [cl_nI (n := l) (by omega), hp4, cl_nI (n := k) (by omega), cIf_f (fun q => hb q.2)])
