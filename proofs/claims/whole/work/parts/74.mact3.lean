theorem li_tb {A : AW} {i j : Nat} {b : Prop} (hi : i < 64) (hj : j < 64) (hne : i ≠ j) (hs : symC A.2.2.1) {x y : Nat} (hx : x < 64) (hy : y < 64) : tb ((liA A i j b).1.2.2.1 x) y ↔ if (x = i ∧ y = j) ∨ (x = j ∧ y = i) then b else tb (A.2.2.1 x) y := by
  unfold liA
  by_cases h : (tb (A.2.2.1 i) j ↔ b)
  · rw [cIf_t h]
    split
    · rename_i q
      rcases q with ⟨rfl, rfl⟩ | ⟨rfl, rfl⟩
      · exact h
      · exact (hs x y hx hy).trans h
    · exact Iff.rfl
  · rw [cIf_f h]
    show tb (vp_updL (vp_updL A.2.2.1 i (flp (A.2.2.1 i) j)) j (flp (vp_updL A.2.2.1 i (flp (A.2.2.1 i) j) j) i) x) y ↔ _
    rw [ct_tb hi hj hne hs hx hy]
    split
    · exact ⟨fun q => Classical.byContradiction (fun r => h ⟨fun p => absurd p q, fun p => absurd p r⟩), fun q p => h ⟨fun _ => q, fun _ => p⟩⟩
    · exact Iff.rfl
theorem bC_eq {P b : Prop} {p c : Int32} (hP : bC P p) (hb : bC b c) : p = c ↔ (P ↔ b) := by
  by_cases h1 : P
  · by_cases h2 : b
    · rw [hP.1 h1, hb.1 h2]; exact ⟨fun _ => ⟨fun _ => h2, fun _ => h1⟩, fun _ => rfl⟩
    · rw [hP.1 h1, hb.2 h2]; exact ⟨fun q => absurd q (by decide), fun q => absurd (q.mp h1) h2⟩
  · by_cases h2 : b
    · rw [hP.2 h1, hb.1 h2]; exact ⟨fun q => absurd q (by decide), fun q => absurd (q.mpr h2) h1⟩
    · rw [hP.2 h1, hb.2 h2]; exact ⟨fun _ => ⟨fun q => absurd q h1, fun q => absurd q h2⟩, fun _ => rfl⟩
theorem RF_li {f : Nat → Int32} {sd : Nat → Int64} {A : AW} {n i j : Nat} {o b : Prop} {c : Int32} (h : RF f sd A n o) (hs : symC A.2.2.1) (hi : i < 64) (hj : j < 64) (hne : i ≠ j) (hb : bC b c) : RF (upd (upd f (25024 + 64 * i + j) c) (25024 + 64 * j + i) c) sd (liA A i j b).1 n o := by
  have e1 : (liA A i j b).1.1 = A.1 := by
    unfold liA
    by_cases q : (tb (A.2.2.1 i) j ↔ b)
    · rw [cIf_t q]
    · rw [cIf_f q]; rfl
  have e2 : (liA A i j b).1.2.2.2 = A.2.2.2 := by
    unfold liA
    by_cases q : (tb (A.2.2.1 i) j ↔ b)
    · rw [cIf_t q]
    · rw [cIf_f q]; rfl
  have eo : ∀ k, k < 25024 ∨ 29120 ≤ k → upd (upd f (25024 + 64 * i + j) c) (25024 + 64 * j + i) c k = f k := fun k hk => by
    rw [upd_ne (by omega), upd_ne (by omega)]
  obtain ⟨h1, h2, h3, h4, h5⟩ := h
  refine ⟨by rw [e1]; exact h1.cg (fun k hk => eo k (by omega)), fun x y hx hy => ?_, by show RFb _ (liA A i j b).1.2.2.2.2 o; rw [e2]; exact h3.cg (fun k hk _ => eo k (by omega)), by rw [e2]; exact h4.cg (fun k hk _ => eo k (by omega)), (eo _ (by omega)).trans h5⟩
  have q := li_tb (b := b) hi hj hne hs hx hy
  unfold upd
  by_cases c1 : x = j ∧ y = i
  · rw [if_pos (by omega)]
    rw [if_pos (Or.inr c1)] at q
    exact ⟨fun r => hb.1 (q.mp r), fun r => hb.2 (fun z => r (q.mpr z))⟩
  · rw [if_neg (by omega)]
    by_cases c2 : x = i ∧ y = j
    · rw [if_pos (by omega)]
      rw [if_pos (Or.inl c2)] at q
      exact ⟨fun r => hb.1 (q.mp r), fun r => hb.2 (fun z => r (q.mpr z))⟩
    · rw [if_neg (by omega)]
      rw [if_neg (by omega)] at q
      exact ⟨fun r => (h2 x y hx hy).1 (q.mp r), fun r => (h2 x y hx hy).2 (fun z => r (q.mpr z))⟩
theorem li_2 {A : AW} {i j : Nat} {b : Prop} : ((tb (A.2.2.1 i) j ↔ b) → (liA A i j b).2 = nI 0) ∧ (¬ (tb (A.2.2.1 i) j ↔ b) → (liA A i j b).2 = nI 1) := by
  unfold liA
  exact ⟨fun q => by rw [cIf_t q], fun q => by rw [cIf_f q]⟩
set_option maxRecDepth 20000 in
set_option maxHeartbeats 4000000 in
theorem m_links1 {ad : Nm → Nat} {g : Sg} {S : CS} {a b : Int32} (hR : RR g S) (hH : okH (sH S)) : PS mX7_links 0 (ent mX7_links [.ref (ad (40, 0, 0)), .int a, .int b, .int (nI 1)]) [] ad g (MdQ g (spAct 10 a b (lN 0) S)) := by
  have h := hR.1
  have hI := inv_run hH
  have hn := okH_len hH
  show PP mX7_links 0 [some (.ref (ad (40, 0, 0))), some (.int a), some (.int b), some (.int (nI 1)), none] [] (Rel ad g) _
  refine pp_iload_n dX7_links_0 rfl (q := 1) rfl ?_
  refine ps_callSi dX7_links_1 lk_X7_121 (by rfl) m_isMem (by rfl) (by exact Nat.le_of_ble_eq_true rfl) (by decide) (by decide) (by exact Nat.le_of_ble_eq_true rfl) (q := 4) rfl (fun r1 g1 h1 => ?_)
  obtain ⟨hb1, rfl⟩ := And.intro h1.1 h1.2.symm
  refine pp_if_eq (tgt := 14) dX7_links_4 (by decide) (q := 7) rfl (fun c4 => ?_) (fun c4 => ?_)
  · have ha := isB_f hb1 c4
    refine pp_aload_n dX7_links_14 rfl isRf_r (q := 15) rfl ?_
    refine pp_bipush dX7_links_15 cb_m3 (q := 17) rfl ?_
    refine ps_callVi dX7_links_17 lk_X7_132 (by exact (by first | exact h1.1 | exact h.1)) (by rfl) (by rfl) (by rfl) (m_no3 h.1) (by rfl) (by exact Nat.le_of_ble_eq_true rfl) (by decide) (by decide) (by exact Nat.le_of_ble_eq_true rfl) (q := 20) rfl (fun r17 g17 h17 => ?_)
    obtain ⟨rfl, rfl⟩ := And.intro h17.1.symm h17.2.symm
    refine ri_ret dX7_links_20 rfl rfl ?_
    first | exact mq_no hR (by unfold isW; omega) (sp_no (wy3 (v := 10) (A := (runA (sH S))) (n := (sH S).length) (a := a) (b := b) (show beyP (runA (sH S)) 10 a b from Or.inl ha)) (by unfold isW; omega)) | exact mq_no hR (by unfold isW; omega) (sp_no (wy3 (v := 10) (A := (runA (sH S))) (n := (sH S).length) (a := a) (b := b) (show beyP (runA (sH S)) 10 a b from Or.inr hb)) (by unfold isW; omega))
  · have ha := isB_t hb1 c4
    refine pp_iload_n dX7_links_7 rfl (q := 8) rfl ?_
    refine ps_callSi dX7_links_8 lk_X7_121 (by rfl) m_isMem (by rfl) (by exact Nat.le_of_ble_eq_true rfl) (by decide) (by decide) (by exact Nat.le_of_ble_eq_true rfl) (q := 11) rfl (fun r8 g8 h8 => ?_)
    obtain ⟨hb8, rfl⟩ := And.intro h8.1 h8.2.symm
    refine pp_if_ne (tgt := 21) dX7_links_11 (by decide) (q := 14) rfl (fun c11 => ?_) (fun c11 => ?_)
    · have hb := isB_t hb8 c11
      obtain ⟨m, hm, rfl⟩ := ha
      obtain ⟨x, hx, rfl⟩ := hb
      refine pp_iload_n dX7_links_21 rfl (q := 22) rfl ?_
      refine pp_iload_n dX7_links_22 rfl (q := 23) rfl ?_
      refine pp_icmp_ne (tgt := 33) dX7_links_23 (by decide) (q := 26) rfl (fun c23 => ?_) (fun c23 => ?_)
      · have hne : m ≠ x := fun q => c23 (by rw [q])
        refine pp_aload_n dX7_links_33 rfl isRf_r (q := 34) rfl ?_
        refine ps_callVi dX7_links_34 lk_X7_128 (by exact (by first | exact h1.1 | exact h.1)) (by rfl) (by rfl) (by rfl) (m_full (N := 0) h (by omega)) (by rfl) (by exact Nat.le_of_ble_eq_true rfl) (by decide) (by decide) (by exact Nat.le_of_ble_eq_true rfl) (q := 37) rfl (fun r34 g34 h34 => ?_)
        obtain ⟨hb34, rfl⟩ := And.intro h34.1 h34.2.symm
        refine pp_if_eq (tgt := 47) dX7_links_37 (by decide) (q := 40) rfl (fun c37 => ?_) (fun c37 => ?_)
        · have hf := Classical.not_not.mp (fun q => isB_f hb34 c37 q)
          have hbc : bC True (nI 1) := ⟨fun _ => rfl, fun q => absurd trivial q⟩
          have hpc := bC_eq (h.2.2.1 m x hm hx) hbc
          refine pp_aload_n dX7_links_47 rfl isRf_r (q := 48) rfl ?_
          refine ps_get dX7_links_48 fl_X7_8 (by first | exact h1.1 | exact h.1) rfl rfl (q := 51) rfl ?_
          refine pp_sipush dX7_links_51 cs_25024 (q := 54) rfl ?_
          refine pp_bipush dX7_links_54 cb_64 (q := 56) rfl ?_
          refine pp_iload_n dX7_links_56 rfl (q := 57) rfl ?_
          refine pp_imul dX7_links_57 (q := 58) rfl ?_
          try rw [pk_mul]
          refine pp_iadd dX7_links_58 (q := 59) rfl ?_
          try rw [nI_add]
          refine pp_iload_n dX7_links_59 rfl (q := 60) rfl ?_
          refine pp_iadd dX7_links_60 (q := 61) rfl ?_
          try rw [nI_add]
          refine ps_iald (j := 25024 + 64 * m + x) dX7_links_61 (by first | exact h1.1 | exact h.1) rfl rfl (by omega) (by decide) (q := 62) rfl ?_
          refine pp_istore dX7_links_62 (by decide) (ls1_4 (nl1 rfl)) (q := 64) rfl ?_
          refine pp_aload_n dX7_links_64 rfl isRf_r (q := 65) rfl ?_
          refine ps_get dX7_links_65 fl_X7_8 (by first | exact h1.1 | exact h.1) rfl rfl (q := 68) rfl ?_
          refine pp_sipush dX7_links_68 cs_25024 (q := 71) rfl ?_
          refine pp_bipush dX7_links_71 cb_64 (q := 73) rfl ?_
          refine pp_iload_n dX7_links_73 rfl (q := 74) rfl ?_
          refine pp_imul dX7_links_74 (q := 75) rfl ?_
          try rw [pk_mul]
          refine pp_iadd dX7_links_75 (q := 76) rfl ?_
          try rw [nI_add]
          refine pp_iload_n dX7_links_76 rfl (q := 77) rfl ?_
          refine pp_iadd dX7_links_77 (q := 78) rfl ?_
          try rw [nI_add]
          refine pp_iload_n dX7_links_78 rfl (q := 79) rfl ?_
          refine ps_iast (j := 25024 + 64 * m + x) dX7_links_79 (by first | exact h1.1 | exact h.1) (fun _ => rfl) rfl (by omega) (by decide) (q := 80) rfl ?_
          refine pp_aload_n dX7_links_80 rfl isRf_r (q := 81) rfl ?_
          refine ps_get dX7_links_81 fl_X7_8 (by first | exact h1.1 | exact h.1) rfl rfl (q := 84) rfl ?_
          refine pp_sipush dX7_links_84 cs_25024 (q := 87) rfl ?_
          refine pp_bipush dX7_links_87 cb_64 (q := 89) rfl ?_
          refine pp_iload_n dX7_links_89 rfl (q := 90) rfl ?_
          refine pp_imul dX7_links_90 (q := 91) rfl ?_
          try rw [pk_mul]
          refine pp_iadd dX7_links_91 (q := 92) rfl ?_
          try rw [nI_add]
          refine pp_iload_n dX7_links_92 rfl (q := 93) rfl ?_
          refine pp_iadd dX7_links_93 (q := 94) rfl ?_
          try rw [nI_add]
          refine pp_iload_n dX7_links_94 rfl (q := 95) rfl ?_
          refine ps_iast (j := 25024 + 64 * x + m) dX7_links_95 (by first | exact h1.1 | exact h.1) (fun _ => rfl) rfl (by omega) (by decide) (q := 96) rfl ?_
          refine pp_aload_n dX7_links_96 rfl isRf_r (q := 97) rfl ?_
          refine pp_iload dX7_links_97 rfl (q := 99) rfl ?_
          refine pp_iload_n dX7_links_99 rfl (q := 100) rfl ?_
          refine pp_icmp_ne (tgt := 107) dX7_links_100 (by decide) (q := 103) rfl (fun c100 => ?_) (fun c100 => ?_)
          · refine pp_iconst dX7_links_107 ci_1 (q := 108) rfl ?_
            refine ps_callVi dX7_links_108 lk_X7_138 (by exact (by first | exact h1.1 | exact h.1)) (by rfl) (by rfl) (by rfl) (m_dd (m := 0) (A := (liA (runA (sH S)) m x True).1) (n := (sH S).length) (o := False) (show RS _ _ _ _ from ⟨h.1, RF_li h.2 hI.2.2.2 hm hx hne hbc⟩)) (by rfl) (by exact Nat.le_of_ble_eq_true rfl) (by decide) (by decide) (by exact Nat.le_of_ble_eq_true rfl) (q := 111) rfl (fun r108 g108 h108 => ?_)
            obtain ⟨rfl, hZ, hEZ⟩ := h108
            refine ri_ret dX7_links_111 rfl rfl ?_
            have hw := wy0 (v := 10) (A := (runA (sH S))) (n := (sH S).length) (a := nI m) (b := nI x) (show ¬ beyP (runA (sH S)) 10 (nI m) (nI x) from fun q => q.elim (nnM hm) (nnM hx)) (show ¬ misP (runA (sH S)) 10 (nI m) (nI x) from fun q => q) (show ¬ dwnP (runA (sH S)) 10 (nI m) from fun q => q) (show ¬ natP (runA (sH S)) 10 (nI m) (nI x) from fun q => hne (eqT q (by omega) (by omega))) hf
            have es : stA (runA (sH S)) 10 (nI m) (nI x) (lN 0) = liA (runA (sH S)) m x True := by
              show liA (runA (sH S)) (cl (nI m)) (cl (nI x)) True = _
              rw [cl_nI (by omega), cl_nI (by omega)]
            have q := mq_ok (v := 10) (a := nI m) (b := nI x) (sd := lN 0) hR (by omega) hw (EqM.tr ((EqM.rf.sA ms41).sA ms41) hEZ) (by rw [es]; exact hZ)
            rw [es] at q
            first | (rw [li_2.1 (hpc.mp c100)] at q; exact q) | (rw [li_2.2 (fun z => c100 (hpc.mpr z))] at q; exact q)
          · refine pp_iconst dX7_links_103 ci_0 (q := 104) rfl ?_
            refine pp_goto (tgt := 108) dX7_links_104 (by decide) ?_
            refine ps_callVi dX7_links_108 lk_X7_138 (by exact (by first | exact h1.1 | exact h.1)) (by rfl) (by rfl) (by rfl) (m_dd (m := 0) (A := (liA (runA (sH S)) m x True).1) (n := (sH S).length) (o := False) (show RS _ _ _ _ from ⟨h.1, RF_li h.2 hI.2.2.2 hm hx hne hbc⟩)) (by rfl) (by exact Nat.le_of_ble_eq_true rfl) (by decide) (by decide) (by exact Nat.le_of_ble_eq_true rfl) (q := 111) rfl (fun r108 g108 h108 => ?_)
            obtain ⟨rfl, hZ, hEZ⟩ := h108
            refine ri_ret dX7_links_111 rfl rfl ?_
            have hw := wy0 (v := 10) (A := (runA (sH S))) (n := (sH S).length) (a := nI m) (b := nI x) (show ¬ beyP (runA (sH S)) 10 (nI m) (nI x) from fun q => q.elim (nnM hm) (nnM hx)) (show ¬ misP (runA (sH S)) 10 (nI m) (nI x) from fun q => q) (show ¬ dwnP (runA (sH S)) 10 (nI m) from fun q => q) (show ¬ natP (runA (sH S)) 10 (nI m) (nI x) from fun q => hne (eqT q (by omega) (by omega))) hf
            have es : stA (runA (sH S)) 10 (nI m) (nI x) (lN 0) = liA (runA (sH S)) m x True := by
              show liA (runA (sH S)) (cl (nI m)) (cl (nI x)) True = _
              rw [cl_nI (by omega), cl_nI (by omega)]
            have q := mq_ok (v := 10) (a := nI m) (b := nI x) (sd := lN 0) hR (by omega) hw (EqM.tr ((EqM.rf.sA ms41).sA ms41) hEZ) (by rw [es]; exact hZ)
            rw [es] at q
            first | (rw [li_2.1 (hpc.mp c100)] at q; exact q) | (rw [li_2.2 (fun z => c100 (hpc.mpr z))] at q; exact q)
        · have hf := isB_t hb34 c37
          refine pp_aload_n dX7_links_40 rfl isRf_r (q := 41) rfl ?_
          refine pp_bipush dX7_links_41 cb_m10 (q := 43) rfl ?_
          refine ps_callVi dX7_links_43 lk_X7_132 (by exact (by first | exact h1.1 | exact h.1)) (by rfl) (by rfl) (by rfl) (m_no10 h.1) (by rfl) (by exact Nat.le_of_ble_eq_true rfl) (by decide) (by decide) (by exact Nat.le_of_ble_eq_true rfl) (q := 46) rfl (fun r43 g43 h43 => ?_)
          obtain ⟨rfl, rfl⟩ := And.intro h43.1.symm h43.2.symm
          refine ri_ret dX7_links_46 rfl rfl ?_
          exact mq_no hR (by unfold isW; omega) (sp_no (wyA (v := 10) (A := (runA (sH S))) (n := (sH S).length) (a := nI m) (b := nI x) (show ¬ beyP (runA (sH S)) 10 (nI m) (nI x) from fun q => q.elim (nnM hm) (nnM hx)) (show ¬ misP (runA (sH S)) 10 (nI m) (nI x) from fun q => q) (show ¬ dwnP (runA (sH S)) 10 (nI m) from fun q => q) (show ¬ natP (runA (sH S)) 10 (nI m) (nI x) from fun q => hne (eqT q (by omega) (by omega))) hf) (by unfold isW; omega))
      · have q23 := c23
        refine pp_aload_n dX7_links_26 rfl isRf_r (q := 27) rfl ?_
        refine pp_bipush dX7_links_27 cb_m9 (q := 29) rfl ?_
        refine ps_callVi dX7_links_29 lk_X7_132 (by exact (by first | exact h1.1 | exact h.1)) (by rfl) (by rfl) (by rfl) (m_no9 h.1) (by rfl) (by exact Nat.le_of_ble_eq_true rfl) (by decide) (by decide) (by exact Nat.le_of_ble_eq_true rfl) (q := 32) rfl (fun r29 g29 h29 => ?_)
        obtain ⟨rfl, rfl⟩ := And.intro h29.1.symm h29.2.symm
        refine ri_ret dX7_links_32 rfl rfl ?_
        exact mq_no hR (by unfold isW; omega) (sp_no (wy9 (v := 10) (A := (runA (sH S))) (n := (sH S).length) (a := nI m) (b := nI x) (show ¬ beyP (runA (sH S)) 10 (nI m) (nI x) from fun q => q.elim (nnM hm) (nnM hx)) (show ¬ misP (runA (sH S)) 10 (nI m) (nI x) from fun q => q) (show ¬ dwnP (runA (sH S)) 10 (nI m) from fun q => q) (show natP (runA (sH S)) 10 (nI m) (nI x) from q23)) (by unfold isW; omega))
    · have hb := isB_f hb8 c11
      refine pp_aload_n dX7_links_14 rfl isRf_r (q := 15) rfl ?_
      refine pp_bipush dX7_links_15 cb_m3 (q := 17) rfl ?_
      refine ps_callVi dX7_links_17 lk_X7_132 (by exact (by first | exact h1.1 | exact h.1)) (by rfl) (by rfl) (by rfl) (m_no3 h.1) (by rfl) (by exact Nat.le_of_ble_eq_true rfl) (by decide) (by decide) (by exact Nat.le_of_ble_eq_true rfl) (q := 20) rfl (fun r17 g17 h17 => ?_)
      obtain ⟨rfl, rfl⟩ := And.intro h17.1.symm h17.2.symm
      refine ri_ret dX7_links_20 rfl rfl ?_
      first | exact mq_no hR (by unfold isW; omega) (sp_no (wy3 (v := 10) (A := (runA (sH S))) (n := (sH S).length) (a := a) (b := b) (show beyP (runA (sH S)) 10 a b from Or.inl ha)) (by unfold isW; omega)) | exact mq_no hR (by unfold isW; omega) (sp_no (wy3 (v := 10) (A := (runA (sH S))) (n := (sH S).length) (a := a) (b := b) (show beyP (runA (sH S)) 10 a b from Or.inr hb)) (by unfold isW; omega))
set_option maxRecDepth 20000 in
set_option maxHeartbeats 4000000 in
theorem m_cut {ad : Nm → Nat} {g : Sg} {S : CS} {a b : Int32} (hR : RR g S) (hH : okH (sH S)) : PS mX7_cut 0 (ent mX7_cut [.ref (ad (40, 0, 0)), .int a, .int b]) [] ad g (MdQ g (spAct 10 a b (lN 0) S)) := by
  show PP mX7_cut 0 [some (.ref (ad (40, 0, 0))), some (.int a), some (.int b)] [] (Rel ad g) _
  refine pp_aload_n dX7_cut_0 rfl isRf_r (q := 1) rfl ?_
  refine pp_iload_n dX7_cut_1 rfl (q := 2) rfl ?_
  refine pp_iload_n dX7_cut_2 rfl (q := 3) rfl ?_
  refine pp_iconst dX7_cut_3 ci_1 (q := 4) rfl ?_
  refine ps_callVi dX7_cut_4 lk_X7_159 (by exact hR.1.1) (by rfl) (by rfl) (by rfl) (m_links1 hR hH) (by rfl) (by exact Nat.le_of_ble_eq_true rfl) (by decide) (by decide) (by exact Nat.le_of_ble_eq_true rfl) (q := 7) rfl (fun r4 g4 h4 => ?_)
  skip
  refine ri_ret dX7_cut_7 rfl rfl ?_
  exact h4
set_option maxRecDepth 20000 in
set_option maxHeartbeats 4000000 in
theorem m_links0 {ad : Nm → Nat} {g : Sg} {S : CS} {a b : Int32} (hR : RR g S) (hH : okH (sH S)) : PS mX7_links 0 (ent mX7_links [.ref (ad (40, 0, 0)), .int a, .int b, .int (nI 0)]) [] ad g (MdQ g (spAct 11 a b (lN 0) S)) := by
  have h := hR.1
  have hI := inv_run hH
  have hn := okH_len hH
  show PP mX7_links 0 [some (.ref (ad (40, 0, 0))), some (.int a), some (.int b), some (.int (nI 0)), none] [] (Rel ad g) _
  refine pp_iload_n dX7_links_0 rfl (q := 1) rfl ?_
  refine ps_callSi dX7_links_1 lk_X7_121 (by rfl) m_isMem (by rfl) (by exact Nat.le_of_ble_eq_true rfl) (by decide) (by decide) (by exact Nat.le_of_ble_eq_true rfl) (q := 4) rfl (fun r1 g1 h1 => ?_)
  obtain ⟨hb1, rfl⟩ := And.intro h1.1 h1.2.symm
  refine pp_if_eq (tgt := 14) dX7_links_4 (by decide) (q := 7) rfl (fun c4 => ?_) (fun c4 => ?_)
  · have ha := isB_f hb1 c4
    refine pp_aload_n dX7_links_14 rfl isRf_r (q := 15) rfl ?_
    refine pp_bipush dX7_links_15 cb_m3 (q := 17) rfl ?_
    refine ps_callVi dX7_links_17 lk_X7_132 (by exact (by first | exact h1.1 | exact h.1)) (by rfl) (by rfl) (by rfl) (m_no3 h.1) (by rfl) (by exact Nat.le_of_ble_eq_true rfl) (by decide) (by decide) (by exact Nat.le_of_ble_eq_true rfl) (q := 20) rfl (fun r17 g17 h17 => ?_)
    obtain ⟨rfl, rfl⟩ := And.intro h17.1.symm h17.2.symm
    refine ri_ret dX7_links_20 rfl rfl ?_
    first | exact mq_no hR (by unfold isW; omega) (sp_no (wy3 (v := 11) (A := (runA (sH S))) (n := (sH S).length) (a := a) (b := b) (show beyP (runA (sH S)) 11 a b from Or.inl ha)) (by unfold isW; omega)) | exact mq_no hR (by unfold isW; omega) (sp_no (wy3 (v := 11) (A := (runA (sH S))) (n := (sH S).length) (a := a) (b := b) (show beyP (runA (sH S)) 11 a b from Or.inr hb)) (by unfold isW; omega))
  · have ha := isB_t hb1 c4
    refine pp_iload_n dX7_links_7 rfl (q := 8) rfl ?_
    refine ps_callSi dX7_links_8 lk_X7_121 (by rfl) m_isMem (by rfl) (by exact Nat.le_of_ble_eq_true rfl) (by decide) (by decide) (by exact Nat.le_of_ble_eq_true rfl) (q := 11) rfl (fun r8 g8 h8 => ?_)
    obtain ⟨hb8, rfl⟩ := And.intro h8.1 h8.2.symm
    refine pp_if_ne (tgt := 21) dX7_links_11 (by decide) (q := 14) rfl (fun c11 => ?_) (fun c11 => ?_)
    · have hb := isB_t hb8 c11
      obtain ⟨m, hm, rfl⟩ := ha
      obtain ⟨x, hx, rfl⟩ := hb
      refine pp_iload_n dX7_links_21 rfl (q := 22) rfl ?_
      refine pp_iload_n dX7_links_22 rfl (q := 23) rfl ?_
      refine pp_icmp_ne (tgt := 33) dX7_links_23 (by decide) (q := 26) rfl (fun c23 => ?_) (fun c23 => ?_)
      · have hne : m ≠ x := fun q => c23 (by rw [q])
        refine pp_aload_n dX7_links_33 rfl isRf_r (q := 34) rfl ?_
        refine ps_callVi dX7_links_34 lk_X7_128 (by exact (by first | exact h1.1 | exact h.1)) (by rfl) (by rfl) (by rfl) (m_full (N := 0) h (by omega)) (by rfl) (by exact Nat.le_of_ble_eq_true rfl) (by decide) (by decide) (by exact Nat.le_of_ble_eq_true rfl) (q := 37) rfl (fun r34 g34 h34 => ?_)
        obtain ⟨hb34, rfl⟩ := And.intro h34.1 h34.2.symm
        refine pp_if_eq (tgt := 47) dX7_links_37 (by decide) (q := 40) rfl (fun c37 => ?_) (fun c37 => ?_)
        · have hf := Classical.not_not.mp (fun q => isB_f hb34 c37 q)
          have hbc : bC False (nI 0) := ⟨fun q => q.elim, fun _ => rfl⟩
          have hpc := bC_eq (h.2.2.1 m x hm hx) hbc
          refine pp_aload_n dX7_links_47 rfl isRf_r (q := 48) rfl ?_
          refine ps_get dX7_links_48 fl_X7_8 (by first | exact h1.1 | exact h.1) rfl rfl (q := 51) rfl ?_
          refine pp_sipush dX7_links_51 cs_25024 (q := 54) rfl ?_
          refine pp_bipush dX7_links_54 cb_64 (q := 56) rfl ?_
          refine pp_iload_n dX7_links_56 rfl (q := 57) rfl ?_
          refine pp_imul dX7_links_57 (q := 58) rfl ?_
          try rw [pk_mul]
          refine pp_iadd dX7_links_58 (q := 59) rfl ?_
          try rw [nI_add]
          refine pp_iload_n dX7_links_59 rfl (q := 60) rfl ?_
          refine pp_iadd dX7_links_60 (q := 61) rfl ?_
          try rw [nI_add]
          refine ps_iald (j := 25024 + 64 * m + x) dX7_links_61 (by first | exact h1.1 | exact h.1) rfl rfl (by omega) (by decide) (q := 62) rfl ?_
          refine pp_istore dX7_links_62 (by decide) (ls1_4 (nl1 rfl)) (q := 64) rfl ?_
          refine pp_aload_n dX7_links_64 rfl isRf_r (q := 65) rfl ?_
          refine ps_get dX7_links_65 fl_X7_8 (by first | exact h1.1 | exact h.1) rfl rfl (q := 68) rfl ?_
          refine pp_sipush dX7_links_68 cs_25024 (q := 71) rfl ?_
          refine pp_bipush dX7_links_71 cb_64 (q := 73) rfl ?_
          refine pp_iload_n dX7_links_73 rfl (q := 74) rfl ?_
          refine pp_imul dX7_links_74 (q := 75) rfl ?_
          try rw [pk_mul]
          refine pp_iadd dX7_links_75 (q := 76) rfl ?_
          try rw [nI_add]
          refine pp_iload_n dX7_links_76 rfl (q := 77) rfl ?_
          refine pp_iadd dX7_links_77 (q := 78) rfl ?_
          try rw [nI_add]
          refine pp_iload_n dX7_links_78 rfl (q := 79) rfl ?_
          refine ps_iast (j := 25024 + 64 * m + x) dX7_links_79 (by first | exact h1.1 | exact h.1) (fun _ => rfl) rfl (by omega) (by decide) (q := 80) rfl ?_
          refine pp_aload_n dX7_links_80 rfl isRf_r (q := 81) rfl ?_
          refine ps_get dX7_links_81 fl_X7_8 (by first | exact h1.1 | exact h.1) rfl rfl (q := 84) rfl ?_
          refine pp_sipush dX7_links_84 cs_25024 (q := 87) rfl ?_
          refine pp_bipush dX7_links_87 cb_64 (q := 89) rfl ?_
          refine pp_iload_n dX7_links_89 rfl (q := 90) rfl ?_
          refine pp_imul dX7_links_90 (q := 91) rfl ?_
          try rw [pk_mul]
          refine pp_iadd dX7_links_91 (q := 92) rfl ?_
          try rw [nI_add]
          refine pp_iload_n dX7_links_92 rfl (q := 93) rfl ?_
          refine pp_iadd dX7_links_93 (q := 94) rfl ?_
          try rw [nI_add]
          refine pp_iload_n dX7_links_94 rfl (q := 95) rfl ?_
          refine ps_iast (j := 25024 + 64 * x + m) dX7_links_95 (by first | exact h1.1 | exact h.1) (fun _ => rfl) rfl (by omega) (by decide) (q := 96) rfl ?_
          refine pp_aload_n dX7_links_96 rfl isRf_r (q := 97) rfl ?_
          refine pp_iload dX7_links_97 rfl (q := 99) rfl ?_
          refine pp_iload_n dX7_links_99 rfl (q := 100) rfl ?_
          refine pp_icmp_ne (tgt := 107) dX7_links_100 (by decide) (q := 103) rfl (fun c100 => ?_) (fun c100 => ?_)
          · refine pp_iconst dX7_links_107 ci_1 (q := 108) rfl ?_
            refine ps_callVi dX7_links_108 lk_X7_138 (by exact (by first | exact h1.1 | exact h.1)) (by rfl) (by rfl) (by rfl) (m_dd (m := 0) (A := (liA (runA (sH S)) m x False).1) (n := (sH S).length) (o := False) (show RS _ _ _ _ from ⟨h.1, RF_li h.2 hI.2.2.2 hm hx hne hbc⟩)) (by rfl) (by exact Nat.le_of_ble_eq_true rfl) (by decide) (by decide) (by exact Nat.le_of_ble_eq_true rfl) (q := 111) rfl (fun r108 g108 h108 => ?_)
            obtain ⟨rfl, hZ, hEZ⟩ := h108
            refine ri_ret dX7_links_111 rfl rfl ?_
            have hw := wy0 (v := 11) (A := (runA (sH S))) (n := (sH S).length) (a := nI m) (b := nI x) (show ¬ beyP (runA (sH S)) 11 (nI m) (nI x) from fun q => q.elim (nnM hm) (nnM hx)) (show ¬ misP (runA (sH S)) 11 (nI m) (nI x) from fun q => q) (show ¬ dwnP (runA (sH S)) 11 (nI m) from fun q => q) (show ¬ natP (runA (sH S)) 11 (nI m) (nI x) from fun q => hne (eqT q (by omega) (by omega))) hf
            have es : stA (runA (sH S)) 11 (nI m) (nI x) (lN 0) = liA (runA (sH S)) m x False := by
              show liA (runA (sH S)) (cl (nI m)) (cl (nI x)) False = _
              rw [cl_nI (by omega), cl_nI (by omega)]
            have q := mq_ok (v := 11) (a := nI m) (b := nI x) (sd := lN 0) hR (by omega) hw (EqM.tr ((EqM.rf.sA ms41).sA ms41) hEZ) (by rw [es]; exact hZ)
            rw [es] at q
            first | (rw [li_2.1 (hpc.mp c100)] at q; exact q) | (rw [li_2.2 (fun z => c100 (hpc.mpr z))] at q; exact q)
          · refine pp_iconst dX7_links_103 ci_0 (q := 104) rfl ?_
            refine pp_goto (tgt := 108) dX7_links_104 (by decide) ?_
            refine ps_callVi dX7_links_108 lk_X7_138 (by exact (by first | exact h1.1 | exact h.1)) (by rfl) (by rfl) (by rfl) (m_dd (m := 0) (A := (liA (runA (sH S)) m x False).1) (n := (sH S).length) (o := False) (show RS _ _ _ _ from ⟨h.1, RF_li h.2 hI.2.2.2 hm hx hne hbc⟩)) (by rfl) (by exact Nat.le_of_ble_eq_true rfl) (by decide) (by decide) (by exact Nat.le_of_ble_eq_true rfl) (q := 111) rfl (fun r108 g108 h108 => ?_)
            obtain ⟨rfl, hZ, hEZ⟩ := h108
            refine ri_ret dX7_links_111 rfl rfl ?_
            have hw := wy0 (v := 11) (A := (runA (sH S))) (n := (sH S).length) (a := nI m) (b := nI x) (show ¬ beyP (runA (sH S)) 11 (nI m) (nI x) from fun q => q.elim (nnM hm) (nnM hx)) (show ¬ misP (runA (sH S)) 11 (nI m) (nI x) from fun q => q) (show ¬ dwnP (runA (sH S)) 11 (nI m) from fun q => q) (show ¬ natP (runA (sH S)) 11 (nI m) (nI x) from fun q => hne (eqT q (by omega) (by omega))) hf
            have es : stA (runA (sH S)) 11 (nI m) (nI x) (lN 0) = liA (runA (sH S)) m x False := by
              show liA (runA (sH S)) (cl (nI m)) (cl (nI x)) False = _
              rw [cl_nI (by omega), cl_nI (by omega)]
            have q := mq_ok (v := 11) (a := nI m) (b := nI x) (sd := lN 0) hR (by omega) hw (EqM.tr ((EqM.rf.sA ms41).sA ms41) hEZ) (by rw [es]; exact hZ)
            rw [es] at q
            first | (rw [li_2.1 (hpc.mp c100)] at q; exact q) | (rw [li_2.2 (fun z => c100 (hpc.mpr z))] at q; exact q)
        · have hf := isB_t hb34 c37
          refine pp_aload_n dX7_links_40 rfl isRf_r (q := 41) rfl ?_
          refine pp_bipush dX7_links_41 cb_m10 (q := 43) rfl ?_
          refine ps_callVi dX7_links_43 lk_X7_132 (by exact (by first | exact h1.1 | exact h.1)) (by rfl) (by rfl) (by rfl) (m_no10 h.1) (by rfl) (by exact Nat.le_of_ble_eq_true rfl) (by decide) (by decide) (by exact Nat.le_of_ble_eq_true rfl) (q := 46) rfl (fun r43 g43 h43 => ?_)
          obtain ⟨rfl, rfl⟩ := And.intro h43.1.symm h43.2.symm
          refine ri_ret dX7_links_46 rfl rfl ?_
          exact mq_no hR (by unfold isW; omega) (sp_no (wyA (v := 11) (A := (runA (sH S))) (n := (sH S).length) (a := nI m) (b := nI x) (show ¬ beyP (runA (sH S)) 11 (nI m) (nI x) from fun q => q.elim (nnM hm) (nnM hx)) (show ¬ misP (runA (sH S)) 11 (nI m) (nI x) from fun q => q) (show ¬ dwnP (runA (sH S)) 11 (nI m) from fun q => q) (show ¬ natP (runA (sH S)) 11 (nI m) (nI x) from fun q => hne (eqT q (by omega) (by omega))) hf) (by unfold isW; omega))
      · have q23 := c23
        refine pp_aload_n dX7_links_26 rfl isRf_r (q := 27) rfl ?_
        refine pp_bipush dX7_links_27 cb_m9 (q := 29) rfl ?_
        refine ps_callVi dX7_links_29 lk_X7_132 (by exact (by first | exact h1.1 | exact h.1)) (by rfl) (by rfl) (by rfl) (m_no9 h.1) (by rfl) (by exact Nat.le_of_ble_eq_true rfl) (by decide) (by decide) (by exact Nat.le_of_ble_eq_true rfl) (q := 32) rfl (fun r29 g29 h29 => ?_)
        obtain ⟨rfl, rfl⟩ := And.intro h29.1.symm h29.2.symm
        refine ri_ret dX7_links_32 rfl rfl ?_
        exact mq_no hR (by unfold isW; omega) (sp_no (wy9 (v := 11) (A := (runA (sH S))) (n := (sH S).length) (a := nI m) (b := nI x) (show ¬ beyP (runA (sH S)) 11 (nI m) (nI x) from fun q => q.elim (nnM hm) (nnM hx)) (show ¬ misP (runA (sH S)) 11 (nI m) (nI x) from fun q => q) (show ¬ dwnP (runA (sH S)) 11 (nI m) from fun q => q) (show natP (runA (sH S)) 11 (nI m) (nI x) from q23)) (by unfold isW; omega))
    · have hb := isB_f hb8 c11
      refine pp_aload_n dX7_links_14 rfl isRf_r (q := 15) rfl ?_
      refine pp_bipush dX7_links_15 cb_m3 (q := 17) rfl ?_
      refine ps_callVi dX7_links_17 lk_X7_132 (by exact (by first | exact h1.1 | exact h.1)) (by rfl) (by rfl) (by rfl) (m_no3 h.1) (by rfl) (by exact Nat.le_of_ble_eq_true rfl) (by decide) (by decide) (by exact Nat.le_of_ble_eq_true rfl) (q := 20) rfl (fun r17 g17 h17 => ?_)
      obtain ⟨rfl, rfl⟩ := And.intro h17.1.symm h17.2.symm
      refine ri_ret dX7_links_20 rfl rfl ?_
      first | exact mq_no hR (by unfold isW; omega) (sp_no (wy3 (v := 11) (A := (runA (sH S))) (n := (sH S).length) (a := a) (b := b) (show beyP (runA (sH S)) 11 a b from Or.inl ha)) (by unfold isW; omega)) | exact mq_no hR (by unfold isW; omega) (sp_no (wy3 (v := 11) (A := (runA (sH S))) (n := (sH S).length) (a := a) (b := b) (show beyP (runA (sH S)) 11 a b from Or.inr hb)) (by unfold isW; omega))
set_option maxRecDepth 20000 in
set_option maxHeartbeats 4000000 in
theorem m_heal {ad : Nm → Nat} {g : Sg} {S : CS} {a b : Int32} (hR : RR g S) (hH : okH (sH S)) : PS mX7_heal 0 (ent mX7_heal [.ref (ad (40, 0, 0)), .int a, .int b]) [] ad g (MdQ g (spAct 11 a b (lN 0) S)) := by
  show PP mX7_heal 0 [some (.ref (ad (40, 0, 0))), some (.int a), some (.int b)] [] (Rel ad g) _
  refine pp_aload_n dX7_heal_0 rfl isRf_r (q := 1) rfl ?_
  refine pp_iload_n dX7_heal_1 rfl (q := 2) rfl ?_
  refine pp_iload_n dX7_heal_2 rfl (q := 3) rfl ?_
  refine pp_iconst dX7_heal_3 ci_0 (q := 4) rfl ?_
  refine ps_callVi dX7_heal_4 lk_X7_159 (by exact hR.1.1) (by rfl) (by rfl) (by rfl) (m_links0 hR hH) (by rfl) (by exact Nat.le_of_ble_eq_true rfl) (by decide) (by decide) (by exact Nat.le_of_ble_eq_true rfl) (q := 7) rfl (fun r4 g4 h4 => ?_)
  skip
  refine ri_ret dX7_heal_7 rfl rfl ?_
  exact h4
def toQ (g : Sg) (f : Nat → Int32) : Sg → Prop := fun g' => al g' (40, 0, 0) ∧ gA g' (41, 0, 0) = f ∧ gB g' (43, 0, 0) = gB g (43, 0, 0) ∧ EqM g g'
theorem m_toE {ad : Nm → Nat} {g0 g : Sg} {f : Nat → Int32} {m k : Nat} {v : Int32} (h : toQ g0 f g) (hmb : m < 64) (hk : k < 7) : PS mX7_to 0 (ent mX7_to [.ref (ad (40, 0, 0)), .int (nI m), .int (nI k), .int v]) [] ad g (Rv (toQ g0 (upd f (7 * m + k) v))) := by
  refine (m_to h.1 hmb hk).weak (fun r G hG => ?_)
  obtain ⟨g', h1, h2, h3⟩ := hG
  subst h3
  refine ⟨_, h1, h2, h.1, ?_, h.2.2.1, h.2.2.2.sA ms41⟩
  show upd (gA g (41, 0, 0)) _ _ = _
  rw [h.2.1]
theorem m_gqE {ad : Nm → Nat} {g0 g : Sg} {f : Nat → Int32} {m : Nat} (h : toQ g0 f g) (hmb : m < 64) : PS mX7_goesQuiet 0 (ent mX7_goesQuiet [.ref (ad (40, 0, 0)), .int (nI m)]) [] ad g (Rv (toQ g0 (upd (upd (upd (upd f (7 * m + 3) (-1)) (7 * m + 4) (-1)) (7 * m + 5) (nI 0)) (7 * m + 6) (nI 0)))) := by
  refine (m_goesQuiet h.1 hmb).weak (fun r G hG => ?_)
  obtain ⟨g', h1, h2, h3⟩ := hG
  subst h3
  refine ⟨_, h1, h2, h.1, ?_, h.2.2.1, h.2.2.2.sA ms41⟩
  show upd (upd (upd (upd (gA g (41, 0, 0)) _ _) _ _) _ _) _ _ = _
  rw [h.2.1]
def me0 (sd : Int64) (M : Me) : Me := meStop (meZ (meSI (meSI (meSJ (meSI (meSI M 1 (nI 1)) 2 (nI 0)) sd) 4 (nI 1)) 5 (nI 0)))
def fN (f : Nat → Int32) (m : Nat) : Nat → Int32 := upd (upd (upd (upd (upd (upd (upd f (7 * m + 0) (nI 1)) (7 * m + 1) (nI 1)) (7 * m + 2) (nI 0)) (7 * m + 3) (-1)) (7 * m + 4) (-1)) (7 * m + 5) (nI 0)) (7 * m + 6) (nI 0)
theorem fN_ne {f : Nat → Int32} {m i : Nat} (h : i < 7 * m ∨ 7 * m + 7 ≤ i) : fN f m i = f i := by
  unfold fN
  rw [upd_ne (by omega), upd_ne (by omega), upd_ne (by omega), upd_ne (by omega), upd_ne (by omega), upd_ne (by omega), upd_ne (by omega)]
theorem RFo_new {f : Nat → Int32} {sd : Nat → Int64} {m : Nat} {M : Me} {s : Int64} (h : ∀ x, x < 64 → f (nw m x) = nI 0) (hm : m < 64) : RFo (fN f m) (vp_updL sd m s) m (me0 s M) := by
  refine ⟨⟨?_, ?_, ?_, ?_, ?_, ?_, ?_⟩, if_pos rfl, fun x hx => ⟨?_, fun q => absurd rfl q⟩, fun j hj => absurd hj (Nat.not_lt_zero j)⟩
  · unfold fN
    rw [upd_ne (by omega), upd_ne (by omega), upd_ne (by omega), upd_ne (by omega), upd_ne (by omega), upd_ne (by omega), Nat.add_zero, upd_eq]
    show nI 1 = nI 0 + nI 1
    decide
  · unfold fN
    rw [upd_ne (by omega), upd_ne (by omega), upd_ne (by omega), upd_ne (by omega), upd_ne (by omega), upd_eq]
    rfl
  · unfold fN
    rw [upd_ne (by omega), upd_ne (by omega), upd_ne (by omega), upd_ne (by omega), upd_eq]
    rfl
  · unfold fN
    rw [upd_ne (by omega), upd_ne (by omega), upd_ne (by omega), upd_eq]
    rfl
  · unfold fN
    rw [upd_ne (by omega), upd_ne (by omega), upd_eq]
    rfl
  · unfold fN
    rw [upd_ne (by omega), upd_eq]
    rfl
  · unfold fN
    rw [upd_eq]
    rfl
  · rw [fN_ne (by unfold nw; omega), h x hx]
    rfl
set_option maxRecDepth 20000 in
set_option maxHeartbeats 4000000 in
theorem s_mem {ad : Nm → Nat} {g : Sg} {A : AW} {N n i L : Nat} {a : Int32} {sd : Int64} {Q : Option Value → PH → Prop} (h : RS g A n False) (hI : INV N N A) (hi : i < 64) (hk : ∀ c, (mdA A i → c = L + 1) → (¬ mdA A i → c = L) → PP mX7_member 91 [some (.ref (ad (40, 0, 0))), some (.int a), some (.long sd), none, some (.int (nI c)), some (.int (nI (i + 1)))] [] (Rel ad g) Q) : PP mX7_member 91 [some (.ref (ad (40, 0, 0))), some (.int a), some (.long sd), none, some (.int (nI L)), some (.int (nI i))] [] (Rel ad g) Q := by
  refine pp_iload dX7_member_91 rfl (q := 93) rfl ?_
  refine pp_bipush dX7_member_93 cb_64 (q := 95) rfl ?_
  refine pp_icmp_ge (tgt := 123) dX7_member_95 (by decide) (q := 98) rfl (fun c95 => absurd c95 (nI_ge hi (by decide))) (fun c95 => ?_)
  refine pp_iload dX7_member_98 rfl (q := 100) rfl ?_
  refine pp_aload_n dX7_member_100 rfl isRf_r (q := 101) rfl ?_
  refine pp_iload dX7_member_101 rfl (q := 103) rfl ?_
  refine ps_callVi dX7_member_103 lk_X7_125 (by exact h.1) (by rfl) (by rfl) (by rfl) (m_made h hI hi) (by rfl) (by exact Nat.le_of_ble_eq_true rfl) (by decide) (by decide) (by exact Nat.le_of_ble_eq_true rfl) (q := 106) rfl (fun r103 g103 h103 => ?_)
  obtain ⟨hb103, rfl⟩ := And.intro h103.1 h103.2.symm
  refine pp_if_eq (tgt := 113) dX7_member_106 (by decide) (q := 109) rfl (fun c106 => ?_) (fun c106 => ?_)
  · have hd := isB_f hb103 c106
    refine pp_iconst dX7_member_113 ci_0 (q := 114) rfl ?_
    refine pp_iadd dX7_member_114 (q := 115) rfl ?_
    try rw [nI_add]
    refine pp_istore dX7_member_115 (by decide) (ls1_4 nl0) (q := 117) rfl ?_
    refine pp_iinc dX7_member_117 rfl (nI_1 _) (ls1_5 (nl1 rfl)) (q := 120) rfl ?_
    refine pp_goto (tgt := 91) dX7_member_120 (by decide) ?_
    first | exact hk _ (fun q => absurd q hd) (fun _ => rfl) | exact hk _ (fun _ => rfl) (fun q => absurd hd q)
  · have hd := isB_t hb103 c106
    refine pp_iconst dX7_member_109 ci_1 (q := 110) rfl ?_
    refine pp_goto (tgt := 114) dX7_member_110 (by decide) ?_
    refine pp_iadd dX7_member_114 (q := 115) rfl ?_
    try rw [nI_add]
    refine pp_istore dX7_member_115 (by decide) (ls1_4 nl0) (q := 117) rfl ?_
    refine pp_iinc dX7_member_117 rfl (nI_1 _) (ls1_5 (nl1 rfl)) (q := 120) rfl ?_
    refine pp_goto (tgt := 91) dX7_member_120 (by decide) ?_
    first | exact hk _ (fun q => absurd q hd) (fun _ => rfl) | exact hk _ (fun _ => rfl) (fun q => absurd hd q)
theorem l_mem {ad : Nm → Nat} {g : Sg} {A : AW} {N n : Nat} {a : Int32} {sd : Int64} {Q : Option Value → PH → Prop} (h : RS g A n False) (hI : INV N N A) (hk : PP mX7_member 91 [some (.ref (ad (40, 0, 0))), some (.int a), some (.long sd), none, some (.int (nI (cntM A.1))), some (.int (nI 64))] [] (Rel ad g) Q) : ∀ (j i : Nat), 64 - i < j → i ≤ 64 → PP mX7_member 91 [some (.ref (ad (40, 0, 0))), some (.int a), some (.long sd), none, some (.int (nI (sel (fun m => decide ((A.1 m).1 1 = nI 1)) i).length)), some (.int (nI i))] [] (Rel ad g) Q := by
  intro j
  induction j with
  | zero => intro i h; omega
  | succ j ih =>
    intro i hij hik
    by_cases e : i = 64
    · subst e
      exact hk
    · refine s_mem h hI (by omega) (fun c h1 h2 => ?_)
      have ec : c = (sel (fun m => decide ((A.1 m).1 1 = nI 1)) (i + 1)).length := by
        rw [sel_s]
        by_cases hd : (A.1 i).1 1 = nI 1
        · rw [if_pos (decide_eq_true hd), List.length_append]; exact h1 hd
        · rw [if_neg (fun q => hd (of_decide_eq_true q))]; exact h2 hd
      rw [ec]
      exact ih (i + 1) (by omega) (by omega)
set_option maxRecDepth 20000 in
set_option maxHeartbeats 4000000 in
theorem m_member {ad : Nm → Nat} {g : Sg} {S : CS} {a : Int32} {sd : Int64} (hR : RR g S) (hH : okH (sH S)) : PS mX7_member 0 (ent mX7_member [.ref (ad (40, 0, 0)), .int a, .long sd]) [] ad g (MdQ g (spAct 1 a (nI 0) sd S)) := by
  have h := hR.1
  have hI := inv_run hH
  have hn := okH_len hH
  show PP mX7_member 0 [some (.ref (ad (40, 0, 0))), some (.int a), some (.long sd), none, none, none] [] (Rel ad g) _
  refine pp_iload_n dX7_member_0 rfl (q := 1) rfl ?_
  refine ps_callSi dX7_member_1 lk_X7_121 (by rfl) m_isMem (by rfl) (by exact Nat.le_of_ble_eq_true rfl) (by decide) (by decide) (by exact Nat.le_of_ble_eq_true rfl) (q := 4) rfl (fun r1 g1 h1 => ?_)
  obtain ⟨hb1, rfl⟩ := And.intro h1.1 h1.2.symm
  refine pp_if_ne (tgt := 14) dX7_member_4 (by decide) (q := 7) rfl (fun c4 => ?_) (fun c4 => ?_)
  · have hM := isB_t hb1 c4
    obtain ⟨m, hm, rfl⟩ := hM
    refine pp_aload_n dX7_member_14 rfl isRf_r (q := 15) rfl ?_
    refine pp_iload_n dX7_member_15 rfl (q := 16) rfl ?_
    refine ps_callVi dX7_member_16 lk_X7_125 (by exact (by first | exact h5.1 | exact h4.1 | exact h3.1 | exact h2.1 | exact h1.1 | exact h.1)) (by rfl) (by rfl) (by rfl) (m_made h hI hm) (by rfl) (by exact Nat.le_of_ble_eq_true rfl) (by decide) (by decide) (by exact Nat.le_of_ble_eq_true rfl) (q := 19) rfl (fun r16 g16 h16 => ?_)
    obtain ⟨hb16, rfl⟩ := And.intro h16.1 h16.2.symm
    refine pp_if_eq (tgt := 29) dX7_member_19 (by decide) (q := 22) rfl (fun c19 => ?_) (fun c19 => ?_)
    · have hd := isB_f hb16 c19
      refine pp_aload_n dX7_member_29 rfl isRf_r (q := 30) rfl ?_
      refine ps_callVi dX7_member_30 lk_X7_128 (by exact (by first | exact h5.1 | exact h4.1 | exact h3.1 | exact h2.1 | exact h1.1 | exact h.1)) (by rfl) (by rfl) (by rfl) (m_full (N := 0) h (by omega)) (by rfl) (by exact Nat.le_of_ble_eq_true rfl) (by decide) (by decide) (by exact Nat.le_of_ble_eq_true rfl) (q := 33) rfl (fun r30 g30 h30 => ?_)
      obtain ⟨hb30, rfl⟩ := And.intro h30.1 h30.2.symm
      refine pp_if_eq (tgt := 43) dX7_member_33 (by decide) (q := 36) rfl (fun c33 => ?_) (fun c33 => ?_)
      · have hf := Classical.not_not.mp (fun q => isB_f hb30 c33 q)
        have h0 : toQ g (gA g (41, 0, 0)) g := ⟨h.1, rfl, rfl, EqM.rf⟩
        refine pp_aload_n dX7_member_43 rfl isRf_r (q := 44) rfl ?_
        refine pp_iload_n dX7_member_44 rfl (q := 45) rfl ?_
        refine pp_iconst dX7_member_45 ci_0 (q := 46) rfl ?_
        refine pp_iconst dX7_member_46 ci_1 (q := 47) rfl ?_
        refine ps_callVv dX7_member_47 lk_X7_63 (by exact (by first | exact h5.1 | exact h4.1 | exact h3.1 | exact h2.1 | exact h1.1 | exact h.1)) (by rfl) (by rfl) (by rfl) (m_toE h0 hm (by omega)) (by rfl) (by exact Nat.le_of_ble_eq_true rfl) (by decide) (by decide) (by exact Nat.le_of_ble_eq_true rfl) (q := 50) rfl (fun g47 h47 => ?_)
        have h1 := h47
        refine pp_aload_n dX7_member_50 rfl isRf_r (q := 51) rfl ?_
        refine pp_iload_n dX7_member_51 rfl (q := 52) rfl ?_
        refine pp_iconst dX7_member_52 ci_1 (q := 53) rfl ?_
        refine pp_iconst dX7_member_53 ci_1 (q := 54) rfl ?_
        refine ps_callVv dX7_member_54 lk_X7_63 (by exact (by first | exact h5.1 | exact h4.1 | exact h3.1 | exact h2.1 | exact h1.1 | exact h.1)) (by rfl) (by rfl) (by rfl) (m_toE h1 hm (by omega)) (by rfl) (by exact Nat.le_of_ble_eq_true rfl) (by decide) (by decide) (by exact Nat.le_of_ble_eq_true rfl) (q := 57) rfl (fun g54 h54 => ?_)
        have h2 := h54
        refine pp_aload_n dX7_member_57 rfl isRf_r (q := 58) rfl ?_
        refine pp_iload_n dX7_member_58 rfl (q := 59) rfl ?_
        refine pp_iconst dX7_member_59 ci_2 (q := 60) rfl ?_
        refine pp_iconst dX7_member_60 ci_0 (q := 61) rfl ?_
        refine ps_callVv dX7_member_61 lk_X7_63 (by exact (by first | exact h5.1 | exact h4.1 | exact h3.1 | exact h2.1 | exact h1.1 | exact h.1)) (by rfl) (by rfl) (by rfl) (m_toE h2 hm (by omega)) (by rfl) (by exact Nat.le_of_ble_eq_true rfl) (by decide) (by decide) (by exact Nat.le_of_ble_eq_true rfl) (q := 64) rfl (fun g61 h61 => ?_)
        have h3 := h61
        refine pp_aload_n dX7_member_64 rfl isRf_r (q := 65) rfl ?_
        refine pp_iload_n dX7_member_65 rfl (q := 66) rfl ?_
        refine ps_callVv dX7_member_66 lk_X7_135 (by exact (by first | exact h5.1 | exact h4.1 | exact h3.1 | exact h2.1 | exact h1.1 | exact h.1)) (by rfl) (by rfl) (by rfl) (m_gqE h3 hm) (by rfl) (by exact Nat.le_of_ble_eq_true rfl) (by decide) (by decide) (by exact Nat.le_of_ble_eq_true rfl) (q := 69) rfl (fun g66 h66 => ?_)
        have h4 := h66
        refine pp_aload_n dX7_member_69 rfl isRf_r (q := 70) rfl ?_
        refine ps_get dX7_member_70 fl_X7_17 (by first | exact h5.1 | exact h4.1 | exact h3.1 | exact h2.1 | exact h1.1 | exact h.1) rfl rfl (q := 73) rfl ?_
        refine pp_iload_n dX7_member_73 rfl (q := 74) rfl ?_
        refine pp_lload_n dX7_member_74 rfl (q := 75) rfl ?_
        refine ps_last dX7_member_75 (by first | exact h5.1 | exact h4.1 | exact h3.1 | exact h2.1 | exact h1.1 | exact h.1) (fun _ => rfl) rfl hm (by decide) (q := 76) rfl ?_
        have h5 : RS (sB g66 (43, 0, 0) (vp_updL (gB g66 (43, 0, 0)) m sd)) (aSet (runA (sH S)) m (me0 sd ((runA (sH S)).1 m))) (sH S).length False := by
          refine ⟨h4.1, ?_⟩
          show RF (gA g66 (41, 0, 0)) (vp_updL (gB g66 (43, 0, 0)) m sd) _ _ _
          rw [h4.2.1, h4.2.2.1]
          exact h.2.mem hm (fun i hi => fN_ne (by unfold ownI at hi; omega)) (fun m' hm' => if_neg hm') (RFo_new ((h.2.1 m hm).2 hd).2 hm) rfl
        have hE5 : EqM g (sB g66 (43, 0, 0) (vp_updL (gB g66 (43, 0, 0)) m sd)) := h4.2.2.2.sB ms43
        refine pp_aload_n dX7_member_76 rfl isRf_r (q := 77) rfl ?_
        refine pp_iload_n dX7_member_77 rfl (q := 78) rfl ?_
        refine pp_iload_n dX7_member_78 rfl (q := 79) rfl ?_
        refine pp_iconst dX7_member_79 ci_1 (q := 80) rfl ?_
        refine pp_iconst dX7_member_80 ci_1 (q := 81) rfl ?_
        refine pp_iconst dX7_member_81 ci_m1 (q := 82) rfl ?_
        refine ps_callVv dX7_member_82 lk_X7_67 (by exact (by first | exact h5.1 | exact h4.1 | exact h3.1 | exact h2.1 | exact h1.1 | exact h.1)) (by rfl) (by rfl) (by rfl) (m_wr h5 hm hm (md_set rfl)) (by rfl) (by exact Nat.le_of_ble_eq_true rfl) (by decide) (by decide) (by exact Nat.le_of_ble_eq_true rfl) (q := 85) rfl (fun g82 h82 => ?_)
        obtain ⟨h6, hE6⟩ := h82
        rw [aSet_m, aSet_aSet] at h6
        have h6 : RS g82 (aMk (runA (sH S)) m sd) (sH S).length False := h6
        have hI6 := aMk_INV (sd := sd) hI (by omega) hm hd
        refine pp_iconst dX7_member_85 ci_0 (q := 86) rfl ?_
        refine pp_istore dX7_member_86 (by decide) (ls1_4 nl0) (q := 88) rfl ?_
        refine pp_iconst dX7_member_88 ci_0 (q := 89) rfl ?_
        refine pp_istore dX7_member_89 (by decide) (ls1_5 (nl1 rfl)) (q := 91) rfl ?_
        refine l_mem h6 hI6 ?_ 65 0 (by omega) (by omega)
        refine pp_iload dX7_member_91 rfl (q := 93) rfl ?_
        refine pp_bipush dX7_member_93 cb_64 (q := 95) rfl ?_
        refine pp_icmp_ge (tgt := 123) dX7_member_95 (by decide) (q := 98) rfl (fun c95 => ?_) (fun c95 => absurd (by decide) c95)
        refine pp_aload_n dX7_member_123 rfl isRf_r (q := 124) rfl ?_
        refine pp_iload dX7_member_124 rfl (q := 126) rfl ?_
        refine ps_callVi dX7_member_126 lk_X7_138 (by exact (by first | exact h6.1 | exact h5.1 | exact h4.1 | exact h3.1 | exact h2.1 | exact h1.1 | exact h.1)) (by rfl) (by rfl) (by rfl) (m_dd (m := 0) h6) (by rfl) (by exact Nat.le_of_ble_eq_true rfl) (by decide) (by decide) (by exact Nat.le_of_ble_eq_true rfl) (q := 129) rfl (fun r126 g126 h126 => ?_)
        obtain ⟨rfl, hZ, hEZ⟩ := h126
        refine ri_ret dX7_member_129 rfl rfl ?_
        have hw := wy0 (v := 1) (A := (runA (sH S))) (n := (sH S).length) (a := nI m) (b := nI 0) (show ¬ beyP (runA (sH S)) 1 (nI m) (nI 0) from nnM hm) (show ¬ misP (runA (sH S)) 1 (nI m) (nI 0) from fun q => q) (show ¬ dwnP (runA (sH S)) 1 (nI m) from fun q => q) (show ¬ natP (runA (sH S)) 1 (nI m) (nI 0) from fun q => hd (mdX_i hm q)) hf
        have es : stA (runA (sH S)) 1 (nI m) (nI 0) sd = (aMk (runA (sH S)) m sd, nI ((runA (sH S)).2.1 + 1)) := by
          show (aMk (runA (sH S)) (cl (nI m)) sd, nI ((runA (sH S)).2.1 + 1)) = _
          rw [cl_nI (by omega)]
        have q := mq_ok (v := 1) (a := nI m) (b := nI 0) (sd := sd) hR (by omega) hw ((hE5.tr hE6).tr hEZ) (by rw [es]; exact hZ)
        rw [es] at q
        rw [← hI6.2.2.1]
        exact q
      · have hf := isB_t hb30 c33
        refine pp_aload_n dX7_member_36 rfl isRf_r (q := 37) rfl ?_
        refine pp_bipush dX7_member_37 cb_m10 (q := 39) rfl ?_
        refine ps_callVi dX7_member_39 lk_X7_132 (by exact (by first | exact h5.1 | exact h4.1 | exact h3.1 | exact h2.1 | exact h1.1 | exact h.1)) (by rfl) (by rfl) (by rfl) (m_no10 h.1) (by rfl) (by exact Nat.le_of_ble_eq_true rfl) (by decide) (by decide) (by exact Nat.le_of_ble_eq_true rfl) (q := 42) rfl (fun r39 g39 h39 => ?_)
        obtain ⟨rfl, rfl⟩ := And.intro h39.1.symm h39.2.symm
        refine ri_ret dX7_member_42 rfl rfl ?_
        exact mq_no hR (by unfold isW; omega) (sp_no (wyA (v := 1) (A := (runA (sH S))) (n := (sH S).length) (a := nI m) (b := nI 0) (show ¬ beyP (runA (sH S)) 1 (nI m) (nI 0) from nnM hm) (show ¬ misP (runA (sH S)) 1 (nI m) (nI 0) from fun q => q) (show ¬ dwnP (runA (sH S)) 1 (nI m) from fun q => q) (show ¬ natP (runA (sH S)) 1 (nI m) (nI 0) from fun q => hd (mdX_i hm q)) hf) (by unfold isW; omega))
    · have hd := isB_t hb16 c19
      refine pp_aload_n dX7_member_22 rfl isRf_r (q := 23) rfl ?_
      refine pp_bipush dX7_member_23 cb_m9 (q := 25) rfl ?_
      refine ps_callVi dX7_member_25 lk_X7_132 (by exact (by first | exact h5.1 | exact h4.1 | exact h3.1 | exact h2.1 | exact h1.1 | exact h.1)) (by rfl) (by rfl) (by rfl) (m_no9 h.1) (by rfl) (by exact Nat.le_of_ble_eq_true rfl) (by decide) (by decide) (by exact Nat.le_of_ble_eq_true rfl) (q := 28) rfl (fun r25 g25 h25 => ?_)
      obtain ⟨rfl, rfl⟩ := And.intro h25.1.symm h25.2.symm
      refine ri_ret dX7_member_28 rfl rfl ?_
      exact mq_no hR (by unfold isW; omega) (sp_no (wy9 (v := 1) (A := (runA (sH S))) (n := (sH S).length) (a := nI m) (b := nI 0) (show ¬ beyP (runA (sH S)) 1 (nI m) (nI 0) from nnM hm) (show ¬ misP (runA (sH S)) 1 (nI m) (nI 0) from fun q => q) (show ¬ dwnP (runA (sH S)) 1 (nI m) from fun q => q) (show natP (runA (sH S)) 1 (nI m) (nI 0) from ⟨m, hm, rfl, hd⟩)) (by unfold isW; omega))
  · have hM := isB_f hb1 c4
    refine pp_aload_n dX7_member_7 rfl isRf_r (q := 8) rfl ?_
    refine pp_bipush dX7_member_8 cb_m3 (q := 10) rfl ?_
    refine ps_callVi dX7_member_10 lk_X7_132 (by exact (by first | exact h5.1 | exact h4.1 | exact h3.1 | exact h2.1 | exact h1.1 | exact h.1)) (by rfl) (by rfl) (by rfl) (m_no3 h.1) (by rfl) (by exact Nat.le_of_ble_eq_true rfl) (by decide) (by decide) (by exact Nat.le_of_ble_eq_true rfl) (q := 13) rfl (fun r10 g10 h10 => ?_)
    obtain ⟨rfl, rfl⟩ := And.intro h10.1.symm h10.2.symm
    refine ri_ret dX7_member_13 rfl rfl ?_
    exact mq_no hR (by unfold isW; omega) (sp_no (wy3 (v := 1) (A := (runA (sH S))) (n := (sH S).length) (a := a) (b := nI 0) (show beyP (runA (sH S)) 1 a (nI 0) from hM)) (by unfold isW; omega))
