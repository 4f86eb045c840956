def stP (B : Bk) (who x kind term v hd : Int32) : Prop := (∃ l, l < bL B ∧ v = nI l ∧ bl B l 5 = nI 1 ∧ bl B l 2 = who) ∧ ∃ i, pcO B (cl v) x = some i ∧ bp B (cl (bl B (cl v) 7) + i) 1 = kind ∧ bp B (cl (bl B (cl v) 7) + i) 2 = term ∧ bp B (cl (bl B (cl v) 7) + i) 3 = hd
set_option maxRecDepth 20000 in
set_option maxHeartbeats 4000000 in
theorem s_st0 {ad : Nm → Nat} {g : Sg} {A : AW} {n l k s i c : Nat} {who x kind term hd : Int32} (h : RS g A n False) (hP : bP (aB A) ≤ 20000) (hLb : bL (aB A) ≤ 1200) (hp : pOk (aB A) l k s) (hpo : pcO (aB A) l x = none) : PS mX7_stands 42 [some (.ref (ad (40, 0, 0))), some (.int (nI i)), some (.int who), some (.int x), some (.int kind), some (.int term), some (.int (nI l)), none] [] ad g (Ri (fun v g' => isB v (stP (aB A) who x kind term (nI l) hd) ∧ g' = g)) := by
  refine pp_aload_n dX7_stands_42 rfl isRf_r (q := 43) rfl ?_
  refine pp_iload dX7_stands_43 rfl (q := 45) rfl ?_
  refine pp_iload_n dX7_stands_45 rfl (q := 46) rfl ?_
  refine ps_callVi dX7_stands_46 lk_X7_203 (by exact h.1) (by rfl) (by rfl) (by rfl) (m_pieceOf h hP hp) (by rfl) (by exact Nat.le_of_ble_eq_true rfl) (by decide) (by decide) (by exact Nat.le_of_ble_eq_true rfl) (q := 49) rfl (fun r46 g46 h46 => ?_)
  obtain ⟨rfl, rfl⟩ := And.intro h46.1.symm h46.2.symm
  rw [hpo]
  change PP mX7_stands 49 _ [Value.int (-1)] _ _
  refine pp_istore dX7_stands_49 (by decide) (ls1_7 (nl1 rfl)) (q := 51) rfl ?_
  refine pp_iload dX7_stands_51 rfl (q := 53) rfl ?_
  refine pp_if_lt (tgt := 122) dX7_stands_53 (by decide) (q := 56) rfl (fun c53 => ?_) (fun c53 => absurd (by decide) c53)
  refine pp_iconst dX7_stands_122 ci_0 (q := 123) rfl ?_
  refine ri_ret dX7_stands_123 rfl (by decide) ?_
  exact ⟨isB_0 (fun q => by obtain ⟨j, q1, -⟩ := q.2; rw [cl_nI (by have := hp.1; omega), hpo] at q1; exact absurd q1 (by simp)), rfl⟩
set_option maxRecDepth 20000 in
set_option maxHeartbeats 4000000 in
theorem s_st1 {ad : Nm → Nat} {g : Sg} {A : AW} {n l k s i c : Nat} {who x kind term hd : Int32} {j : Nat} (h : RS g A n False) (hP : bP (aB A) ≤ 20000) (hLb : bL (aB A) ≤ 1200) (hp : pOk (aB A) l k s) (hA : ∃ l', l' < bL (aB A) ∧ nI l = nI l' ∧ bl (aB A) l' 5 = nI 1 ∧ bl (aB A) l' 2 = who) (hj : j < k) (hsk : s + k ≤ bP (aB A)) (hpo : pcO (aB A) l x = some j) (h9 : gI g (40, 0, 0) 9 = nI c) (hic : i < c) (hc : c ≤ 1200) (hd0 : ¬ i + 1 < c → hd = -1) (hd1 : i + 1 < c → gA g (46, 0, 0) (i + 1) = hd) : PS mX7_stands 42 [some (.ref (ad (40, 0, 0))), some (.int (nI i)), some (.int who), some (.int x), some (.int kind), some (.int term), some (.int (nI l)), none] [] ad g (Ri (fun v g' => isB v (stP (aB A) who x kind term (nI l) hd) ∧ g' = g)) := by
  refine pp_aload_n dX7_stands_42 rfl isRf_r (q := 43) rfl ?_
  refine pp_iload dX7_stands_43 rfl (q := 45) rfl ?_
  refine pp_iload_n dX7_stands_45 rfl (q := 46) rfl ?_
  refine ps_callVi dX7_stands_46 lk_X7_203 (by exact h.1) (by rfl) (by rfl) (by rfl) (m_pieceOf h hP hp) (by rfl) (by exact Nat.le_of_ble_eq_true rfl) (by decide) (by decide) (by exact Nat.le_of_ble_eq_true rfl) (q := 49) rfl (fun r46 g46 h46 => ?_)
  obtain ⟨rfl, rfl⟩ := And.intro h46.1.symm h46.2.symm
  rw [hpo]
  change PP mX7_stands 49 _ [Value.int (nI (38720 + 4 * (s + j)))] _ _
  refine pp_istore dX7_stands_49 (by decide) (ls1_7 (nl1 rfl)) (q := 51) rfl ?_
  refine pp_iload dX7_stands_51 rfl (q := 53) rfl ?_
  refine pp_if_lt (tgt := 122) dX7_stands_53 (by decide) (q := 56) rfl (fun c53 => absurd c53 (nI_nl2 (by omega))) (fun c53 => ?_)
  refine pp_aload_n dX7_stands_56 rfl isRf_r (q := 57) rfl ?_
  refine ps_get dX7_stands_57 fl_X7_8 h.1 rfl rfl (q := 60) rfl ?_
  refine pp_iload dX7_stands_60 rfl (q := 62) rfl ?_
  refine pp_iconst dX7_stands_62 ci_1 (q := 63) rfl ?_
  refine pp_iadd dX7_stands_63 (q := 64) rfl ?_
  try rw [nI_add]
  refine ps_iald (j := 38720 + 4 * (s + j) + 1) dX7_stands_64 h.1 rfl rfl (by omega) (by decide) (q := 65) rfl ?_
  rw [h.2.pc (c := 1) (by omega) (by omega)]
  refine pp_iload dX7_stands_65 rfl (q := 67) rfl ?_
  refine pp_icmp_ne (tgt := 122) dX7_stands_67 (by decide) (q := 70) rfl (fun c67 => ?_) (fun c67 => ?_)
  · skip
    refine pp_iconst dX7_stands_122 ci_0 (q := 123) rfl ?_
    refine ri_ret dX7_stands_123 rfl (by decide) ?_
    first
      | exact ⟨isB_1 ⟨hA, j, by rw [cl_nI (n := l) (by have := hp.1; omega)]; exact hpo, by rw [cl_nI (n := l) (by have := hp.1; omega), hp.2.2.1, cl_nI (n := s) (by omega)]; exact c67, by rw [cl_nI (n := l) (by have := hp.1; omega), hp.2.2.1, cl_nI (n := s) (by omega)]; exact c81, by rw [cl_nI (n := l) (by have := hp.1; omega), hp.2.2.1, cl_nI (n := s) (by omega)]; exact c115⟩, rfl⟩
      | exact ⟨isB_1 ⟨hA, j, by rw [cl_nI (n := l) (by have := hp.1; omega)]; exact hpo, by rw [cl_nI (n := l) (by have := hp.1; omega), hp.2.2.1, cl_nI (n := s) (by omega)]; exact c67, by rw [cl_nI (n := l) (by have := hp.1; omega), hp.2.2.1, cl_nI (n := s) (by omega)]; exact c81, by rw [cl_nI (n := l) (by have := hp.1; omega), hp.2.2.1, cl_nI (n := s) (by omega)]; rw [e1]; exact c115⟩, rfl⟩
      | exact ⟨isB_0 (fun q => by obtain ⟨j2, q1, q2, q3, q4⟩ := q.2; rw [cl_nI (n := l) (by have := hp.1; omega)] at q1 q2 q3 q4; rw [hpo] at q1; have ej := Option.some.inj q1; subst ej; rw [hp.2.2.1, cl_nI (n := s) (by omega)] at q2 q3 q4; exact c67 q2), rfl⟩
      | exact ⟨isB_0 (fun q => by obtain ⟨j2, q1, q2, q3, q4⟩ := q.2; rw [cl_nI (n := l) (by have := hp.1; omega)] at q1 q2 q3 q4; rw [hpo] at q1; have ej := Option.some.inj q1; subst ej; rw [hp.2.2.1, cl_nI (n := s) (by omega)] at q2 q3 q4; exact c81 q3), rfl⟩
      | exact ⟨isB_0 (fun q => by obtain ⟨j2, q1, q2, q3, q4⟩ := q.2; rw [cl_nI (n := l) (by have := hp.1; omega)] at q1 q2 q3 q4; rw [hpo] at q1; have ej := Option.some.inj q1; subst ej; rw [hp.2.2.1, cl_nI (n := s) (by omega)] at q2 q3 q4; exact c115 q4), rfl⟩
      | exact ⟨isB_0 (fun q => by obtain ⟨j2, q1, q2, q3, q4⟩ := q.2; rw [cl_nI (n := l) (by have := hp.1; omega)] at q1 q2 q3 q4; rw [hpo] at q1; have ej := Option.some.inj q1; subst ej; rw [hp.2.2.1, cl_nI (n := s) (by omega)] at q2 q3 q4; exact c115 (e1 ▸ q4)), rfl⟩
  · skip
    refine pp_aload_n dX7_stands_70 rfl isRf_r (q := 71) rfl ?_
    refine ps_get dX7_stands_71 fl_X7_8 h.1 rfl rfl (q := 74) rfl ?_
    refine pp_iload dX7_stands_74 rfl (q := 76) rfl ?_
    refine pp_iconst dX7_stands_76 ci_2 (q := 77) rfl ?_
    refine pp_iadd dX7_stands_77 (q := 78) rfl ?_
    try rw [nI_add]
    refine ps_iald (j := 38720 + 4 * (s + j) + 2) dX7_stands_78 h.1 rfl rfl (by omega) (by decide) (q := 79) rfl ?_
    rw [h.2.pc (c := 2) (by omega) (by omega)]
    refine pp_iload dX7_stands_79 rfl (q := 81) rfl ?_
    refine pp_icmp_ne (tgt := 122) dX7_stands_81 (by decide) (q := 84) rfl (fun c81 => ?_) (fun c81 => ?_)
    · skip
      refine pp_iconst dX7_stands_122 ci_0 (q := 123) rfl ?_
      refine ri_ret dX7_stands_123 rfl (by decide) ?_
      first
        | exact ⟨isB_1 ⟨hA, j, by rw [cl_nI (n := l) (by have := hp.1; omega)]; exact hpo, by rw [cl_nI (n := l) (by have := hp.1; omega), hp.2.2.1, cl_nI (n := s) (by omega)]; exact c67, by rw [cl_nI (n := l) (by have := hp.1; omega), hp.2.2.1, cl_nI (n := s) (by omega)]; exact c81, by rw [cl_nI (n := l) (by have := hp.1; omega), hp.2.2.1, cl_nI (n := s) (by omega)]; exact c115⟩, rfl⟩
        | exact ⟨isB_1 ⟨hA, j, by rw [cl_nI (n := l) (by have := hp.1; omega)]; exact hpo, by rw [cl_nI (n := l) (by have := hp.1; omega), hp.2.2.1, cl_nI (n := s) (by omega)]; exact c67, by rw [cl_nI (n := l) (by have := hp.1; omega), hp.2.2.1, cl_nI (n := s) (by omega)]; exact c81, by rw [cl_nI (n := l) (by have := hp.1; omega), hp.2.2.1, cl_nI (n := s) (by omega)]; rw [e1]; exact c115⟩, rfl⟩
        | exact ⟨isB_0 (fun q => by obtain ⟨j2, q1, q2, q3, q4⟩ := q.2; rw [cl_nI (n := l) (by have := hp.1; omega)] at q1 q2 q3 q4; rw [hpo] at q1; have ej := Option.some.inj q1; subst ej; rw [hp.2.2.1, cl_nI (n := s) (by omega)] at q2 q3 q4; exact c67 q2), rfl⟩
        | exact ⟨isB_0 (fun q => by obtain ⟨j2, q1, q2, q3, q4⟩ := q.2; rw [cl_nI (n := l) (by have := hp.1; omega)] at q1 q2 q3 q4; rw [hpo] at q1; have ej := Option.some.inj q1; subst ej; rw [hp.2.2.1, cl_nI (n := s) (by omega)] at q2 q3 q4; exact c81 q3), rfl⟩
        | exact ⟨isB_0 (fun q => by obtain ⟨j2, q1, q2, q3, q4⟩ := q.2; rw [cl_nI (n := l) (by have := hp.1; omega)] at q1 q2 q3 q4; rw [hpo] at q1; have ej := Option.some.inj q1; subst ej; rw [hp.2.2.1, cl_nI (n := s) (by omega)] at q2 q3 q4; exact c115 q4), rfl⟩
        | exact ⟨isB_0 (fun q => by obtain ⟨j2, q1, q2, q3, q4⟩ := q.2; rw [cl_nI (n := l) (by have := hp.1; omega)] at q1 q2 q3 q4; rw [hpo] at q1; have ej := Option.some.inj q1; subst ej; rw [hp.2.2.1, cl_nI (n := s) (by omega)] at q2 q3 q4; exact c115 (e1 ▸ q4)), rfl⟩
    · skip
      refine pp_aload_n dX7_stands_84 rfl isRf_r (q := 85) rfl ?_
      refine ps_get dX7_stands_85 fl_X7_8 h.1 rfl rfl (q := 88) rfl ?_
      refine pp_iload dX7_stands_88 rfl (q := 90) rfl ?_
      refine pp_iconst dX7_stands_90 ci_3 (q := 91) rfl ?_
      refine pp_iadd dX7_stands_91 (q := 92) rfl ?_
      try rw [nI_add]
      refine ps_iald (j := 38720 + 4 * (s + j) + 3) dX7_stands_92 h.1 rfl rfl (by omega) (by decide) (q := 93) rfl ?_
      rw [h.2.pc (c := 3) (by omega) (by omega)]
      refine pp_iload_n dX7_stands_93 rfl (q := 94) rfl ?_
      refine pp_iconst dX7_stands_94 ci_1 (q := 95) rfl ?_
      refine pp_iadd dX7_stands_95 (q := 96) rfl ?_
      try rw [nI_add]
      refine pp_aload_n dX7_stands_96 rfl isRf_r (q := 97) rfl ?_
      refine ps_get dX7_stands_97 fl_X7_200 h.1 rfl rfl (q := 100) rfl ?_
      rw [h9]
      refine pp_icmp_ge (tgt := 114) dX7_stands_100 (by decide) (q := 103) rfl (fun c100 => ?_) (fun c100 => ?_)
      · have e1 : hd = -1 := hd0 (by have := leT c100 (by omega) (by omega); omega)
        refine pp_iconst dX7_stands_114 ci_m1 (q := 115) rfl ?_
        refine pp_icmp_ne (tgt := 122) dX7_stands_115 (by decide) (q := 118) rfl (fun c115 => ?_) (fun c115 => ?_)
        · skip
          refine pp_iconst dX7_stands_122 ci_0 (q := 123) rfl ?_
          refine ri_ret dX7_stands_123 rfl (by decide) ?_
          first
            | exact ⟨isB_1 ⟨hA, j, by rw [cl_nI (n := l) (by have := hp.1; omega)]; exact hpo, by rw [cl_nI (n := l) (by have := hp.1; omega), hp.2.2.1, cl_nI (n := s) (by omega)]; exact c67, by rw [cl_nI (n := l) (by have := hp.1; omega), hp.2.2.1, cl_nI (n := s) (by omega)]; exact c81, by rw [cl_nI (n := l) (by have := hp.1; omega), hp.2.2.1, cl_nI (n := s) (by omega)]; exact c115⟩, rfl⟩
            | exact ⟨isB_1 ⟨hA, j, by rw [cl_nI (n := l) (by have := hp.1; omega)]; exact hpo, by rw [cl_nI (n := l) (by have := hp.1; omega), hp.2.2.1, cl_nI (n := s) (by omega)]; exact c67, by rw [cl_nI (n := l) (by have := hp.1; omega), hp.2.2.1, cl_nI (n := s) (by omega)]; exact c81, by rw [cl_nI (n := l) (by have := hp.1; omega), hp.2.2.1, cl_nI (n := s) (by omega)]; rw [e1]; exact c115⟩, rfl⟩
            | exact ⟨isB_0 (fun q => by obtain ⟨j2, q1, q2, q3, q4⟩ := q.2; rw [cl_nI (n := l) (by have := hp.1; omega)] at q1 q2 q3 q4; rw [hpo] at q1; have ej := Option.some.inj q1; subst ej; rw [hp.2.2.1, cl_nI (n := s) (by omega)] at q2 q3 q4; exact c67 q2), rfl⟩
            | exact ⟨isB_0 (fun q => by obtain ⟨j2, q1, q2, q3, q4⟩ := q.2; rw [cl_nI (n := l) (by have := hp.1; omega)] at q1 q2 q3 q4; rw [hpo] at q1; have ej := Option.some.inj q1; subst ej; rw [hp.2.2.1, cl_nI (n := s) (by omega)] at q2 q3 q4; exact c81 q3), rfl⟩
            | exact ⟨isB_0 (fun q => by obtain ⟨j2, q1, q2, q3, q4⟩ := q.2; rw [cl_nI (n := l) (by have := hp.1; omega)] at q1 q2 q3 q4; rw [hpo] at q1; have ej := Option.some.inj q1; subst ej; rw [hp.2.2.1, cl_nI (n := s) (by omega)] at q2 q3 q4; exact c115 q4), rfl⟩
            | exact ⟨isB_0 (fun q => by obtain ⟨j2, q1, q2, q3, q4⟩ := q.2; rw [cl_nI (n := l) (by have := hp.1; omega)] at q1 q2 q3 q4; rw [hpo] at q1; have ej := Option.some.inj q1; subst ej; rw [hp.2.2.1, cl_nI (n := s) (by omega)] at q2 q3 q4; exact c115 (e1 ▸ q4)), rfl⟩
        · skip
          refine pp_iconst dX7_stands_118 ci_1 (q := 119) rfl ?_
          refine pp_goto (tgt := 123) dX7_stands_119 (by decide) ?_
          refine ri_ret dX7_stands_123 rfl (by decide) ?_
          first
            | exact ⟨isB_1 ⟨hA, j, by rw [cl_nI (n := l) (by have := hp.1; omega)]; exact hpo, by rw [cl_nI (n := l) (by have := hp.1; omega), hp.2.2.1, cl_nI (n := s) (by omega)]; exact c67, by rw [cl_nI (n := l) (by have := hp.1; omega), hp.2.2.1, cl_nI (n := s) (by omega)]; exact c81, by rw [cl_nI (n := l) (by have := hp.1; omega), hp.2.2.1, cl_nI (n := s) (by omega)]; exact c115⟩, rfl⟩
            | exact ⟨isB_1 ⟨hA, j, by rw [cl_nI (n := l) (by have := hp.1; omega)]; exact hpo, by rw [cl_nI (n := l) (by have := hp.1; omega), hp.2.2.1, cl_nI (n := s) (by omega)]; exact c67, by rw [cl_nI (n := l) (by have := hp.1; omega), hp.2.2.1, cl_nI (n := s) (by omega)]; exact c81, by rw [cl_nI (n := l) (by have := hp.1; omega), hp.2.2.1, cl_nI (n := s) (by omega)]; rw [e1]; exact c115⟩, rfl⟩
            | exact ⟨isB_0 (fun q => by obtain ⟨j2, q1, q2, q3, q4⟩ := q.2; rw [cl_nI (n := l) (by have := hp.1; omega)] at q1 q2 q3 q4; rw [hpo] at q1; have ej := Option.some.inj q1; subst ej; rw [hp.2.2.1, cl_nI (n := s) (by omega)] at q2 q3 q4; exact c67 q2), rfl⟩
            | exact ⟨isB_0 (fun q => by obtain ⟨j2, q1, q2, q3, q4⟩ := q.2; rw [cl_nI (n := l) (by have := hp.1; omega)] at q1 q2 q3 q4; rw [hpo] at q1; have ej := Option.some.inj q1; subst ej; rw [hp.2.2.1, cl_nI (n := s) (by omega)] at q2 q3 q4; exact c81 q3), rfl⟩
            | exact ⟨isB_0 (fun q => by obtain ⟨j2, q1, q2, q3, q4⟩ := q.2; rw [cl_nI (n := l) (by have := hp.1; omega)] at q1 q2 q3 q4; rw [hpo] at q1; have ej := Option.some.inj q1; subst ej; rw [hp.2.2.1, cl_nI (n := s) (by omega)] at q2 q3 q4; exact c115 q4), rfl⟩
            | exact ⟨isB_0 (fun q => by obtain ⟨j2, q1, q2, q3, q4⟩ := q.2; rw [cl_nI (n := l) (by have := hp.1; omega)] at q1 q2 q3 q4; rw [hpo] at q1; have ej := Option.some.inj q1; subst ej; rw [hp.2.2.1, cl_nI (n := s) (by omega)] at q2 q3 q4; exact c115 (e1 ▸ q4)), rfl⟩
      · have hlt : i + 1 < c := ltT (Int32.not_le.mp c100) (by omega) (by omega)
        refine pp_aload_n dX7_stands_103 rfl isRf_r (q := 104) rfl ?_
        refine ps_get dX7_stands_104 fl_X7_27 h.1 rfl rfl (q := 107) rfl ?_
        refine pp_iload_n dX7_stands_107 rfl (q := 108) rfl ?_
        refine pp_iconst dX7_stands_108 ci_1 (q := 109) rfl ?_
        refine pp_iadd dX7_stands_109 (q := 110) rfl ?_
        try rw [nI_add]
        refine ps_iald (j := i + 1) dX7_stands_110 h.1 rfl rfl (by show i + 1 < 1300; omega) (by decide) (q := 111) rfl ?_
        rw [hd1 hlt]
        refine pp_goto (tgt := 115) dX7_stands_111 (by decide) ?_
        refine pp_icmp_ne (tgt := 122) dX7_stands_115 (by decide) (q := 118) rfl (fun c115 => ?_) (fun c115 => ?_)
        · skip
          refine pp_iconst dX7_stands_122 ci_0 (q := 123) rfl ?_
          refine ri_ret dX7_stands_123 rfl (by decide) ?_
          first
            | exact ⟨isB_1 ⟨hA, j, by rw [cl_nI (n := l) (by have := hp.1; omega)]; exact hpo, by rw [cl_nI (n := l) (by have := hp.1; omega), hp.2.2.1, cl_nI (n := s) (by omega)]; exact c67, by rw [cl_nI (n := l) (by have := hp.1; omega), hp.2.2.1, cl_nI (n := s) (by omega)]; exact c81, by rw [cl_nI (n := l) (by have := hp.1; omega), hp.2.2.1, cl_nI (n := s) (by omega)]; exact c115⟩, rfl⟩
            | exact ⟨isB_1 ⟨hA, j, by rw [cl_nI (n := l) (by have := hp.1; omega)]; exact hpo, by rw [cl_nI (n := l) (by have := hp.1; omega), hp.2.2.1, cl_nI (n := s) (by omega)]; exact c67, by rw [cl_nI (n := l) (by have := hp.1; omega), hp.2.2.1, cl_nI (n := s) (by omega)]; exact c81, by rw [cl_nI (n := l) (by have := hp.1; omega), hp.2.2.1, cl_nI (n := s) (by omega)]; rw [e1]; exact c115⟩, rfl⟩
            | exact ⟨isB_0 (fun q => by obtain ⟨j2, q1, q2, q3, q4⟩ := q.2; rw [cl_nI (n := l) (by have := hp.1; omega)] at q1 q2 q3 q4; rw [hpo] at q1; have ej := Option.some.inj q1; subst ej; rw [hp.2.2.1, cl_nI (n := s) (by omega)] at q2 q3 q4; exact c67 q2), rfl⟩
            | exact ⟨isB_0 (fun q => by obtain ⟨j2, q1, q2, q3, q4⟩ := q.2; rw [cl_nI (n := l) (by have := hp.1; omega)] at q1 q2 q3 q4; rw [hpo] at q1; have ej := Option.some.inj q1; subst ej; rw [hp.2.2.1, cl_nI (n := s) (by omega)] at q2 q3 q4; exact c81 q3), rfl⟩
            | exact ⟨isB_0 (fun q => by obtain ⟨j2, q1, q2, q3, q4⟩ := q.2; rw [cl_nI (n := l) (by have := hp.1; omega)] at q1 q2 q3 q4; rw [hpo] at q1; have ej := Option.some.inj q1; subst ej; rw [hp.2.2.1, cl_nI (n := s) (by omega)] at q2 q3 q4; exact c115 q4), rfl⟩
            | exact ⟨isB_0 (fun q => by obtain ⟨j2, q1, q2, q3, q4⟩ := q.2; rw [cl_nI (n := l) (by have := hp.1; omega)] at q1 q2 q3 q4; rw [hpo] at q1; have ej := Option.some.inj q1; subst ej; rw [hp.2.2.1, cl_nI (n := s) (by omega)] at q2 q3 q4; exact c115 (e1 ▸ q4)), rfl⟩
        · skip
          refine pp_iconst dX7_stands_118 ci_1 (q := 119) rfl ?_
          refine pp_goto (tgt := 123) dX7_stands_119 (by decide) ?_
          refine ri_ret dX7_stands_123 rfl (by decide) ?_
          first
            | exact ⟨isB_1 ⟨hA, j, by rw [cl_nI (n := l) (by have := hp.1; omega)]; exact hpo, by rw [cl_nI (n := l) (by have := hp.1; omega), hp.2.2.1, cl_nI (n := s) (by omega)]; exact c67, by rw [cl_nI (n := l) (by have := hp.1; omega), hp.2.2.1, cl_nI (n := s) (by omega)]; exact c81, by rw [cl_nI (n := l) (by have := hp.1; omega), hp.2.2.1, cl_nI (n := s) (by omega)]; exact c115⟩, rfl⟩
            | exact ⟨isB_1 ⟨hA, j, by rw [cl_nI (n := l) (by have := hp.1; omega)]; exact hpo, by rw [cl_nI (n := l) (by have := hp.1; omega), hp.2.2.1, cl_nI (n := s) (by omega)]; exact c67, by rw [cl_nI (n := l) (by have := hp.1; omega), hp.2.2.1, cl_nI (n := s) (by omega)]; exact c81, by rw [cl_nI (n := l) (by have := hp.1; omega), hp.2.2.1, cl_nI (n := s) (by omega)]; rw [e1]; exact c115⟩, rfl⟩
            | exact ⟨isB_0 (fun q => by obtain ⟨j2, q1, q2, q3, q4⟩ := q.2; rw [cl_nI (n := l) (by have := hp.1; omega)] at q1 q2 q3 q4; rw [hpo] at q1; have ej := Option.some.inj q1; subst ej; rw [hp.2.2.1, cl_nI (n := s) (by omega)] at q2 q3 q4; exact c67 q2), rfl⟩
            | exact ⟨isB_0 (fun q => by obtain ⟨j2, q1, q2, q3, q4⟩ := q.2; rw [cl_nI (n := l) (by have := hp.1; omega)] at q1 q2 q3 q4; rw [hpo] at q1; have ej := Option.some.inj q1; subst ej; rw [hp.2.2.1, cl_nI (n := s) (by omega)] at q2 q3 q4; exact c81 q3), rfl⟩
            | exact ⟨isB_0 (fun q => by obtain ⟨j2, q1, q2, q3, q4⟩ := q.2; rw [cl_nI (n := l) (by have := hp.1; omega)] at q1 q2 q3 q4; rw [hpo] at q1; have ej := Option.some.inj q1; subst ej; rw [hp.2.2.1, cl_nI (n := s) (by omega)] at q2 q3 q4; exact c115 q4), rfl⟩
            | exact ⟨isB_0 (fun q => by obtain ⟨j2, q1, q2, q3, q4⟩ := q.2; rw [cl_nI (n := l) (by have := hp.1; omega)] at q1 q2 q3 q4; rw [hpo] at q1; have ej := Option.some.inj q1; subst ej; rw [hp.2.2.1, cl_nI (n := s) (by omega)] at q2 q3 q4; exact c115 (e1 ▸ q4)), rfl⟩
set_option maxRecDepth 20000 in
set_option maxHeartbeats 4000000 in
theorem m_stands {ad : Nm → Nat} {g : Sg} {A : AW} {N n i c : Nat} {who x kind term v hd : Int32} (h : RS g A n False) (hI : INV N N A) (hv : gA g (46, 0, 0) i = v) (h9 : gI g (40, 0, 0) 9 = nI c) (hic : i < c) (hc : c ≤ 1200) (hd0 : ¬ i + 1 < c → hd = -1) (hd1 : i + 1 < c → gA g (46, 0, 0) (i + 1) = hd) : PS mX7_stands 0 (ent mX7_stands [.ref (ad (40, 0, 0)), .int (nI i), .int who, .int x, .int kind, .int term]) [] ad g (Ri (fun r g' => isB r (stP (aB A) who x kind term v hd) ∧ g' = g)) := by
  show PP mX7_stands 0 [some (.ref (ad (40, 0, 0))), some (.int (nI i)), some (.int who), some (.int x), some (.int kind), some (.int term), none, none] [] (Rel ad g) _
  refine pp_aload_n dX7_stands_0 rfl isRf_r (q := 1) rfl ?_
  refine ps_get dX7_stands_1 fl_X7_27 h.1 rfl rfl (q := 4) rfl ?_
  refine pp_iload_n dX7_stands_4 rfl (q := 5) rfl ?_
  refine ps_iald (j := i) dX7_stands_5 h.1 rfl rfl (by show i < 1300; omega) (by decide) (q := 6) rfl ?_
  rw [hv]
  refine pp_istore dX7_stands_6 (by decide) (ls1_6 (nl1 rfl)) (q := 8) rfl ?_
  refine pp_aload_n dX7_stands_8 rfl isRf_r (q := 9) rfl ?_
  refine pp_iload dX7_stands_9 rfl (q := 11) rfl ?_
  refine ps_callVi dX7_stands_11 lk_X7_147 (by exact h.1) (by rfl) (by rfl) (by rfl) (m_isLetter h.1 h.2.2.2.1.2.1 (by have := h.2.2.2.1.1; omega)) (by rfl) (by exact Nat.le_of_ble_eq_true rfl) (by decide) (by decide) (by exact Nat.le_of_ble_eq_true rfl) (q := 14) rfl (fun r11 g11 h11 => ?_)
  obtain ⟨hb11, rfl⟩ := And.intro h11.1 h11.2.symm
  refine pp_if_eq (tgt := 40) dX7_stands_14 (by decide) (q := 17) rfl (fun c14 => ?_) (fun c14 => ?_)
  · have hl0 := isB_f hb11 c14
    refine pp_iconst dX7_stands_40 ci_0 (q := 41) rfl ?_
    refine ri_ret dX7_stands_41 rfl (by decide) ?_
    first
      | exact ⟨isB_0 (fun q => hl0 (by obtain ⟨l, q1, q2, -⟩ := q.1; exact ⟨l, q1, q2⟩)), rfl⟩
      | exact ⟨isB_0 (fun q => by obtain ⟨l2, q1, q2, q3, q4⟩ := q.1; have el := eqT q2 (by have := hI.1.1; omega) (by have := hI.1.1; omega); subst el; exact c26 q3), rfl⟩
      | exact ⟨isB_0 (fun q => by obtain ⟨l2, q1, q2, q3, q4⟩ := q.1; have el := eqT q2 (by have := hI.1.1; omega) (by have := hI.1.1; omega); subst el; exact c37 q4), rfl⟩
  · obtain ⟨l, hl, rfl⟩ := isB_t hb11 c14
    refine pp_aload_n dX7_stands_17 rfl isRf_r (q := 18) rfl ?_
    refine pp_iload dX7_stands_18 rfl (q := 20) rfl ?_
    refine pp_bipush dX7_stands_20 cb_6 (q := 22) rfl ?_
    refine ps_callVi dX7_stands_22 lk_X7_83 (by exact h.1) (by rfl) (by rfl) (by rfl) (m_lt (c := 6) h hl (by omega)) (by rfl) (by exact Nat.le_of_ble_eq_true rfl) (by decide) (by decide) (by exact Nat.le_of_ble_eq_true rfl) (q := 25) rfl (fun r22 g22 h22 => ?_)
    obtain ⟨rfl, rfl⟩ := And.intro h22.1.symm h22.2.symm
    refine pp_iconst dX7_stands_25 ci_1 (q := 26) rfl ?_
    refine pp_icmp_ne (tgt := 40) dX7_stands_26 (by decide) (q := 29) rfl (fun c26 => ?_) (fun c26 => ?_)
    · have c26 : ¬ bl (aB A) l 5 = nI 1 := c26
      refine pp_iconst dX7_stands_40 ci_0 (q := 41) rfl ?_
      refine ri_ret dX7_stands_41 rfl (by decide) ?_
      first
        | exact ⟨isB_0 (fun q => hl0 (by obtain ⟨l, q1, q2, -⟩ := q.1; exact ⟨l, q1, q2⟩)), rfl⟩
        | exact ⟨isB_0 (fun q => by obtain ⟨l2, q1, q2, q3, q4⟩ := q.1; have el := eqT q2 (by have := hI.1.1; omega) (by have := hI.1.1; omega); subst el; exact c26 q3), rfl⟩
        | exact ⟨isB_0 (fun q => by obtain ⟨l2, q1, q2, q3, q4⟩ := q.1; have el := eqT q2 (by have := hI.1.1; omega) (by have := hI.1.1; omega); subst el; exact c37 q4), rfl⟩
    · have c26 : bl (aB A) l 5 = nI 1 := c26
      refine pp_aload_n dX7_stands_29 rfl isRf_r (q := 30) rfl ?_
      refine pp_iload dX7_stands_30 rfl (q := 32) rfl ?_
      refine pp_iconst dX7_stands_32 ci_2 (q := 33) rfl ?_
      refine ps_callVi dX7_stands_33 lk_X7_83 (by exact h.1) (by rfl) (by rfl) (by rfl) (m_lt (c := 2) h hl (by omega)) (by rfl) (by exact Nat.le_of_ble_eq_true rfl) (by decide) (by decide) (by exact Nat.le_of_ble_eq_true rfl) (q := 36) rfl (fun r33 g33 h33 => ?_)
      obtain ⟨rfl, rfl⟩ := And.intro h33.1.symm h33.2.symm
      refine pp_iload_n dX7_stands_36 rfl (q := 37) rfl ?_
      refine pp_icmp_eq (tgt := 42) dX7_stands_37 (by decide) (q := 40) rfl (fun c37 => ?_) (fun c37 => ?_)
      · have c37 : bl (aB A) l 2 = who := c37
        obtain ⟨k, s, hp, -⟩ := hI.1.2.2.1 l hl
        have hLb := hI.1.1
        have hP := hI.1.2.1
        cases hpo : pcO (aB A) l x with
        | none => exact s_st0 (k := k) (s := s) (c := 0) h hP hLb hp hpo
        | some j =>
          have hfn := hpo
          rw [pcO_k (by omega) hp] at hfn
          exact s_st1 h hP hLb hp ⟨l, hl, rfl, c26, c37⟩ (by have := (fnd_some hfn).2.1; omega) hp.2.2.2.1 hpo h9 hic hc hd0 hd1
      · have c37 : ¬ bl (aB A) l 2 = who := c37
        refine pp_iconst dX7_stands_40 ci_0 (q := 41) rfl ?_
        refine ri_ret dX7_stands_41 rfl (by decide) ?_
        first
          | exact ⟨isB_0 (fun q => hl0 (by obtain ⟨l, q1, q2, -⟩ := q.1; exact ⟨l, q1, q2⟩)), rfl⟩
          | exact ⟨isB_0 (fun q => by obtain ⟨l2, q1, q2, q3, q4⟩ := q.1; have el := eqT q2 (by have := hI.1.1; omega) (by have := hI.1.1; omega); subst el; exact c26 q3), rfl⟩
          | exact ⟨isB_0 (fun q => by obtain ⟨l2, q1, q2, q3, q4⟩ := q.1; have el := eqT q2 (by have := hI.1.1; omega) (by have := hI.1.1; omega); subst el; exact c37 q4), rfl⟩
set_option maxRecDepth 20000 in
set_option maxHeartbeats 4000000 in
theorem s_chz {ad : Nm → Nat} {g : Sg} {A : AW} {N n i : Nat} {m who x kind term a5 : Int32} {Y : List Int32} {P : Prop} (h : RS g A n False) (hI : INV N N A) (h9 : gI g (40, 0, 0) 9 = nI Y.length) (hYl : Y.length ≤ 1200) (hP : P) : PS mX7_check 110 [some (.ref (ad (40, 0, 0))), some (.int m), some (.int x), some (.int kind), some (.int term), some (.int a5), some (.int who), some (.int (nI Y.length))] [] ad g (Ri (fun v g' => v = cIf P (nI 1) (nI 0) ∧ g' = g)) := by
  refine pp_iload dX7_check_110 rfl (q := 112) rfl ?_
  refine pp_aload_n dX7_check_112 rfl isRf_r (q := 113) rfl ?_
  refine ps_get dX7_check_113 fl_X7_200 h.1 rfl rfl (q := 116) rfl ?_
  rw [h9]
  refine pp_icmp_ge (tgt := 156) dX7_check_116 (by decide) (q := 119) rfl (fun c116 => ?_) (fun c116 => absurd (Int32.le_refl _) c116)
  refine pp_iconst dX7_check_156 ci_1 (q := 157) rfl ?_
  refine ri_ret dX7_check_157 rfl rfl ?_
  exact ⟨(cIf_t hP).symm, rfl⟩
set_option maxRecDepth 20000 in
set_option maxHeartbeats 4000000 in
theorem s_ch {ad : Nm → Nat} {g : Sg} {A : AW} {N n i : Nat} {m who x kind term a5 : Int32} {Y : List Int32} {P : Prop} {v hd : Int32} (h : RS g A n False) (hI : INV N N A) (h9 : gI g (40, 0, 0) 9 = nI Y.length) (hYl : Y.length ≤ 1200) (hi : i < Y.length) (hv : gA g (46, 0, 0) i = v) (hd0 : ¬ i + 1 < Y.length → hd = -1) (hd1 : i + 1 < Y.length → gA g (46, 0, 0) (i + 1) = hd) (hk2 : ¬ stP (aB A) who x kind term v hd → ¬ P) (hk : stP (aB A) who x kind term v hd → PS mX7_check 110 [some (.ref (ad (40, 0, 0))), some (.int m), some (.int x), some (.int kind), some (.int term), some (.int a5), some (.int (bl (aB A) (cl v) 1)), some (.int (nI (i + 1)))] [] ad g (Ri (fun v g' => v = cIf P (nI 1) (nI 0) ∧ g' = g))) : PS mX7_check 110 [some (.ref (ad (40, 0, 0))), some (.int m), some (.int x), some (.int kind), some (.int term), some (.int a5), some (.int who), some (.int (nI i))] [] ad g (Ri (fun v g' => v = cIf P (nI 1) (nI 0) ∧ g' = g)) := by
  refine pp_iload dX7_check_110 rfl (q := 112) rfl ?_
  refine pp_aload_n dX7_check_112 rfl isRf_r (q := 113) rfl ?_
  refine ps_get dX7_check_113 fl_X7_200 h.1 rfl rfl (q := 116) rfl ?_
  rw [h9]
  refine pp_icmp_ge (tgt := 156) dX7_check_116 (by decide) (q := 119) rfl (fun c116 => absurd c116 (nI_ge hi (by omega))) (fun c116 => ?_)
  refine pp_aload_n dX7_check_119 rfl isRf_r (q := 120) rfl ?_
  refine pp_iload dX7_check_120 rfl (q := 122) rfl ?_
  refine pp_iload dX7_check_122 rfl (q := 124) rfl ?_
  refine pp_iload_n dX7_check_124 rfl (q := 125) rfl ?_
  refine pp_iload_n dX7_check_125 rfl (q := 126) rfl ?_
  refine pp_iload dX7_check_126 rfl (q := 128) rfl ?_
  refine ps_callVi dX7_check_128 lk_X7_209 (by exact h.1) (by rfl) (by rfl) (by rfl) (m_stands (v := v) (hd := hd) h hI hv h9 hi hYl hd0 hd1) (by rfl) (by exact Nat.le_of_ble_eq_true rfl) (by decide) (by decide) (by exact Nat.le_of_ble_eq_true rfl) (q := 131) rfl (fun r128 g128 h128 => ?_)
  obtain ⟨hb128, rfl⟩ := And.intro h128.1 h128.2.symm
  refine pp_if_ne (tgt := 136) dX7_check_131 (by decide) (q := 134) rfl (fun c131 => ?_) (fun c131 => ?_)
  · have hs := isB_t hb128 c131
    obtain ⟨l, hl, rfl, -⟩ := id hs.1
    refine pp_aload_n dX7_check_136 rfl isRf_r (q := 137) rfl ?_
    refine pp_aload_n dX7_check_137 rfl isRf_r (q := 138) rfl ?_
    refine ps_get dX7_check_138 fl_X7_27 h.1 rfl rfl (q := 141) rfl ?_
    refine pp_iload dX7_check_141 rfl (q := 143) rfl ?_
    refine ps_iald (j := i) dX7_check_143 h.1 rfl rfl (by show i < 1300; omega) (by decide) (q := 144) rfl ?_
    rw [hv]
    refine pp_iconst dX7_check_144 ci_1 (q := 145) rfl ?_
    refine ps_callVi dX7_check_145 lk_X7_83 (by exact h.1) (by rfl) (by rfl) (by rfl) (m_lt (c := 1) h hl (by omega)) (by rfl) (by exact Nat.le_of_ble_eq_true rfl) (by decide) (by decide) (by exact Nat.le_of_ble_eq_true rfl) (q := 148) rfl (fun r145 g145 h145 => ?_)
    obtain ⟨rfl, rfl⟩ := And.intro h145.1.symm h145.2.symm
    rw [show bl (aB A) l (lcx 1) = bl (aB A) (cl (nI l)) 1 from by rw [cl_nI (by have := hI.1.1; omega)]; rfl]
    refine pp_istore dX7_check_148 (by decide) (ls1_6 (nl1 rfl)) (q := 150) rfl ?_
    refine pp_iinc dX7_check_150 rfl (nI_1 _) (ls1_7 (nl1 rfl)) (q := 153) rfl ?_
    refine pp_goto (tgt := 110) dX7_check_153 (by decide) ?_
    exact hk hs
  · have hs := isB_f hb128 c131
    refine pp_iconst dX7_check_134 ci_0 (q := 135) rfl ?_
    refine ri_ret dX7_check_135 rfl rfl ?_
    exact ⟨(cIf_f (hk2 hs)).symm, rfl⟩
theorem l_ch {ad : Nm → Nat} {g : Sg} {A : AW} {N n : Nat} {m x kind term a5 : Int32} {Y : List Int32} {P : Prop} (h : RS g A n False) (hI : INV N N A) (h9 : gI g (40, 0, 0) 9 = nI Y.length) (hYl : Y.length ≤ 1200) (hY : ∀ i v, Y[i]? = some v → gA g (46, 0, 0) i = v) : ∀ (j i : Nat) (who : Int32), Y.length - i < j → i ≤ Y.length → (P ↔ stW (aB A) x kind term who (Y.drop i)) → PS mX7_check 110 [some (.ref (ad (40, 0, 0))), some (.int m), some (.int x), some (.int kind), some (.int term), some (.int a5), some (.int who), some (.int (nI i))] [] ad g (Ri (fun v g' => v = cIf P (nI 1) (nI 0) ∧ g' = g)) := by
  intro j
  induction j with
  | zero => intro i who h; omega
  | succ j ih =>
    intro i who hij hik hP
    by_cases e : i = Y.length
    · subst e
      rw [List.drop_length] at hP
      exact s_chz (i := 0) h hI h9 hYl (hP.mpr trivial)
    · have hi : i < Y.length := by omega
      obtain ⟨v, ev⟩ : ∃ v, Y[i]? = some v := ⟨_, List.getElem?_eq_getElem hi⟩
      rw [drop_consI ev] at hP
      refine s_ch (v := v) (hd := (Y.drop (i + 1)).headD (-1)) h hI h9 hYl hi (hY i v ev) (fun q => ?_) (fun q => ?_) (fun q z => ?_) (fun q => ih (i + 1) _ (by omega) (by omega) ⟨fun z => (hP.mp z).2.2, fun z => hP.mpr ⟨q.1, q.2, z⟩⟩)
      · rw [List.drop_eq_nil_of_le (by omega)]
        rfl
      · obtain ⟨y, ey⟩ : ∃ y, Y[i + 1]? = some y := ⟨_, List.getElem?_eq_getElem q⟩
        rw [drop_consI ey]
        exact hY (i + 1) y ey
      · have z := hP.mp z
        exact q ⟨z.1, z.2.1⟩
set_option maxRecDepth 20000 in
set_option maxHeartbeats 4000000 in
theorem m_check {ad : Nm → Nat} {g : Sg} {S : CS} {a b c d : Int32} (hR : RR g S) (hH : okH (sH S)) : PS mX7_check 0 (ent mX7_check [.ref (ad (40, 0, 0)), .int a, .int b, .int c, .int d]) [] ad g (MdQ g (anS S (qCheck (runA (sH S)) (sY S) a b c d))) := by
  obtain ⟨hy1, hy2, hy3⟩ := hR.2.2.2.2.1
  have h := hR.1
  have hI := inv_run hH
  have hn := okH_len hH
  show PP mX7_check 0 [some (.ref (ad (40, 0, 0))), some (.int a), some (.int b), some (.int c), some (.int d), none, none, none] [] (Rel ad g) _
  refine pp_iload_n dX7_check_0 rfl (q := 1) rfl ?_
  refine ps_callSi dX7_check_1 lk_X7_121 (by rfl) m_isMem (by rfl) (by exact Nat.le_of_ble_eq_true rfl) (by decide) (by decide) (by exact Nat.le_of_ble_eq_true rfl) (q := 4) rfl (fun r1 g1 h1 => ?_)
  obtain ⟨hb1, rfl⟩ := And.intro h1.1 h1.2.symm
  refine pp_if_eq (tgt := 14) dX7_check_4 (by decide) (q := 7) rfl (fun c4 => ?_) (fun c4 => ?_)
  · have ha := isB_f hb1 c4
    refine pp_aload_n dX7_check_14 rfl isRf_r (q := 15) rfl ?_
    refine pp_bipush dX7_check_15 cb_m3 (q := 17) rfl ?_
    refine ps_callVi dX7_check_17 lk_X7_132 (by exact h.1) (by rfl) (by rfl) (by rfl) (m_no3 h.1) (by rfl) (by exact Nat.le_of_ble_eq_true rfl) (by decide) (by decide) (by exact Nat.le_of_ble_eq_true rfl) (q := 20) rfl (fun r17 g17 h17 => ?_)
    obtain ⟨rfl, rfl⟩ := And.intro h17.1.symm h17.2.symm
    refine ri_ret dX7_check_20 rfl rfl ?_
    first | exact mq_inl hR (by unfold isW; omega) (cIf_f (fun q => ha q.1)) | exact mq_inl hR (by unfold isW; omega) (cIf_f (fun q => hb q.2))
  · have ha := isB_t hb1 c4
    refine pp_iload_n dX7_check_7 rfl (q := 8) rfl ?_
    refine ps_callSi dX7_check_8 lk_X7_121 (by rfl) m_isMem (by rfl) (by exact Nat.le_of_ble_eq_true rfl) (by decide) (by decide) (by exact Nat.le_of_ble_eq_true rfl) (q := 11) rfl (fun r8 g8 h8 => ?_)
    obtain ⟨hb8, rfl⟩ := And.intro h8.1 h8.2.symm
    refine pp_if_ne (tgt := 21) dX7_check_11 (by decide) (q := 14) rfl (fun c11 => ?_) (fun c11 => ?_)
    · have hb := isB_t hb8 c11
      obtain ⟨m, hm, rfl⟩ := ha
      obtain ⟨x, hx, rfl⟩ := hb
      refine pp_aload_n dX7_check_21 rfl isRf_r (q := 22) rfl ?_
      refine pp_iload_n dX7_check_22 rfl (q := 23) rfl ?_
      refine ps_callVi dX7_check_23 lk_X7_125 (by exact h.1) (by rfl) (by rfl) (by rfl) (m_made h hI hm) (by rfl) (by exact Nat.le_of_ble_eq_true rfl) (by decide) (by decide) (by exact Nat.le_of_ble_eq_true rfl) (q := 26) rfl (fun r23 g23 h23 => ?_)
      obtain ⟨hb23, rfl⟩ := And.intro h23.1 h23.2.symm
      refine pp_if_ne (tgt := 36) dX7_check_26 (by decide) (q := 29) rfl (fun c26 => ?_) (fun c26 => ?_)
      · have hd := isB_t hb23 c26
        have hno := (h.2.o hm hd).2.2.1 x hx
        have hq : qCheck (runA (sH S)) (sY S) (nI m) (nI x) c d = .inr (cIf (chP (runA (sH S)) (sY S) (nI m) (nI x) c d) (nI 1) (nI 0)) := by unfold qCheck; rw [cIf_t ⟨⟨m, hm, rfl⟩, ⟨x, hx, rfl⟩⟩, cIf_t ⟨m, hm, rfl, hd⟩]
        refine pp_iload_n dX7_check_36 rfl (q := 37) rfl ?_
        refine pp_iload_n dX7_check_37 rfl (q := 38) rfl ?_
        refine ps_callSi dX7_check_38 lk_X7_44 (by rfl) m_newsAt (by rfl) (by exact Nat.le_of_ble_eq_true rfl) (by decide) (by decide) (by exact Nat.le_of_ble_eq_true rfl) (q := 41) rfl (fun r38 g38 h38 => ?_)
        obtain ⟨rfl, rfl⟩ := And.intro h38.1.symm h38.2.symm
        refine pp_istore dX7_check_41 (by decide) (ls1_5 (nl1 rfl)) (q := 43) rfl ?_
        refine pp_aload_n dX7_check_43 rfl isRf_r (q := 44) rfl ?_
        refine ps_get dX7_check_44 fl_X7_200 h.1 rfl rfl (q := 47) rfl ?_
        rw [hy1]
        refine pp_if_ne (tgt := 104) dX7_check_47 (by decide) (q := 50) rfl (fun c47 => ?_) (fun c47 => ?_)
        · have hne : ¬ sY S = [] := fun q => c47 (by rw [q]; rfl)
          refine pp_iload_n dX7_check_104 rfl (q := 105) rfl ?_
          refine pp_istore dX7_check_105 (by decide) (ls1_6 (nl1 rfl)) (q := 107) rfl ?_
          refine pp_iconst dX7_check_107 ci_0 (q := 108) rfl ?_
          refine pp_istore dX7_check_108 (by decide) (ls1_7 (nl1 rfl)) (q := 110) rfl ?_
          exact wkQ (l_ch h hI hy1 hy2 hy3 ((sY S).length + 1) 0 (nI m) (by omega) (by omega) (chP_st hne)) hR hq
        · have hch : chP (runA (sH S)) (sY S) (nI m) (nI x) c d ↔ (¬ ((runA (sH S)).1 m).2.2 31 x = 0 ∧ ((runA (sH S)).1 m).2.2 31 x = c ∧ ((runA (sH S)).1 m).2.2 32 x = d ∧ ((runA (sH S)).1 m).2.2 35 x = -1) := by
            have e : sY S = [] := List.eq_nil_of_length_eq_zero (eqT (b := 0) c47 (by omega) (by omega))
            rw [e]
            unfold chP
            rw [cl_nI (n := m) (by omega), cl_nI (n := x) (by omega)]
          refine pp_aload_n dX7_check_50 rfl isRf_r (q := 51) rfl ?_
          refine ps_get dX7_check_51 fl_X7_8 h.1 rfl rfl (q := 54) rfl ?_
          refine pp_iload dX7_check_54 rfl (q := 56) rfl ?_
          refine ps_iald (j := nw m x) dX7_check_56 h.1 rfl rfl (by unfold nw; omega) (by decide) (q := 57) rfl ?_
          rw [hno.1]
          refine pp_if_eq (tgt := 102) dX7_check_57 (by decide) (q := 60) rfl (fun c57 => ?_) (fun c57 => ?_)
          · skip
            refine pp_iconst dX7_check_102 ci_0 (q := 103) rfl ?_
            refine ri_ret dX7_check_103 rfl rfl ?_
            first
              | (rw [cIf_t (hch.mpr ⟨c57, c68, c82, c95⟩)] at hq; exact mq_inr hR hq)
              | (rw [cIf_f (fun q => (hch.mp q).1 c57)] at hq; exact mq_inr hR hq)
              | (rw [cIf_f (fun q => c68 (hch.mp q).2.1)] at hq; exact mq_inr hR hq)
              | (rw [cIf_f (fun q => c82 (hch.mp q).2.2.1)] at hq; exact mq_inr hR hq)
              | (rw [cIf_f (fun q => c95 (hch.mp q).2.2.2)] at hq; exact mq_inr hR hq)
          · skip
            refine pp_aload_n dX7_check_60 rfl isRf_r (q := 61) rfl ?_
            refine ps_get dX7_check_61 fl_X7_8 h.1 rfl rfl (q := 64) rfl ?_
            refine pp_iload dX7_check_64 rfl (q := 66) rfl ?_
            refine ps_iald (j := nw m x) dX7_check_66 h.1 rfl rfl (by unfold nw; omega) (by decide) (q := 67) rfl ?_
            rw [hno.1]
            refine pp_iload_n dX7_check_67 rfl (q := 68) rfl ?_
            refine pp_icmp_ne (tgt := 102) dX7_check_68 (by decide) (q := 71) rfl (fun c68 => ?_) (fun c68 => ?_)
            · skip
              refine pp_iconst dX7_check_102 ci_0 (q := 103) rfl ?_
              refine ri_ret dX7_check_103 rfl rfl ?_
              first
                | (rw [cIf_t (hch.mpr ⟨c57, c68, c82, c95⟩)] at hq; exact mq_inr hR hq)
                | (rw [cIf_f (fun q => (hch.mp q).1 c57)] at hq; exact mq_inr hR hq)
                | (rw [cIf_f (fun q => c68 (hch.mp q).2.1)] at hq; exact mq_inr hR hq)
                | (rw [cIf_f (fun q => c82 (hch.mp q).2.2.1)] at hq; exact mq_inr hR hq)
                | (rw [cIf_f (fun q => c95 (hch.mp q).2.2.2)] at hq; exact mq_inr hR hq)
            · skip
              refine pp_aload_n dX7_check_71 rfl isRf_r (q := 72) rfl ?_
              refine ps_get dX7_check_72 fl_X7_8 h.1 rfl rfl (q := 75) rfl ?_
              refine pp_iload dX7_check_75 rfl (q := 77) rfl ?_
              refine pp_iconst dX7_check_77 ci_1 (q := 78) rfl ?_
              refine pp_iadd dX7_check_78 (q := 79) rfl ?_
              try rw [nI_add]
              refine ps_iald (j := nw m x + 1) dX7_check_79 h.1 rfl rfl (by unfold nw; omega) (by decide) (q := 80) rfl ?_
              rw [hno.2 c57 1 (by omega) (by omega)]
              refine pp_iload dX7_check_80 rfl (q := 82) rfl ?_
              refine pp_icmp_ne (tgt := 102) dX7_check_82 (by decide) (q := 85) rfl (fun c82 => ?_) (fun c82 => ?_)
              · skip
                refine pp_iconst dX7_check_102 ci_0 (q := 103) rfl ?_
                refine ri_ret dX7_check_103 rfl rfl ?_
                first
                  | (rw [cIf_t (hch.mpr ⟨c57, c68, c82, c95⟩)] at hq; exact mq_inr hR hq)
                  | (rw [cIf_f (fun q => (hch.mp q).1 c57)] at hq; exact mq_inr hR hq)
                  | (rw [cIf_f (fun q => c68 (hch.mp q).2.1)] at hq; exact mq_inr hR hq)
                  | (rw [cIf_f (fun q => c82 (hch.mp q).2.2.1)] at hq; exact mq_inr hR hq)
                  | (rw [cIf_f (fun q => c95 (hch.mp q).2.2.2)] at hq; exact mq_inr hR hq)
              · skip
                refine pp_aload_n dX7_check_85 rfl isRf_r (q := 86) rfl ?_
                refine ps_get dX7_check_86 fl_X7_8 h.1 rfl rfl (q := 89) rfl ?_
                refine pp_iload dX7_check_89 rfl (q := 91) rfl ?_
                refine pp_iconst dX7_check_91 ci_4 (q := 92) rfl ?_
                refine pp_iadd dX7_check_92 (q := 93) rfl ?_
                try rw [nI_add]
                refine ps_iald (j := nw m x + 4) dX7_check_93 h.1 rfl rfl (by unfold nw; omega) (by decide) (q := 94) rfl ?_
                rw [hno.2 c57 4 (by omega) (by omega)]
                refine pp_iconst dX7_check_94 ci_m1 (q := 95) rfl ?_
                refine pp_icmp_ne (tgt := 102) dX7_check_95 (by decide) (q := 98) rfl (fun c95 => ?_) (fun c95 => ?_)
                · skip
                  refine pp_iconst dX7_check_102 ci_0 (q := 103) rfl ?_
                  refine ri_ret dX7_check_103 rfl rfl ?_
                  first
                    | (rw [cIf_t (hch.mpr ⟨c57, c68, c82, c95⟩)] at hq; exact mq_inr hR hq)
                    | (rw [cIf_f (fun q => (hch.mp q).1 c57)] at hq; exact mq_inr hR hq)
                    | (rw [cIf_f (fun q => c68 (hch.mp q).2.1)] at hq; exact mq_inr hR hq)
                    | (rw [cIf_f (fun q => c82 (hch.mp q).2.2.1)] at hq; exact mq_inr hR hq)
                    | (rw [cIf_f (fun q => c95 (hch.mp q).2.2.2)] at hq; exact mq_inr hR hq)
                · skip
                  refine pp_iconst dX7_check_98 ci_1 (q := 99) rfl ?_
                  refine pp_goto (tgt := 103) dX7_check_99 (by decide) ?_
                  refine ri_ret dX7_check_103 rfl rfl ?_
                  first
                    | (rw [cIf_t (hch.mpr ⟨c57, c68, c82, c95⟩)] at hq; exact mq_inr hR hq)
                    | (rw [cIf_f (fun q => (hch.mp q).1 c57)] at hq; exact mq_inr hR hq)
                    | (rw [cIf_f (fun q => c68 (hch.mp q).2.1)] at hq; exact mq_inr hR hq)
                    | (rw [cIf_f (fun q => c82 (hch.mp q).2.2.1)] at hq; exact mq_inr hR hq)
                    | (rw [cIf_f (fun q => c95 (hch.mp q).2.2.2)] at hq; exact mq_inr hR hq)
      · have hd := isB_f hb23 c26
        refine pp_aload_n dX7_check_29 rfl isRf_r (q := 30) rfl ?_
        refine pp_bipush dX7_check_30 cb_m2 (q := 32) rfl ?_
        refine ps_callVi dX7_check_32 lk_X7_132 (by exact h.1) (by rfl) (by rfl) (by rfl) (m_no2 h.1) (by rfl) (by exact Nat.le_of_ble_eq_true rfl) (by decide) (by decide) (by exact Nat.le_of_ble_eq_true rfl) (q := 35) rfl (fun r32 g32 h32 => ?_)
        obtain ⟨rfl, rfl⟩ := And.intro h32.1.symm h32.2.symm
        refine ri_ret dX7_check_35 rfl rfl ?_
        exact mq_inl hR (by unfold isW; omega) (by unfold qCheck; rw [cIf_t ⟨⟨m, hm, rfl⟩, ⟨x, hx, rfl⟩⟩, cIf_f (fun q => hd (mdX_i hm q))])
    · have hb := isB_f hb8 c11
      refine pp_aload_n dX7_check_14 rfl isRf_r (q := 15) rfl ?_
      refine pp_bipush dX7_check_15 cb_m3 (q := 17) rfl ?_
      refine ps_callVi dX7_check_17 lk_X7_132 (by exact h.1) (by rfl) (by rfl) (by rfl) (m_no3 h.1) (by rfl) (by exact Nat.le_of_ble_eq_true rfl) (by decide) (by decide) (by exact Nat.le_of_ble_eq_true rfl) (q := 20) rfl (fun r17 g17 h17 => ?_)
      obtain ⟨rfl, rfl⟩ := And.intro h17.1.symm h17.2.symm
      refine ri_ret dX7_check_20 rfl rfl ?_
      first | exact mq_inl hR (by unfold isW; omega) (cIf_f (fun q => ha q.1)) | exact mq_inl hR (by unfold isW; omega) (cIf_f (fun q => hb q.2))
