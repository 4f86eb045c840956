noncomputable def tk1 (A : AW) (m x : Nat) (kind pt l : Int32) : AW := cIf (x = m ∧ refu (A.1 m) kind pt) (tlA (aSet (tlA A (nI 0 + kind - nI 1)) m (meTak m x kind pt l (A.1 m))) (nI 10)) (aSet (tlA A (nI 0 + kind - nI 1)) m (meTak m x kind pt l (A.1 m)))
theorem tl0 {kd : Nat} (h : 1 ≤ kd) : nI 0 + nI kd - nI 1 = nI (kd - 1) := by rw [nI_add, Nat.zero_add, nI_sb h]
theorem self_m {A : AW} {m : Nat} {v : Int32} : aSet (tlA A v) m (A.1 m) = tlA A v := aSet_self (A := tlA A v)
set_option maxRecDepth 20000 in
set_option maxHeartbeats 4000000 in
theorem m_takeS {ad : Nm → Nat} {g : Sg} {A : AW} {n m : Nat} {o : Prop} {kd : Nat} {t l : Int32} (h : RS g A n o) (hmb : m < 64) (hd : mdA A m) (hkd : 1 ≤ kd ∧ kd ≤ 4) : PS mX7_takes 0 (ent mX7_takes [.ref (ad (40, 0, 0)), .int (nI m), .int (nI m), .int (nI kd), .int t, .int l]) [] ad g (Rv (fun g' => RS g' (tk1 A m m (nI kd) t l) n o ∧ EqM g g')) := by
  show PP mX7_takes 0 [some (.ref (ad (40, 0, 0))), some (.int (nI m)), some (.int (nI m)), some (.int (nI kd)), some (.int t), some (.int l), none, none] [] (Rel ad g) _
  refine pp_aload_n dX7_takes_0 rfl isRf_r (q := 1) rfl ?_
  refine pp_iload_n dX7_takes_1 rfl (q := 2) rfl ?_
  refine pp_iconst dX7_takes_2 ci_1 (q := 3) rfl ?_
  refine pp_isub dX7_takes_3 (q := 4) rfl ?_
  rw [nI_sb (by omega)]
  refine ps_callVv dX7_takes_4 lk_X7_59 (by exact (by first | exact h3.1 | exact h2.1 | exact h1.1 | exact h.1)) (by rfl) (by rfl) (by rfl) (m_rn (m := 0) h (k := kd - 1) (by omega)) (by rfl) (by exact Nat.le_of_ble_eq_true rfl) (by decide) (by decide) (by exact Nat.le_of_ble_eq_true rfl) (q := 7) rfl (fun g4 h4 => ?_)
  obtain ⟨h1, hE1⟩ := h4
  refine pp_iload_n dX7_takes_7 rfl (q := 8) rfl ?_
  refine pp_iload_n dX7_takes_8 rfl (q := 9) rfl ?_
  refine pp_icmp_ne (tgt := 58) dX7_takes_9 (by decide) (q := 12) rfl (fun c9 => absurd rfl c9) (fun c9 => ?_)
  refine pp_iload_n dX7_takes_12 rfl (q := 13) rfl ?_
  refine pp_iconst dX7_takes_13 ci_1 (q := 14) rfl ?_
  refine pp_icmp_eq (tgt := 28) dX7_takes_14 (by decide) (q := 17) rfl (fun c14 => ?_) (fun c14 => ?_)
  · have hn : ¬ refu (A.1 m) (nI kd) t := fun q => q.1 c14
    refine rv_ret dX7_takes_28 rfl ?_
    refine ⟨?_, hE1⟩
    have e : tk1 A m m (nI kd) t l = tlA A (nI (kd - 1)) := by
      unfold tk1 meTak
      rw [cIf_f (fun q => hn q.2), cIf_t rfl, cIf_f hn, tl0 hkd.1, self_m]
    rw [e]
    exact h1
  · refine pp_iload dX7_takes_17 rfl (q := 19) rfl ?_
    refine pp_aload_n dX7_takes_19 rfl isRf_r (q := 20) rfl ?_
    refine pp_iload_n dX7_takes_20 rfl (q := 21) rfl ?_
    refine pp_iconst dX7_takes_21 ci_1 (q := 22) rfl ?_
    refine ps_callVi dX7_takes_22 lk_X7_48 (by exact (by first | exact h3.1 | exact h2.1 | exact h1.1 | exact h.1)) (by rfl) (by rfl) (by rfl) (m_of (by exact h1.1) hmb (by omega)) (by rfl) (by exact Nat.le_of_ble_eq_true rfl) (by decide) (by decide) (by exact Nat.le_of_ble_eq_true rfl) (q := 25) rfl (fun r22 g22 h22 => ?_)
    obtain ⟨rfl, rfl⟩ := And.intro h22.1.symm h22.2.symm
    rw [show gA g4 (41, 0, 0) (7 * m + 1) = (A.1 m).1 4 from (h1.2.o hmb hd).1.2.1]
    refine pp_icmp_ge (tgt := 29) dX7_takes_25 (by decide) (q := 28) rfl (fun c25 => ?_) (fun c25 => ?_)
    · have hy : refu (A.1 m) (nI kd) t := ⟨c14, Int32.not_lt.mpr c25⟩
      refine pp_aload_n dX7_takes_29 rfl isRf_r (q := 30) rfl ?_
      refine pp_iload_n dX7_takes_30 rfl (q := 31) rfl ?_
      refine pp_iconst dX7_takes_31 ci_1 (q := 32) rfl ?_
      refine pp_iload dX7_takes_32 rfl (q := 34) rfl ?_
      refine pp_iconst dX7_takes_34 ci_1 (q := 35) rfl ?_
      refine pp_iadd dX7_takes_35 (q := 36) rfl ?_
      try rw [nI_add]
      refine ps_callVv dX7_takes_36 lk_X7_63 (by exact (by first | exact h3.1 | exact h2.1 | exact h1.1 | exact h.1)) (by rfl) (by rfl) (by rfl) (m_to1 h1 hmb hd) (by rfl) (by exact Nat.le_of_ble_eq_true rfl) (by decide) (by decide) (by exact Nat.le_of_ble_eq_true rfl) (q := 39) rfl (fun g36 h36 => ?_)
      obtain ⟨h2, hE2⟩ := h36
      have hd2 : mdA (aSet (tlA A (nI (kd - 1))) m (meSI (A.1 m) 4 (t + nI 1))) m := by unfold mdA; rw [aSet_m]; exact hd
      refine pp_aload_n dX7_takes_39 rfl isRf_r (q := 40) rfl ?_
      refine pp_iload_n dX7_takes_40 rfl (q := 41) rfl ?_
      refine pp_iload_n dX7_takes_41 rfl (q := 42) rfl ?_
      refine pp_iconst dX7_takes_42 ci_1 (q := 43) rfl ?_
      refine pp_iload dX7_takes_43 rfl (q := 45) rfl ?_
      refine pp_iconst dX7_takes_45 ci_1 (q := 46) rfl ?_
      refine pp_iadd dX7_takes_46 (q := 47) rfl ?_
      try rw [nI_add]
      refine pp_iconst dX7_takes_47 ci_m1 (q := 48) rfl ?_
      refine ps_callVv dX7_takes_48 lk_X7_67 (by exact (by first | exact h3.1 | exact h2.1 | exact h1.1 | exact h.1)) (by rfl) (by rfl) (by rfl) (m_wr h2 hmb hmb hd2) (by rfl) (by exact Nat.le_of_ble_eq_true rfl) (by decide) (by decide) (by exact Nat.le_of_ble_eq_true rfl) (q := 51) rfl (fun g48 h48 => ?_)
      obtain ⟨h3, hE3⟩ := h48
      refine pp_aload_n dX7_takes_51 rfl isRf_r (q := 52) rfl ?_
      refine pp_bipush dX7_takes_52 cb_10 (q := 54) rfl ?_
      refine ps_callVv dX7_takes_54 lk_X7_59 (by exact (by first | exact h3.1 | exact h2.1 | exact h1.1 | exact h.1)) (by rfl) (by rfl) (by rfl) (m_rn (m := 0) h3 (k := 10) (by omega)) (by rfl) (by exact Nat.le_of_ble_eq_true rfl) (by decide) (by decide) (by exact Nat.le_of_ble_eq_true rfl) (q := 57) rfl (fun g54 h54 => ?_)
      obtain ⟨h4, hE4⟩ := h54
      refine rv_ret dX7_takes_57 rfl ?_
      refine ⟨?_, ((hE1.tr hE2).tr hE3).tr hE4⟩
      have e : tk1 A m m (nI kd) t l = tlA (aSet (tlA A (nI (kd - 1))) m (meEn (meSI (A.1 m) 4 (t + nI 1)) m (nI 1) (t + nI 1) (-1))) (nI 10) := by
        unfold tk1 meTak
        rw [cIf_t ⟨rfl, hy⟩, cIf_t rfl, cIf_t hy, tl0 hkd.1]
        rfl
      rw [e]
      rw [aSet_aSet, aSet_m] at h4
      exact h4
    · have hn : ¬ refu (A.1 m) (nI kd) t := fun q => q.2 (Int32.not_le.mp c25)
      refine rv_ret dX7_takes_28 rfl ?_
      refine ⟨?_, hE1⟩
      have e : tk1 A m m (nI kd) t l = tlA A (nI (kd - 1)) := by
        unfold tk1 meTak
        rw [cIf_f (fun q => hn q.2), cIf_t rfl, cIf_f hn, tl0 hkd.1, self_m]
      rw [e]
      exact h1
set_option maxRecDepth 20000 in
set_option maxHeartbeats 4000000 in
theorem m_takeO {ad : Nm → Nat} {g : Sg} {A : AW} {n m : Nat} {o : Prop} {x kd : Nat} {t l : Int32} (h : RS g A n o) (hmb : m < 64) (hd : mdA A m) (hkd : 1 ≤ kd ∧ kd ≤ 4) (hx : x < 64) (hne : ¬ x = m) : PS mX7_takes 0 (ent mX7_takes [.ref (ad (40, 0, 0)), .int (nI m), .int (nI x), .int (nI kd), .int t, .int l]) [] ad g (Rv (fun g' => RS g' (tk1 A m x (nI kd) t l) n o ∧ EqM g g')) := by
  show PP mX7_takes 0 [some (.ref (ad (40, 0, 0))), some (.int (nI m)), some (.int (nI x)), some (.int (nI kd)), some (.int t), some (.int l), none, none] [] (Rel ad g) _
  refine pp_aload_n dX7_takes_0 rfl isRf_r (q := 1) rfl ?_
  refine pp_iload_n dX7_takes_1 rfl (q := 2) rfl ?_
  refine pp_iconst dX7_takes_2 ci_1 (q := 3) rfl ?_
  refine pp_isub dX7_takes_3 (q := 4) rfl ?_
  rw [nI_sb (by omega)]
  refine ps_callVv dX7_takes_4 lk_X7_59 (by exact (by first | exact h3.1 | exact h2.1 | exact h1.1 | exact h.1)) (by rfl) (by rfl) (by rfl) (m_rn (m := 0) h (k := kd - 1) (by omega)) (by rfl) (by exact Nat.le_of_ble_eq_true rfl) (by decide) (by decide) (by exact Nat.le_of_ble_eq_true rfl) (q := 7) rfl (fun g4 h4 => ?_)
  obtain ⟨h1, hE1⟩ := h4
  have e0 : gA g4 (41, 0, 0) (nw m x) = (A.1 m).2.2 31 x := ((h1.2.o hmb hd).2.2.1 x hx).1
  refine pp_iload_n dX7_takes_7 rfl (q := 8) rfl ?_
  refine pp_iload_n dX7_takes_8 rfl (q := 9) rfl ?_
  refine pp_icmp_ne (tgt := 58) dX7_takes_9 (by decide) (q := 12) rfl (fun c9 => ?_) (fun c9 => absurd c9 (fun q => hne (eqT q (by omega) (by omega))))
  refine pp_iload_n dX7_takes_58 rfl (q := 59) rfl ?_
  refine pp_iload_n dX7_takes_59 rfl (q := 60) rfl ?_
  refine ps_callSi dX7_takes_60 lk_X7_44 (by rfl) m_newsAt (by rfl) (by exact Nat.le_of_ble_eq_true rfl) (by decide) (by decide) (by exact Nat.le_of_ble_eq_true rfl) (q := 63) rfl (fun r60 g60 h60 => ?_)
  obtain ⟨rfl, rfl⟩ := And.intro h60.1.symm h60.2.symm
  refine pp_istore dX7_takes_63 (by decide) (ls1_6 (nl1 rfl)) (q := 65) rfl ?_
  refine pp_aload_n dX7_takes_65 rfl isRf_r (q := 66) rfl ?_
  refine ps_get dX7_takes_66 fl_X7_8 (by first | exact h3.1 | exact h2.1 | exact h1.1 | exact h.1) rfl rfl (q := 69) rfl ?_
  refine pp_iload dX7_takes_69 rfl (q := 71) rfl ?_
  refine ps_iald (j := nw m x) dX7_takes_71 (by first | exact h3.1 | exact h2.1 | exact h1.1 | exact h.1) rfl rfl (by unfold nw; omega) (by decide) (q := 72) rfl ?_
  rw [e0]
  refine pp_if_eq (tgt := 114) dX7_takes_72 (by decide) (q := 75) rfl (fun c72 => ?_) (fun c72 => ?_)
  · have hb : beats ((A.1 m).2.2 31) ((A.1 m).2.2 32) x (nI kd) t := Or.inl c72
    refine pp_iconst dX7_takes_114 ci_1 (q := 115) rfl ?_
    refine pp_goto (tgt := 119) dX7_takes_115 (by decide) ?_
    refine pp_istore dX7_takes_119 (by decide) (ls1_7 (nl1 rfl)) (q := 121) rfl ?_
    refine pp_iload dX7_takes_121 rfl (q := 123) rfl ?_
    refine pp_if_eq (tgt := 137) dX7_takes_123 (by decide) (q := 126) rfl (fun c123 => absurd c123 nI1_ne) (fun c123 => ?_)
    refine pp_aload_n dX7_takes_126 rfl isRf_r (q := 127) rfl ?_
    refine pp_iload_n dX7_takes_127 rfl (q := 128) rfl ?_
    refine pp_iload_n dX7_takes_128 rfl (q := 129) rfl ?_
    refine pp_iload_n dX7_takes_129 rfl (q := 130) rfl ?_
    refine pp_iload dX7_takes_130 rfl (q := 132) rfl ?_
    refine pp_iload dX7_takes_132 rfl (q := 134) rfl ?_
    refine ps_callVv dX7_takes_134 lk_X7_67 (by exact (by first | exact h3.1 | exact h2.1 | exact h1.1 | exact h.1)) (by rfl) (by rfl) (by rfl) (m_wr h1 hmb hx hd) (by rfl) (by exact Nat.le_of_ble_eq_true rfl) (by decide) (by decide) (by exact Nat.le_of_ble_eq_true rfl) (q := 137) rfl (fun g134 h134 => ?_)
    obtain ⟨h2, hE2⟩ := h134
    refine rv_ret dX7_takes_137 rfl ?_
    first
      | (refine ⟨?_, hE1.tr hE2⟩; have e : tk1 A m x (nI kd) t l = aSet (tlA A (nI (kd - 1))) m (meEn (A.1 m) x (nI kd) t l) := (by unfold tk1 meTak; rw [cIf_f (fun q => hne q.1), cIf_f hne, cIf_t hb, tl0 hkd.1]); rw [e]; exact h2)
      | (refine ⟨?_, hE1⟩; have e : tk1 A m x (nI kd) t l = tlA A (nI (kd - 1)) := (by unfold tk1 meTak; rw [cIf_f (fun q => hne q.1), cIf_f hne, cIf_f hb, tl0 hkd.1, self_m]); rw [e]; exact h1)
  · have e1 : gA g4 (41, 0, 0) (nw m x + 1) = (A.1 m).2.2 32 x := ((h1.2.o hmb hd).2.2.1 x hx).2 c72 1 (by omega) (by omega)
    refine pp_iload dX7_takes_75 rfl (q := 77) rfl ?_
    refine pp_aload_n dX7_takes_77 rfl isRf_r (q := 78) rfl ?_
    refine ps_get dX7_takes_78 fl_X7_8 (by first | exact h3.1 | exact h2.1 | exact h1.1 | exact h.1) rfl rfl (q := 81) rfl ?_
    refine pp_iload dX7_takes_81 rfl (q := 83) rfl ?_
    refine pp_iconst dX7_takes_83 ci_1 (q := 84) rfl ?_
    refine pp_iadd dX7_takes_84 (q := 85) rfl ?_
    try rw [nI_add]
    refine ps_iald dX7_takes_85 (by first | exact h3.1 | exact h2.1 | exact h1.1 | exact h.1) rfl rfl (by unfold nw; omega) (by decide) (q := 86) rfl ?_
    rw [e1]
    refine pp_icmp_gt (tgt := 114) dX7_takes_86 (by decide) (q := 89) rfl (fun c86 => ?_) (fun c86 => ?_)
    · have hb : beats ((A.1 m).2.2 31) ((A.1 m).2.2 32) x (nI kd) t := Or.inr (Or.inl c86)
      refine pp_iconst dX7_takes_114 ci_1 (q := 115) rfl ?_
      refine pp_goto (tgt := 119) dX7_takes_115 (by decide) ?_
      refine pp_istore dX7_takes_119 (by decide) (ls1_7 (nl1 rfl)) (q := 121) rfl ?_
      refine pp_iload dX7_takes_121 rfl (q := 123) rfl ?_
      refine pp_if_eq (tgt := 137) dX7_takes_123 (by decide) (q := 126) rfl (fun c123 => absurd c123 nI1_ne) (fun c123 => ?_)
      refine pp_aload_n dX7_takes_126 rfl isRf_r (q := 127) rfl ?_
      refine pp_iload_n dX7_takes_127 rfl (q := 128) rfl ?_
      refine pp_iload_n dX7_takes_128 rfl (q := 129) rfl ?_
      refine pp_iload_n dX7_takes_129 rfl (q := 130) rfl ?_
      refine pp_iload dX7_takes_130 rfl (q := 132) rfl ?_
      refine pp_iload dX7_takes_132 rfl (q := 134) rfl ?_
      refine ps_callVv dX7_takes_134 lk_X7_67 (by exact (by first | exact h3.1 | exact h2.1 | exact h1.1 | exact h.1)) (by rfl) (by rfl) (by rfl) (m_wr h1 hmb hx hd) (by rfl) (by exact Nat.le_of_ble_eq_true rfl) (by decide) (by decide) (by exact Nat.le_of_ble_eq_true rfl) (q := 137) rfl (fun g134 h134 => ?_)
      obtain ⟨h2, hE2⟩ := h134
      refine rv_ret dX7_takes_137 rfl ?_
      first
        | (refine ⟨?_, hE1.tr hE2⟩; have e : tk1 A m x (nI kd) t l = aSet (tlA A (nI (kd - 1))) m (meEn (A.1 m) x (nI kd) t l) := (by unfold tk1 meTak; rw [cIf_f (fun q => hne q.1), cIf_f hne, cIf_t hb, tl0 hkd.1]); rw [e]; exact h2)
        | (refine ⟨?_, hE1⟩; have e : tk1 A m x (nI kd) t l = tlA A (nI (kd - 1)) := (by unfold tk1 meTak; rw [cIf_f (fun q => hne q.1), cIf_f hne, cIf_f hb, tl0 hkd.1, self_m]); rw [e]; exact h1)
    · refine pp_iload dX7_takes_89 rfl (q := 91) rfl ?_
      refine pp_aload_n dX7_takes_91 rfl isRf_r (q := 92) rfl ?_
      refine ps_get dX7_takes_92 fl_X7_8 (by first | exact h3.1 | exact h2.1 | exact h1.1 | exact h.1) rfl rfl (q := 95) rfl ?_
      refine pp_iload dX7_takes_95 rfl (q := 97) rfl ?_
      refine pp_iconst dX7_takes_97 ci_1 (q := 98) rfl ?_
      refine pp_iadd dX7_takes_98 (q := 99) rfl ?_
      try rw [nI_add]
      refine ps_iald dX7_takes_99 (by first | exact h3.1 | exact h2.1 | exact h1.1 | exact h.1) rfl rfl (by unfold nw; omega) (by decide) (q := 100) rfl ?_
      rw [e1]
      refine pp_icmp_ne (tgt := 118) dX7_takes_100 (by decide) (q := 103) rfl (fun c100 => ?_) (fun c100 => ?_)
      · have hb : ¬ beats ((A.1 m).2.2 31) ((A.1 m).2.2 32) x (nI kd) t := fun q => q.elim c72 (fun q => q.elim c86 (fun q => c100 q.1))
        refine pp_iconst dX7_takes_118 ci_0 (q := 119) rfl ?_
        refine pp_istore dX7_takes_119 (by decide) (ls1_7 (nl1 rfl)) (q := 121) rfl ?_
        refine pp_iload dX7_takes_121 rfl (q := 123) rfl ?_
        refine pp_if_eq (tgt := 137) dX7_takes_123 (by decide) (q := 126) rfl (fun c123 => ?_) (fun c123 => absurd rfl c123)
        refine rv_ret dX7_takes_137 rfl ?_
        first
          | (refine ⟨?_, hE1.tr hE2⟩; have e : tk1 A m x (nI kd) t l = aSet (tlA A (nI (kd - 1))) m (meEn (A.1 m) x (nI kd) t l) := (by unfold tk1 meTak; rw [cIf_f (fun q => hne q.1), cIf_f hne, cIf_t hb, tl0 hkd.1]); rw [e]; exact h2)
          | (refine ⟨?_, hE1⟩; have e : tk1 A m x (nI kd) t l = tlA A (nI (kd - 1)) := (by unfold tk1 meTak; rw [cIf_f (fun q => hne q.1), cIf_f hne, cIf_f hb, tl0 hkd.1, self_m]); rw [e]; exact h1)
      · refine pp_iload_n dX7_takes_103 rfl (q := 104) rfl ?_
        refine pp_aload_n dX7_takes_104 rfl isRf_r (q := 105) rfl ?_
        refine ps_get dX7_takes_105 fl_X7_8 (by first | exact h3.1 | exact h2.1 | exact h1.1 | exact h.1) rfl rfl (q := 108) rfl ?_
        refine pp_iload dX7_takes_108 rfl (q := 110) rfl ?_
        refine ps_iald (j := nw m x) dX7_takes_110 (by first | exact h3.1 | exact h2.1 | exact h1.1 | exact h.1) rfl rfl (by unfold nw; omega) (by decide) (q := 111) rfl ?_
        rw [e0]
        refine pp_icmp_le (tgt := 118) dX7_takes_111 (by decide) (q := 114) rfl (fun c111 => ?_) (fun c111 => ?_)
        · have hb : ¬ beats ((A.1 m).2.2 31) ((A.1 m).2.2 32) x (nI kd) t := fun q => q.elim c72 (fun q => q.elim c86 (fun q => absurd q.2 (Int32.not_lt.mpr c111)))
          refine pp_iconst dX7_takes_118 ci_0 (q := 119) rfl ?_
          refine pp_istore dX7_takes_119 (by decide) (ls1_7 (nl1 rfl)) (q := 121) rfl ?_
          refine pp_iload dX7_takes_121 rfl (q := 123) rfl ?_
          refine pp_if_eq (tgt := 137) dX7_takes_123 (by decide) (q := 126) rfl (fun c123 => ?_) (fun c123 => absurd rfl c123)
          refine rv_ret dX7_takes_137 rfl ?_
          first
            | (refine ⟨?_, hE1.tr hE2⟩; have e : tk1 A m x (nI kd) t l = aSet (tlA A (nI (kd - 1))) m (meEn (A.1 m) x (nI kd) t l) := (by unfold tk1 meTak; rw [cIf_f (fun q => hne q.1), cIf_f hne, cIf_t hb, tl0 hkd.1]); rw [e]; exact h2)
            | (refine ⟨?_, hE1⟩; have e : tk1 A m x (nI kd) t l = tlA A (nI (kd - 1)) := (by unfold tk1 meTak; rw [cIf_f (fun q => hne q.1), cIf_f hne, cIf_f hb, tl0 hkd.1, self_m]); rw [e]; exact h1)
        · have hb : beats ((A.1 m).2.2 31) ((A.1 m).2.2 32) x (nI kd) t := Or.inr (Or.inr ⟨c100, Int32.not_le.mp c111⟩)
          refine pp_iconst dX7_takes_114 ci_1 (q := 115) rfl ?_
          refine pp_goto (tgt := 119) dX7_takes_115 (by decide) ?_
          refine pp_istore dX7_takes_119 (by decide) (ls1_7 (nl1 rfl)) (q := 121) rfl ?_
          refine pp_iload dX7_takes_121 rfl (q := 123) rfl ?_
          refine pp_if_eq (tgt := 137) dX7_takes_123 (by decide) (q := 126) rfl (fun c123 => absurd c123 nI1_ne) (fun c123 => ?_)
          refine pp_aload_n dX7_takes_126 rfl isRf_r (q := 127) rfl ?_
          refine pp_iload_n dX7_takes_127 rfl (q := 128) rfl ?_
          refine pp_iload_n dX7_takes_128 rfl (q := 129) rfl ?_
          refine pp_iload_n dX7_takes_129 rfl (q := 130) rfl ?_
          refine pp_iload dX7_takes_130 rfl (q := 132) rfl ?_
          refine pp_iload dX7_takes_132 rfl (q := 134) rfl ?_
          refine ps_callVv dX7_takes_134 lk_X7_67 (by exact (by first | exact h3.1 | exact h2.1 | exact h1.1 | exact h.1)) (by rfl) (by rfl) (by rfl) (m_wr h1 hmb hx hd) (by rfl) (by exact Nat.le_of_ble_eq_true rfl) (by decide) (by decide) (by exact Nat.le_of_ble_eq_true rfl) (q := 137) rfl (fun g134 h134 => ?_)
          obtain ⟨h2, hE2⟩ := h134
          refine rv_ret dX7_takes_137 rfl ?_
          first
            | (refine ⟨?_, hE1.tr hE2⟩; have e : tk1 A m x (nI kd) t l = aSet (tlA A (nI (kd - 1))) m (meEn (A.1 m) x (nI kd) t l) := (by unfold tk1 meTak; rw [cIf_f (fun q => hne q.1), cIf_f hne, cIf_t hb, tl0 hkd.1]); rw [e]; exact h2)
            | (refine ⟨?_, hE1⟩; have e : tk1 A m x (nI kd) t l = tlA A (nI (kd - 1)) := (by unfold tk1 meTak; rw [cIf_f (fun q => hne q.1), cIf_f hne, cIf_f hb, tl0 hkd.1, self_m]); rw [e]; exact h1)
theorem m_takes {ad : Nm → Nat} {g : Sg} {A : AW} {n m : Nat} {o : Prop} {x kd : Nat} {t l : Int32} (h : RS g A n o) (hmb : m < 64) (hd : mdA A m) (hkd : 1 ≤ kd ∧ kd ≤ 4) (hx : x < 64) : PS mX7_takes 0 (ent mX7_takes [.ref (ad (40, 0, 0)), .int (nI m), .int (nI x), .int (nI kd), .int t, .int l]) [] ad g (Rv (fun g' => RS g' (tk1 A m x (nI kd) t l) n o ∧ EqM g g')) := by
  by_cases e : x = m
  · subst e; exact m_takeS h hmb hd hkd
  · exact m_takeO h hmb hd hkd hx e
set_option maxRecDepth 20000 in
set_option maxHeartbeats 4000000 in
theorem m_answered {ad : Nm → Nat} {g : Sg} {A : AW} {n m : Nat} {o : Prop} {x : Int32} (h : RS g A n o) (hmb : m < 64) (hd : mdA A m) : PS mX7_answered 0 (ent mX7_answered [.ref (ad (40, 0, 0)), .int (nI m), .int x]) [] ad g (Rv (fun g' => RS g' (aSet A m (meAns x (A.1 m))) n o ∧ EqM g g')) := by
  show PP mX7_answered 0 [some (.ref (ad (40, 0, 0))), some (.int (nI m)), some (.int x)] [] (Rel ad g) _
  refine pp_aload_n dX7_answered_0 rfl isRf_r (q := 1) rfl ?_
  refine pp_iload_n dX7_answered_1 rfl (q := 2) rfl ?_
  refine pp_iconst dX7_answered_2 ci_3 (q := 3) rfl ?_
  refine ps_callVi dX7_answered_3 lk_X7_48 (by exact (by first | exact h3.1 | exact h2.1 | exact h1.1 | exact h.1)) (by rfl) (by rfl) (by rfl) (m_of h.1 hmb (by omega)) (by rfl) (by exact Nat.le_of_ble_eq_true rfl) (by decide) (by decide) (by exact Nat.le_of_ble_eq_true rfl) (q := 6) rfl (fun r3 g3 h3 => ?_)
  obtain ⟨rfl, rfl⟩ := And.intro h3.1.symm h3.2.symm
  rw [show gA g (41, 0, 0) (7 * m + 3) = (A.1 m).1 6 from (h.2.o hmb hd).1.2.2.2.1]
  refine pp_iload_n dX7_answered_6 rfl (q := 7) rfl ?_
  refine pp_icmp_ne (tgt := 17) dX7_answered_7 (by decide) (q := 10) rfl (fun c7 => ?_) (fun c7 => ?_)
  · obtain ⟨M1, hM1⟩ : ∃ M1, M1 = A.1 m := ⟨_, rfl⟩
    have h1 : RS g (aSet A m M1) n o := by rw [hM1, aSet_self]; exact h
    have hE1 : EqM g g := EqM.rf
    have hd1 : mdA (aSet A m M1) m := by unfold mdA; rw [aSet_m, hM1]; exact hd
    have e7 : M1.1 7 = (A.1 m).1 7 := by rw [hM1]
    have hans : meAns x (A.1 m) = if (A.1 m).1 7 = x then meSI M1 7 (-1) else M1 := by unfold meAns; rw [if_neg c7, hM1]
    refine pp_aload_n dX7_answered_17 rfl isRf_r (q := 18) rfl ?_
    refine pp_iload_n dX7_answered_18 rfl (q := 19) rfl ?_
    refine pp_iconst dX7_answered_19 ci_4 (q := 20) rfl ?_
    refine ps_callVi dX7_answered_20 lk_X7_48 (by exact (by first | exact h3.1 | exact h2.1 | exact h1.1 | exact h.1)) (by rfl) (by rfl) (by rfl) (m_of h1.1 hmb (by omega)) (by rfl) (by exact Nat.le_of_ble_eq_true rfl) (by decide) (by decide) (by exact Nat.le_of_ble_eq_true rfl) (q := 23) rfl (fun r20 g20 h20 => ?_)
    obtain ⟨rfl, rfl⟩ := And.intro h20.1.symm h20.2.symm
    have ho1 := h1.2.o hmb hd1
    rw [aSet_m] at ho1
    rw [ho1.1.2.2.2.2.1, e7]
    refine pp_iload_n dX7_answered_23 rfl (q := 24) rfl ?_
    refine pp_icmp_ne (tgt := 34) dX7_answered_24 (by decide) (q := 27) rfl (fun c24 => ?_) (fun c24 => ?_)
    · refine rv_ret dX7_answered_34 rfl ?_
      first
        | (refine ⟨?_, hE1⟩; rw [hans, if_neg c24]; exact h1)
        | (refine ⟨?_, hE1.tr hE2⟩; rw [hans, if_pos c24]; exact h2)
    · refine pp_aload_n dX7_answered_27 rfl isRf_r (q := 28) rfl ?_
      refine pp_iload_n dX7_answered_28 rfl (q := 29) rfl ?_
      refine pp_iconst dX7_answered_29 ci_4 (q := 30) rfl ?_
      refine pp_iconst dX7_answered_30 ci_m1 (q := 31) rfl ?_
      refine ps_callVv dX7_answered_31 lk_X7_63 (by exact (by first | exact h3.1 | exact h2.1 | exact h1.1 | exact h.1)) (by rfl) (by rfl) (by rfl) (m_to4 h1 hmb hd1) (by rfl) (by exact Nat.le_of_ble_eq_true rfl) (by decide) (by decide) (by exact Nat.le_of_ble_eq_true rfl) (q := 34) rfl (fun g31 h31 => ?_)
      obtain ⟨h2, hE2⟩ := h31
      rw [aSet_aSet, aSet_m] at h2
      refine rv_ret dX7_answered_34 rfl ?_
      first
        | (refine ⟨?_, hE1⟩; rw [hans, if_neg c24]; exact h1)
        | (refine ⟨?_, hE1.tr hE2⟩; rw [hans, if_pos c24]; exact h2)
  · refine pp_aload_n dX7_answered_10 rfl isRf_r (q := 11) rfl ?_
    refine pp_iload_n dX7_answered_11 rfl (q := 12) rfl ?_
    refine pp_iconst dX7_answered_12 ci_3 (q := 13) rfl ?_
    refine pp_iconst dX7_answered_13 ci_m1 (q := 14) rfl ?_
    refine ps_callVv dX7_answered_14 lk_X7_63 (by exact (by first | exact h3.1 | exact h2.1 | exact h1.1 | exact h.1)) (by rfl) (by rfl) (by rfl) (m_to3 h hmb hd) (by rfl) (by exact Nat.le_of_ble_eq_true rfl) (by decide) (by decide) (by exact Nat.le_of_ble_eq_true rfl) (q := 17) rfl (fun g14 h14 => ?_)
    obtain ⟨h1, hE1⟩ := h14
    obtain ⟨M1, hM1⟩ : ∃ M1, M1 = meSI (A.1 m) 6 (-1) := ⟨_, rfl⟩
    rw [← hM1] at h1
    have hd1 : mdA (aSet A m M1) m := by unfold mdA; rw [aSet_m, hM1]; exact hd
    have e7 : M1.1 7 = (A.1 m).1 7 := by rw [hM1]; rfl
    have hans : meAns x (A.1 m) = if (A.1 m).1 7 = x then meSI M1 7 (-1) else M1 := by unfold meAns; rw [if_pos c7, hM1]
    refine pp_aload_n dX7_answered_17 rfl isRf_r (q := 18) rfl ?_
    refine pp_iload_n dX7_answered_18 rfl (q := 19) rfl ?_
    refine pp_iconst dX7_answered_19 ci_4 (q := 20) rfl ?_
    refine ps_callVi dX7_answered_20 lk_X7_48 (by exact (by first | exact h3.1 | exact h2.1 | exact h1.1 | exact h.1)) (by rfl) (by rfl) (by rfl) (m_of h1.1 hmb (by omega)) (by rfl) (by exact Nat.le_of_ble_eq_true rfl) (by decide) (by decide) (by exact Nat.le_of_ble_eq_true rfl) (q := 23) rfl (fun r20 g20 h20 => ?_)
    obtain ⟨rfl, rfl⟩ := And.intro h20.1.symm h20.2.symm
    have ho1 := h1.2.o hmb hd1
    rw [aSet_m] at ho1
    rw [ho1.1.2.2.2.2.1, e7]
    refine pp_iload_n dX7_answered_23 rfl (q := 24) rfl ?_
    refine pp_icmp_ne (tgt := 34) dX7_answered_24 (by decide) (q := 27) rfl (fun c24 => ?_) (fun c24 => ?_)
    · refine rv_ret dX7_answered_34 rfl ?_
      first
        | (refine ⟨?_, hE1⟩; rw [hans, if_neg c24]; exact h1)
        | (refine ⟨?_, hE1.tr hE2⟩; rw [hans, if_pos c24]; exact h2)
    · refine pp_aload_n dX7_answered_27 rfl isRf_r (q := 28) rfl ?_
      refine pp_iload_n dX7_answered_28 rfl (q := 29) rfl ?_
      refine pp_iconst dX7_answered_29 ci_4 (q := 30) rfl ?_
      refine pp_iconst dX7_answered_30 ci_m1 (q := 31) rfl ?_
      refine ps_callVv dX7_answered_31 lk_X7_63 (by exact (by first | exact h3.1 | exact h2.1 | exact h1.1 | exact h.1)) (by rfl) (by rfl) (by rfl) (m_to4 h1 hmb hd1) (by rfl) (by exact Nat.le_of_ble_eq_true rfl) (by decide) (by decide) (by exact Nat.le_of_ble_eq_true rfl) (q := 34) rfl (fun g31 h31 => ?_)
      obtain ⟨h2, hE2⟩ := h31
      rw [aSet_aSet, aSet_m] at h2
      refine rv_ret dX7_answered_34 rfl ?_
      first
        | (refine ⟨?_, hE1⟩; rw [hans, if_neg c24]; exact h1)
        | (refine ⟨?_, hE1.tr hE2⟩; rw [hans, if_pos c24]; exact h2)
theorem RF.lt {f : Nat → Int32} {sd : Nat → Int64} {A : AW} {n l c : Nat} (h : RF f sd A n False) (hl : l < bL (aB A)) (hc : c < 8) : f (ltx l c) = bl (aB A) l (lcx c) := h.2.2.1.2.2.2.1 l c hl hc (fun q => q.elim)
theorem RF.pc {f : Nat → Int32} {sd : Nat → Int64} {A : AW} {n q c : Nat} {o : Prop} (h : RF f sd A n o) (hq : q < bP (aB A)) (hc : c < 4) : f (38720 + 4 * q + c) = bp (aB A) q c := h.2.2.1.2.2.2.2 q c hq hc
theorem m_lt {ad : Nm → Nat} {g : Sg} {A : AW} {n l c : Nat} (h : RS g A n False) (hl : l < bL (aB A)) (hc : c < 8) : PS mX7_letterOf 0 (ent mX7_letterOf [.ref (ad (40, 0, 0)), .int (nI l), .int (nI c)]) [] ad g (Ri (fun v g' => v = bl (aB A) l (lcx c) ∧ g' = g)) := by
  refine (m_letterOf h.1 (by have := h.2.2.2.1.1; omega) hc).weak (fun v G hG => ?_)
  obtain ⟨g', h1, r, h2, rfl, h4⟩ := hG
  exact ⟨g', h1, _, h2, h.2.lt hl hc, h4⟩
theorem tkF_1 {A : AW} {m s i x kd : Nat} {t l : Int32} (h0 : bp (aB A) (s + i) 0 = nI x) (hx : x < 64) (h1 : bp (aB A) (s + i) 1 = nI kd) (h2 : bp (aB A) (s + i) 2 = t) : tkF m l s A i = tk1 A m x (nI kd) t l := by
  unfold tkF tk1
  rw [h0, h1, h2, nI_clamp (by omega)]
set_option maxRecDepth 20000 in
set_option maxHeartbeats 4000000 in
theorem s_com1 {ad : Nm → Nat} {g : Sg} {A : AW} {n m l k s i x kd : Nat} {fr ab : Int32} {Q : Option Value → PH → Prop} (h : RS g A n False) (hmb : m < 64) (hd : mdA A m) (hp : pOk (aB A) l k s) (hi : i < k) (h0 : bp (aB A) (s + i) 0 = nI x) (hx : x < 64) (h1 : bp (aB A) (s + i) 1 = nI kd) (hkd : 1 ≤ kd ∧ kd ≤ 4) (hk : ∀ g', RS g' (tkF m (nI l) s A i) n False → EqM g g' → ∀ z, PP mX7_comes 25 [some (.ref (ad (40, 0, 0))), some (.int (nI l)), some (.int fr), some (.int (nI m)), some (.int ab), some (.int (nI (i + 1))), z] [] (Rel ad g') Q) (z : Option Value) : PP mX7_comes 25 [some (.ref (ad (40, 0, 0))), some (.int (nI l)), some (.int fr), some (.int (nI m)), some (.int ab), some (.int (nI i)), z] [] (Rel ad g) Q := by
  have hb2 := h.2.2.2.1.1
  have hq : s + i < bP (aB A) := by have := hp.2.2.2.1; omega
  refine pp_iload dX7_comes_25 rfl (q := 27) rfl ?_
  refine pp_aload_n dX7_comes_27 rfl isRf_r (q := 28) rfl ?_
  refine pp_iload_n dX7_comes_28 rfl (q := 29) rfl ?_
  refine pp_iconst dX7_comes_29 ci_5 (q := 30) rfl ?_
  refine ps_callVi dX7_comes_30 lk_X7_83 (by exact (by first | exact h2.1 | exact h.1)) (by rfl) (by rfl) (by rfl) (m_lt (c := 5) h hp.1 (by omega)) (by rfl) (by exact Nat.le_of_ble_eq_true rfl) (by decide) (by decide) (by exact Nat.le_of_ble_eq_true rfl) (q := 33) rfl (fun r30 g30 h30 => ?_)
  obtain ⟨rfl, rfl⟩ := And.intro h30.1.symm h30.2.symm
  rw [show bl (aB A) l (lcx 5) = nI k from hp.2.1]
  refine pp_icmp_ge (tgt := 89) dX7_comes_33 (by decide) (q := 36) rfl (fun c33 => absurd c33 (nI_ge hi (by have := hp.2.2.2.2; omega))) (fun c33 => ?_)
  refine pp_ldc (v := nI 38720) dX7_comes_36 kc_X7_71 (q := 38) rfl ?_
  refine pp_iconst dX7_comes_38 ci_4 (q := 39) rfl ?_
  refine pp_aload_n dX7_comes_39 rfl isRf_r (q := 40) rfl ?_
  refine pp_iload_n dX7_comes_40 rfl (q := 41) rfl ?_
  refine pp_iconst dX7_comes_41 ci_4 (q := 42) rfl ?_
  refine ps_callVi dX7_comes_42 lk_X7_83 (by exact (by first | exact h2.1 | exact h.1)) (by rfl) (by rfl) (by rfl) (m_lt (c := 4) h hp.1 (by omega)) (by rfl) (by exact Nat.le_of_ble_eq_true rfl) (by decide) (by decide) (by exact Nat.le_of_ble_eq_true rfl) (q := 45) rfl (fun r42 g42 h42 => ?_)
  obtain ⟨rfl, rfl⟩ := And.intro h42.1.symm h42.2.symm
  rw [show bl (aB A) l (lcx 4) = nI s from hp.2.2.1]
  refine pp_iload dX7_comes_45 rfl (q := 47) rfl ?_
  refine pp_iadd dX7_comes_47 (q := 48) rfl ?_
  try rw [nI_add]
  refine pp_imul dX7_comes_48 (q := 49) rfl ?_
  try rw [pk_mul]
  refine pp_iadd dX7_comes_49 (q := 50) rfl ?_
  try rw [nI_add]
  refine pp_istore dX7_comes_50 (by decide) (ls1_6 (nl1 rfl)) (q := 52) rfl ?_
  refine pp_aload_n dX7_comes_52 rfl isRf_r (q := 53) rfl ?_
  refine pp_iload_n dX7_comes_53 rfl (q := 54) rfl ?_
  refine pp_aload_n dX7_comes_54 rfl isRf_r (q := 55) rfl ?_
  refine ps_get dX7_comes_55 fl_X7_8 (by first | exact h2.1 | exact h.1) rfl rfl (q := 58) rfl ?_
  refine pp_iload dX7_comes_58 rfl (q := 60) rfl ?_
  refine ps_iald (j := 38720 + 4 * (s + i)) dX7_comes_60 (by first | exact h2.1 | exact h.1) rfl rfl (by omega) (by decide) (q := 61) rfl ?_
  rw [show gA g (41, 0, 0) (38720 + 4 * (s + i)) = nI x from (h.2.pc (c := 0) hq (by omega)).trans h0]
  refine pp_aload_n dX7_comes_61 rfl isRf_r (q := 62) rfl ?_
  refine ps_get dX7_comes_62 fl_X7_8 (by first | exact h2.1 | exact h.1) rfl rfl (q := 65) rfl ?_
  refine pp_iload dX7_comes_65 rfl (q := 67) rfl ?_
  refine pp_iconst dX7_comes_67 ci_1 (q := 68) rfl ?_
  refine pp_iadd dX7_comes_68 (q := 69) rfl ?_
  try rw [nI_add]
  refine ps_iald (j := 38720 + 4 * (s + i) + 1) dX7_comes_69 (by first | exact h2.1 | exact h.1) rfl rfl (by omega) (by decide) (q := 70) rfl ?_
  rw [show gA g (41, 0, 0) (38720 + 4 * (s + i) + 1) = nI kd from (h.2.pc (c := 1) hq (by omega)).trans h1]
  refine pp_aload_n dX7_comes_70 rfl isRf_r (q := 71) rfl ?_
  refine ps_get dX7_comes_71 fl_X7_8 (by first | exact h2.1 | exact h.1) rfl rfl (q := 74) rfl ?_
  refine pp_iload dX7_comes_74 rfl (q := 76) rfl ?_
  refine pp_iconst dX7_comes_76 ci_2 (q := 77) rfl ?_
  refine pp_iadd dX7_comes_77 (q := 78) rfl ?_
  try rw [nI_add]
  refine ps_iald (j := 38720 + 4 * (s + i) + 2) dX7_comes_78 (by first | exact h2.1 | exact h.1) rfl rfl (by omega) (by decide) (q := 79) rfl ?_
  rw [h.2.pc (c := 2) hq (by omega)]
  refine pp_iload_n dX7_comes_79 rfl (q := 80) rfl ?_
  refine ps_callVv dX7_comes_80 lk_X7_86 (by exact (by first | exact h2.1 | exact h.1)) (by rfl) (by rfl) (by rfl) (m_takes h hmb hd hkd hx) (by rfl) (by exact Nat.le_of_ble_eq_true rfl) (by decide) (by decide) (by exact Nat.le_of_ble_eq_true rfl) (q := 83) rfl (fun g80 h80 => ?_)
  obtain ⟨h2, hE2⟩ := h80
  rw [← tkF_1 h0 hx h1 rfl] at h2
  refine pp_iinc dX7_comes_83 rfl (nI_1 _) (ls1_5 (nl1 rfl)) (q := 86) rfl ?_
  refine pp_goto (tgt := 25) dX7_comes_86 (by decide) ?_
  exact hk _ h2 hE2 _
set_option maxRecDepth 20000 in
set_option maxHeartbeats 4000000 in
theorem s_coma {ad : Nm → Nat} {g : Sg} {A : AW} {n m l k s : Nat} (h : RS g A n False) (hmb : m < 64) (hd : mdA A m) (hp : pOk (aB A) l k s) (hK : ∀ x, x < 64 → ∃ kd, kd ≤ 4 ∧ (A.1 m).2.2 31 x = nI kd) (hlb : bL (aB A) + 1 ≤ 1200) (hpb : bP (aB A) + 64 ≤ 20000) (hk : bl (aB A) l 0 = nI 1) (z : Option Value) : PS mX7_comes 25 [some (.ref (ad (40, 0, 0))), some (.int (nI l)), some (.int (bl (aB A) l 1)), some (.int (nI m)), some (.int (bl (aB A) l 3)), some (.int (nI k)), z] [] ad g (Ri (fun v g' => v = (rspA A m l).2 ∧ RS g' (rspA A m l).1 n False ∧ EqM g g')) := by
  refine pp_iload dX7_comes_25 rfl (q := 27) rfl ?_
  refine pp_aload_n dX7_comes_27 rfl isRf_r (q := 28) rfl ?_
  refine pp_iload_n dX7_comes_28 rfl (q := 29) rfl ?_
  refine pp_iconst dX7_comes_29 ci_5 (q := 30) rfl ?_
  refine ps_callVi dX7_comes_30 lk_X7_83 (by exact (by first | exact h2.1 | exact h.1)) (by rfl) (by rfl) (by rfl) (m_lt (c := 5) h hp.1 (by omega)) (by rfl) (by exact Nat.le_of_ble_eq_true rfl) (by decide) (by decide) (by exact Nat.le_of_ble_eq_true rfl) (q := 33) rfl (fun r30 g30 h30 => ?_)
  obtain ⟨rfl, rfl⟩ := And.intro h30.1.symm h30.2.symm
  rw [show bl (aB A) l (lcx 5) = nI k from hp.2.1]
  refine pp_icmp_ge (tgt := 89) dX7_comes_33 (by decide) (q := 36) rfl (fun c33 => ?_) (fun c33 => absurd (nI_le (Nat.le_refl _) (by have := hp.2.2.2.2; omega)) c33)
  refine pp_iconst dX7_comes_89 ci_m1 (q := 90) rfl ?_
  refine pp_istore dX7_comes_90 (by decide) (ls1_5 (nl1 rfl)) (q := 92) rfl ?_
  refine pp_aload_n dX7_comes_92 rfl isRf_r (q := 93) rfl ?_
  refine pp_iload_n dX7_comes_93 rfl (q := 94) rfl ?_
  refine pp_iconst dX7_comes_94 ci_0 (q := 95) rfl ?_
  refine ps_callVi dX7_comes_95 lk_X7_83 (by exact (by first | exact h2.1 | exact h.1)) (by rfl) (by rfl) (by rfl) (m_lt (c := 0) h hp.1 (by omega)) (by rfl) (by exact Nat.le_of_ble_eq_true rfl) (by decide) (by decide) (by exact Nat.le_of_ble_eq_true rfl) (q := 98) rfl (fun r95 g95 h95 => ?_)
  obtain ⟨rfl, rfl⟩ := And.intro h95.1.symm h95.2.symm
  rw [show bl (aB A) l (lcx 0) = bl (aB A) l 0 from rfl]
  refine pp_tswK (v := 1) (tgt := 132) dX7_comes_98 hk (by decide) (by decide) (by decide) rfl (by decide) ?_
  refine pp_aload_n dX7_comes_132 rfl isRf_r (q := 133) rfl ?_
  refine pp_iload_n dX7_comes_133 rfl (q := 134) rfl ?_
  refine pp_iload_n dX7_comes_134 rfl (q := 135) rfl ?_
  refine pp_iconst dX7_comes_135 ci_3 (q := 136) rfl ?_
  refine pp_iload dX7_comes_136 rfl (q := 138) rfl ?_
  refine ps_callVi dX7_comes_138 lk_X7_89 (by exact (by first | exact h2.1 | exact h.1)) (by rfl) (by rfl) (by rfl) (m_send h hmb hd hK hlb hpb) (by rfl) (by exact Nat.le_of_ble_eq_true rfl) (by decide) (by decide) (by exact Nat.le_of_ble_eq_true rfl) (q := 141) rfl (fun r138 g138 h138 => ?_)
  obtain ⟨rfl, h2, hE2⟩ := h138
  refine pp_istore dX7_comes_141 (by decide) (ls1_5 (nl1 rfl)) (q := 143) rfl ?_
  refine pp_goto (tgt := 212) dX7_comes_143 (by decide) ?_
  refine pp_iload dX7_comes_212 rfl (q := 214) rfl ?_
  refine pp_if_ge (tgt := 221) dX7_comes_214 (by decide) (q := 217) rfl (fun c214 => ?_) (fun c214 => absurd (nI_pos' (by omega)) c214)
  refine pp_iconst dX7_comes_221 ci_1 (q := 222) rfl ?_
  refine ri_ret dX7_comes_222 rfl rfl ?_
  unfold rspA
  rw [if_pos hk]
  exact ⟨rfl, h2, sdM hE2⟩
set_option maxRecDepth 20000 in
set_option maxHeartbeats 4000000 in
theorem s_comb {ad : Nm → Nat} {g : Sg} {A : AW} {n m l k s : Nat} (h : RS g A n False) (hmb : m < 64) (hd : mdA A m) (hp : pOk (aB A) l k s) (hK : ∀ x, x < 64 → ∃ kd, kd ≤ 4 ∧ (A.1 m).2.2 31 x = nI kd) (hlb : bL (aB A) + 1 ≤ 1200) (hpb : bP (aB A) + 64 ≤ 20000) (hk : bl (aB A) l 0 = nI 2) (z : Option Value) : PS mX7_comes 25 [some (.ref (ad (40, 0, 0))), some (.int (nI l)), some (.int (bl (aB A) l 1)), some (.int (nI m)), some (.int (bl (aB A) l 3)), some (.int (nI k)), z] [] ad g (Ri (fun v g' => v = (rspA A m l).2 ∧ RS g' (rspA A m l).1 n False ∧ EqM g g')) := by
  refine pp_iload dX7_comes_25 rfl (q := 27) rfl ?_
  refine pp_aload_n dX7_comes_27 rfl isRf_r (q := 28) rfl ?_
  refine pp_iload_n dX7_comes_28 rfl (q := 29) rfl ?_
  refine pp_iconst dX7_comes_29 ci_5 (q := 30) rfl ?_
  refine ps_callVi dX7_comes_30 lk_X7_83 (by exact (by first | exact h2.1 | exact h.1)) (by rfl) (by rfl) (by rfl) (m_lt (c := 5) h hp.1 (by omega)) (by rfl) (by exact Nat.le_of_ble_eq_true rfl) (by decide) (by decide) (by exact Nat.le_of_ble_eq_true rfl) (q := 33) rfl (fun r30 g30 h30 => ?_)
  obtain ⟨rfl, rfl⟩ := And.intro h30.1.symm h30.2.symm
  rw [show bl (aB A) l (lcx 5) = nI k from hp.2.1]
  refine pp_icmp_ge (tgt := 89) dX7_comes_33 (by decide) (q := 36) rfl (fun c33 => ?_) (fun c33 => absurd (nI_le (Nat.le_refl _) (by have := hp.2.2.2.2; omega)) c33)
  refine pp_iconst dX7_comes_89 ci_m1 (q := 90) rfl ?_
  refine pp_istore dX7_comes_90 (by decide) (ls1_5 (nl1 rfl)) (q := 92) rfl ?_
  refine pp_aload_n dX7_comes_92 rfl isRf_r (q := 93) rfl ?_
  refine pp_iload_n dX7_comes_93 rfl (q := 94) rfl ?_
  refine pp_iconst dX7_comes_94 ci_0 (q := 95) rfl ?_
  refine ps_callVi dX7_comes_95 lk_X7_83 (by exact (by first | exact h2.1 | exact h.1)) (by rfl) (by rfl) (by rfl) (m_lt (c := 0) h hp.1 (by omega)) (by rfl) (by exact Nat.le_of_ble_eq_true rfl) (by decide) (by decide) (by exact Nat.le_of_ble_eq_true rfl) (q := 98) rfl (fun r95 g95 h95 => ?_)
  obtain ⟨rfl, rfl⟩ := And.intro h95.1.symm h95.2.symm
  rw [show bl (aB A) l (lcx 0) = bl (aB A) l 0 from rfl]
  refine pp_tswK (v := 2) (tgt := 146) dX7_comes_98 hk (by decide) (by decide) (by decide) rfl (by decide) ?_
  refine pp_aload_n dX7_comes_146 rfl isRf_r (q := 147) rfl ?_
  refine pp_iload_n dX7_comes_147 rfl (q := 148) rfl ?_
  refine pp_iload dX7_comes_148 rfl (q := 150) rfl ?_
  refine pp_iconst dX7_comes_150 ci_1 (q := 151) rfl ?_
  refine pp_iload_n dX7_comes_151 rfl (q := 152) rfl ?_
  refine ps_callVi dX7_comes_152 lk_X7_89 (by exact (by first | exact h2.1 | exact h.1)) (by rfl) (by rfl) (by rfl) (m_send h hmb hd hK hlb hpb) (by rfl) (by exact Nat.le_of_ble_eq_true rfl) (by decide) (by decide) (by exact Nat.le_of_ble_eq_true rfl) (q := 155) rfl (fun r152 g152 h152 => ?_)
  obtain ⟨rfl, h2, hE2⟩ := h152
  refine pp_istore dX7_comes_155 (by decide) (ls1_5 (nl1 rfl)) (q := 157) rfl ?_
  refine pp_goto (tgt := 212) dX7_comes_157 (by decide) ?_
  refine pp_iload dX7_comes_212 rfl (q := 214) rfl ?_
  refine pp_if_ge (tgt := 221) dX7_comes_214 (by decide) (q := 217) rfl (fun c214 => ?_) (fun c214 => absurd (nI_pos' (by omega)) c214)
  refine pp_iconst dX7_comes_221 ci_1 (q := 222) rfl ?_
  refine ri_ret dX7_comes_222 rfl rfl ?_
  unfold rspA
  rw [if_neg (fun q => absurd (hk.symm.trans q) (by decide)), if_pos hk]
  exact ⟨rfl, h2, sdM hE2⟩
set_option maxRecDepth 20000 in
set_option maxHeartbeats 4000000 in
theorem s_comc {ad : Nm → Nat} {g : Sg} {A : AW} {n m l k s : Nat} (h : RS g A n False) (hmb : m < 64) (hd : mdA A m) (hp : pOk (aB A) l k s) (hK : ∀ x, x < 64 → ∃ kd, kd ≤ 4 ∧ (A.1 m).2.2 31 x = nI kd) (hlb : bL (aB A) + 1 ≤ 1200) (hpb : bP (aB A) + 64 ≤ 20000) (hk : bl (aB A) l 0 = nI 3) (ha : bl (aB A) l 3 = -1) (z : Option Value) : PS mX7_comes 25 [some (.ref (ad (40, 0, 0))), some (.int (nI l)), some (.int (bl (aB A) l 1)), some (.int (nI m)), some (.int (bl (aB A) l 3)), some (.int (nI k)), z] [] ad g (Ri (fun v g' => v = (rspA A m l).2 ∧ RS g' (rspA A m l).1 n False ∧ EqM g g')) := by
  refine pp_iload dX7_comes_25 rfl (q := 27) rfl ?_
  refine pp_aload_n dX7_comes_27 rfl isRf_r (q := 28) rfl ?_
  refine pp_iload_n dX7_comes_28 rfl (q := 29) rfl ?_
  refine pp_iconst dX7_comes_29 ci_5 (q := 30) rfl ?_
  refine ps_callVi dX7_comes_30 lk_X7_83 (by exact (by first | exact h2.1 | exact h.1)) (by rfl) (by rfl) (by rfl) (m_lt (c := 5) h hp.1 (by omega)) (by rfl) (by exact Nat.le_of_ble_eq_true rfl) (by decide) (by decide) (by exact Nat.le_of_ble_eq_true rfl) (q := 33) rfl (fun r30 g30 h30 => ?_)
  obtain ⟨rfl, rfl⟩ := And.intro h30.1.symm h30.2.symm
  rw [show bl (aB A) l (lcx 5) = nI k from hp.2.1]
  refine pp_icmp_ge (tgt := 89) dX7_comes_33 (by decide) (q := 36) rfl (fun c33 => ?_) (fun c33 => absurd (nI_le (Nat.le_refl _) (by have := hp.2.2.2.2; omega)) c33)
  refine pp_iconst dX7_comes_89 ci_m1 (q := 90) rfl ?_
  refine pp_istore dX7_comes_90 (by decide) (ls1_5 (nl1 rfl)) (q := 92) rfl ?_
  refine pp_aload_n dX7_comes_92 rfl isRf_r (q := 93) rfl ?_
  refine pp_iload_n dX7_comes_93 rfl (q := 94) rfl ?_
  refine pp_iconst dX7_comes_94 ci_0 (q := 95) rfl ?_
  refine ps_callVi dX7_comes_95 lk_X7_83 (by exact (by first | exact h2.1 | exact h.1)) (by rfl) (by rfl) (by rfl) (m_lt (c := 0) h hp.1 (by omega)) (by rfl) (by exact Nat.le_of_ble_eq_true rfl) (by decide) (by decide) (by exact Nat.le_of_ble_eq_true rfl) (q := 98) rfl (fun r95 g95 h95 => ?_)
  obtain ⟨rfl, rfl⟩ := And.intro h95.1.symm h95.2.symm
  rw [show bl (aB A) l (lcx 0) = bl (aB A) l 0 from rfl]
  refine pp_tswK (v := 3) (tgt := 160) dX7_comes_98 hk (by decide) (by decide) (by decide) rfl (by decide) ?_
  refine pp_iload dX7_comes_160 rfl (q := 162) rfl ?_
  refine pp_if_ge (tgt := 174) dX7_comes_162 (by decide) (q := 165) rfl (fun c162 => absurd c162 (by rw [ha]; decide)) (fun c162 => ?_)
  refine pp_aload_n dX7_comes_165 rfl isRf_r (q := 166) rfl ?_
  refine pp_iload_n dX7_comes_166 rfl (q := 167) rfl ?_
  refine pp_iload_n dX7_comes_167 rfl (q := 168) rfl ?_
  refine ps_callVv dX7_comes_168 lk_X7_93 (by exact (by first | exact h2.1 | exact h.1)) (by rfl) (by rfl) (by rfl) (m_answered h hmb hd) (by rfl) (by exact Nat.le_of_ble_eq_true rfl) (by decide) (by decide) (by exact Nat.le_of_ble_eq_true rfl) (q := 171) rfl (fun g168 h168 => ?_)
  obtain ⟨h2, hE2⟩ := h168
  refine pp_goto (tgt := 212) dX7_comes_171 (by decide) ?_
  refine pp_iload dX7_comes_212 rfl (q := 214) rfl ?_
  refine pp_if_ge (tgt := 221) dX7_comes_214 (by decide) (q := 217) rfl (fun c214 => absurd c214 (by decide)) (fun c214 => ?_)
  refine pp_iconst dX7_comes_217 ci_0 (q := 218) rfl ?_
  refine pp_goto (tgt := 222) dX7_comes_218 (by decide) ?_
  refine ri_ret dX7_comes_222 rfl rfl ?_
  unfold rspA
  rw [if_neg (fun q => absurd (hk.symm.trans q) (by decide)), if_neg (fun q => absurd (hk.symm.trans q) (by decide)), if_pos hk, if_pos ha]
  exact ⟨rfl, h2, hE2⟩
set_option maxRecDepth 20000 in
set_option maxHeartbeats 4000000 in
theorem s_comd {ad : Nm → Nat} {g : Sg} {A : AW} {n m l k s : Nat} (h : RS g A n False) (hmb : m < 64) (hd : mdA A m) (hp : pOk (aB A) l k s) (hK : ∀ x, x < 64 → ∃ kd, kd ≤ 4 ∧ (A.1 m).2.2 31 x = nI kd) (hlb : bL (aB A) + 1 ≤ 1200) (hpb : bP (aB A) + 64 ≤ 20000) {t : Nat} (hk : bl (aB A) l 0 = nI 3) (ha : bl (aB A) l 3 = nI t) (htb : t < 64) (z : Option Value) : PS mX7_comes 25 [some (.ref (ad (40, 0, 0))), some (.int (nI l)), some (.int (bl (aB A) l 1)), some (.int (nI m)), some (.int (bl (aB A) l 3)), some (.int (nI k)), z] [] ad g (Ri (fun v g' => v = (rspA A m l).2 ∧ RS g' (rspA A m l).1 n False ∧ EqM g g')) := by
  refine pp_iload dX7_comes_25 rfl (q := 27) rfl ?_
  refine pp_aload_n dX7_comes_27 rfl isRf_r (q := 28) rfl ?_
  refine pp_iload_n dX7_comes_28 rfl (q := 29) rfl ?_
  refine pp_iconst dX7_comes_29 ci_5 (q := 30) rfl ?_
  refine ps_callVi dX7_comes_30 lk_X7_83 (by exact (by first | exact h2.1 | exact h.1)) (by rfl) (by rfl) (by rfl) (m_lt (c := 5) h hp.1 (by omega)) (by rfl) (by exact Nat.le_of_ble_eq_true rfl) (by decide) (by decide) (by exact Nat.le_of_ble_eq_true rfl) (q := 33) rfl (fun r30 g30 h30 => ?_)
  obtain ⟨rfl, rfl⟩ := And.intro h30.1.symm h30.2.symm
  rw [show bl (aB A) l (lcx 5) = nI k from hp.2.1]
  refine pp_icmp_ge (tgt := 89) dX7_comes_33 (by decide) (q := 36) rfl (fun c33 => ?_) (fun c33 => absurd (nI_le (Nat.le_refl _) (by have := hp.2.2.2.2; omega)) c33)
  refine pp_iconst dX7_comes_89 ci_m1 (q := 90) rfl ?_
  refine pp_istore dX7_comes_90 (by decide) (ls1_5 (nl1 rfl)) (q := 92) rfl ?_
  refine pp_aload_n dX7_comes_92 rfl isRf_r (q := 93) rfl ?_
  refine pp_iload_n dX7_comes_93 rfl (q := 94) rfl ?_
  refine pp_iconst dX7_comes_94 ci_0 (q := 95) rfl ?_
  refine ps_callVi dX7_comes_95 lk_X7_83 (by exact (by first | exact h2.1 | exact h.1)) (by rfl) (by rfl) (by rfl) (m_lt (c := 0) h hp.1 (by omega)) (by rfl) (by exact Nat.le_of_ble_eq_true rfl) (by decide) (by decide) (by exact Nat.le_of_ble_eq_true rfl) (q := 98) rfl (fun r95 g95 h95 => ?_)
  obtain ⟨rfl, rfl⟩ := And.intro h95.1.symm h95.2.symm
  rw [show bl (aB A) l (lcx 0) = bl (aB A) l 0 from rfl]
  refine pp_tswK (v := 3) (tgt := 160) dX7_comes_98 hk (by decide) (by decide) (by decide) rfl (by decide) ?_
  refine pp_iload dX7_comes_160 rfl (q := 162) rfl ?_
  refine pp_if_ge (tgt := 174) dX7_comes_162 (by decide) (q := 165) rfl (fun c162 => ?_) (fun c162 => absurd (by rw [ha]; exact nI_pos' (by omega)) c162)
  refine pp_aload_n dX7_comes_174 rfl isRf_r (q := 175) rfl ?_
  refine pp_iload_n dX7_comes_175 rfl (q := 176) rfl ?_
  refine pp_iload dX7_comes_176 rfl (q := 178) rfl ?_
  refine pp_iconst dX7_comes_178 ci_4 (q := 179) rfl ?_
  refine pp_iload_n dX7_comes_179 rfl (q := 180) rfl ?_
  refine ps_callVi dX7_comes_180 lk_X7_89 (by exact (by first | exact h2.1 | exact h.1)) (by rfl) (by rfl) (by rfl) (m_send h hmb hd hK hlb hpb) (by rfl) (by exact Nat.le_of_ble_eq_true rfl) (by decide) (by decide) (by exact Nat.le_of_ble_eq_true rfl) (q := 183) rfl (fun r180 g180 h180 => ?_)
  obtain ⟨rfl, h2, hE2⟩ := h180
  refine pp_istore dX7_comes_183 (by decide) (ls1_5 (nl1 rfl)) (q := 185) rfl ?_
  refine pp_goto (tgt := 212) dX7_comes_185 (by decide) ?_
  refine pp_iload dX7_comes_212 rfl (q := 214) rfl ?_
  refine pp_if_ge (tgt := 221) dX7_comes_214 (by decide) (q := 217) rfl (fun c214 => ?_) (fun c214 => absurd (nI_pos' (by omega)) c214)
  refine pp_iconst dX7_comes_221 ci_1 (q := 222) rfl ?_
  refine ri_ret dX7_comes_222 rfl rfl ?_
  unfold rspA
  rw [if_neg (fun q => absurd (hk.symm.trans q) (by decide)), if_neg (fun q => absurd (hk.symm.trans q) (by decide)), if_pos hk, if_neg (by rw [ha]; exact oI_some_ne (by omega))]
  exact ⟨rfl, h2, sdM hE2⟩
set_option maxRecDepth 20000 in
set_option maxHeartbeats 4000000 in
theorem s_come {ad : Nm → Nat} {g : Sg} {A : AW} {n m l k s : Nat} (h : RS g A n False) (hmb : m < 64) (hd : mdA A m) (hp : pOk (aB A) l k s) (hK : ∀ x, x < 64 → ∃ kd, kd ≤ 4 ∧ (A.1 m).2.2 31 x = nI kd) (hlb : bL (aB A) + 1 ≤ 1200) (hpb : bP (aB A) + 64 ≤ 20000) (hk : bl (aB A) l 0 = nI 4) (z : Option Value) : PS mX7_comes 25 [some (.ref (ad (40, 0, 0))), some (.int (nI l)), some (.int (bl (aB A) l 1)), some (.int (nI m)), some (.int (bl (aB A) l 3)), some (.int (nI k)), z] [] ad g (Ri (fun v g' => v = (rspA A m l).2 ∧ RS g' (rspA A m l).1 n False ∧ EqM g g')) := by
  refine pp_iload dX7_comes_25 rfl (q := 27) rfl ?_
  refine pp_aload_n dX7_comes_27 rfl isRf_r (q := 28) rfl ?_
  refine pp_iload_n dX7_comes_28 rfl (q := 29) rfl ?_
  refine pp_iconst dX7_comes_29 ci_5 (q := 30) rfl ?_
  refine ps_callVi dX7_comes_30 lk_X7_83 (by exact (by first | exact h2.1 | exact h.1)) (by rfl) (by rfl) (by rfl) (m_lt (c := 5) h hp.1 (by omega)) (by rfl) (by exact Nat.le_of_ble_eq_true rfl) (by decide) (by decide) (by exact Nat.le_of_ble_eq_true rfl) (q := 33) rfl (fun r30 g30 h30 => ?_)
  obtain ⟨rfl, rfl⟩ := And.intro h30.1.symm h30.2.symm
  rw [show bl (aB A) l (lcx 5) = nI k from hp.2.1]
  refine pp_icmp_ge (tgt := 89) dX7_comes_33 (by decide) (q := 36) rfl (fun c33 => ?_) (fun c33 => absurd (nI_le (Nat.le_refl _) (by have := hp.2.2.2.2; omega)) c33)
  refine pp_iconst dX7_comes_89 ci_m1 (q := 90) rfl ?_
  refine pp_istore dX7_comes_90 (by decide) (ls1_5 (nl1 rfl)) (q := 92) rfl ?_
  refine pp_aload_n dX7_comes_92 rfl isRf_r (q := 93) rfl ?_
  refine pp_iload_n dX7_comes_93 rfl (q := 94) rfl ?_
  refine pp_iconst dX7_comes_94 ci_0 (q := 95) rfl ?_
  refine ps_callVi dX7_comes_95 lk_X7_83 (by exact (by first | exact h2.1 | exact h.1)) (by rfl) (by rfl) (by rfl) (m_lt (c := 0) h hp.1 (by omega)) (by rfl) (by exact Nat.le_of_ble_eq_true rfl) (by decide) (by decide) (by exact Nat.le_of_ble_eq_true rfl) (q := 98) rfl (fun r95 g95 h95 => ?_)
  obtain ⟨rfl, rfl⟩ := And.intro h95.1.symm h95.2.symm
  rw [show bl (aB A) l (lcx 0) = bl (aB A) l 0 from rfl]
  refine pp_tswK (v := 4) (tgt := 188) dX7_comes_98 hk (by decide) (by decide) (by decide) rfl (by decide) ?_
  refine pp_aload_n dX7_comes_188 rfl isRf_r (q := 189) rfl ?_
  refine pp_iload_n dX7_comes_189 rfl (q := 190) rfl ?_
  refine pp_iload dX7_comes_190 rfl (q := 192) rfl ?_
  refine ps_callVv dX7_comes_192 lk_X7_93 (by exact (by first | exact h2.1 | exact h.1)) (by rfl) (by rfl) (by rfl) (m_answered h hmb hd) (by rfl) (by exact Nat.le_of_ble_eq_true rfl) (by decide) (by decide) (by exact Nat.le_of_ble_eq_true rfl) (q := 195) rfl (fun g192 h192 => ?_)
  obtain ⟨h2, hE2⟩ := h192
  refine pp_goto (tgt := 212) dX7_comes_195 (by decide) ?_
  refine pp_iload dX7_comes_212 rfl (q := 214) rfl ?_
  refine pp_if_ge (tgt := 221) dX7_comes_214 (by decide) (q := 217) rfl (fun c214 => absurd c214 (by decide)) (fun c214 => ?_)
  refine pp_iconst dX7_comes_217 ci_0 (q := 218) rfl ?_
  refine pp_goto (tgt := 222) dX7_comes_218 (by decide) ?_
  refine ri_ret dX7_comes_222 rfl rfl ?_
  unfold rspA
  rw [if_neg (fun q => absurd (hk.symm.trans q) (by decide)), if_neg (fun q => absurd (hk.symm.trans q) (by decide)), if_neg (fun q => absurd (hk.symm.trans q) (by decide)), if_pos hk]
  exact ⟨rfl, h2, hE2⟩
set_option maxRecDepth 20000 in
set_option maxHeartbeats 4000000 in
theorem s_comf {ad : Nm → Nat} {g : Sg} {A : AW} {n m l k s : Nat} (h : RS g A n False) (hmb : m < 64) (hd : mdA A m) (hp : pOk (aB A) l k s) (hK : ∀ x, x < 64 → ∃ kd, kd ≤ 4 ∧ (A.1 m).2.2 31 x = nI kd) (hlb : bL (aB A) + 1 ≤ 1200) (hpb : bP (aB A) + 64 ≤ 20000) (hk : bl (aB A) l 0 = nI 5) (z : Option Value) : PS mX7_comes 25 [some (.ref (ad (40, 0, 0))), some (.int (nI l)), some (.int (bl (aB A) l 1)), some (.int (nI m)), some (.int (bl (aB A) l 3)), some (.int (nI k)), z] [] ad g (Ri (fun v g' => v = (rspA A m l).2 ∧ RS g' (rspA A m l).1 n False ∧ EqM g g')) := by
  refine pp_iload dX7_comes_25 rfl (q := 27) rfl ?_
  refine pp_aload_n dX7_comes_27 rfl isRf_r (q := 28) rfl ?_
  refine pp_iload_n dX7_comes_28 rfl (q := 29) rfl ?_
  refine pp_iconst dX7_comes_29 ci_5 (q := 30) rfl ?_
  refine ps_callVi dX7_comes_30 lk_X7_83 (by exact (by first | exact h2.1 | exact h.1)) (by rfl) (by rfl) (by rfl) (m_lt (c := 5) h hp.1 (by omega)) (by rfl) (by exact Nat.le_of_ble_eq_true rfl) (by decide) (by decide) (by exact Nat.le_of_ble_eq_true rfl) (q := 33) rfl (fun r30 g30 h30 => ?_)
  obtain ⟨rfl, rfl⟩ := And.intro h30.1.symm h30.2.symm
  rw [show bl (aB A) l (lcx 5) = nI k from hp.2.1]
  refine pp_icmp_ge (tgt := 89) dX7_comes_33 (by decide) (q := 36) rfl (fun c33 => ?_) (fun c33 => absurd (nI_le (Nat.le_refl _) (by have := hp.2.2.2.2; omega)) c33)
  refine pp_iconst dX7_comes_89 ci_m1 (q := 90) rfl ?_
  refine pp_istore dX7_comes_90 (by decide) (ls1_5 (nl1 rfl)) (q := 92) rfl ?_
  refine pp_aload_n dX7_comes_92 rfl isRf_r (q := 93) rfl ?_
  refine pp_iload_n dX7_comes_93 rfl (q := 94) rfl ?_
  refine pp_iconst dX7_comes_94 ci_0 (q := 95) rfl ?_
  refine ps_callVi dX7_comes_95 lk_X7_83 (by exact (by first | exact h2.1 | exact h.1)) (by rfl) (by rfl) (by rfl) (m_lt (c := 0) h hp.1 (by omega)) (by rfl) (by exact Nat.le_of_ble_eq_true rfl) (by decide) (by decide) (by exact Nat.le_of_ble_eq_true rfl) (q := 98) rfl (fun r95 g95 h95 => ?_)
  obtain ⟨rfl, rfl⟩ := And.intro h95.1.symm h95.2.symm
  rw [show bl (aB A) l (lcx 0) = bl (aB A) l 0 from rfl]
  refine pp_tswK (v := 5) (tgt := 198) dX7_comes_98 hk (by decide) (by decide) (by decide) rfl (by decide) ?_
  refine pp_aload_n dX7_comes_198 rfl isRf_r (q := 199) rfl ?_
  refine pp_iload_n dX7_comes_199 rfl (q := 200) rfl ?_
  refine pp_iload_n dX7_comes_200 rfl (q := 201) rfl ?_
  refine pp_bipush dX7_comes_201 cb_6 (q := 203) rfl ?_
  refine pp_iconst dX7_comes_203 ci_m1 (q := 204) rfl ?_
  refine ps_callVi dX7_comes_204 lk_X7_89 (by exact (by first | exact h2.1 | exact h.1)) (by rfl) (by rfl) (by rfl) (m_send h hmb hd hK hlb hpb) (by rfl) (by exact Nat.le_of_ble_eq_true rfl) (by decide) (by decide) (by exact Nat.le_of_ble_eq_true rfl) (q := 207) rfl (fun r204 g204 h204 => ?_)
  obtain ⟨rfl, h2, hE2⟩ := h204
  refine pp_istore dX7_comes_207 (by decide) (ls1_5 (nl1 rfl)) (q := 209) rfl ?_
  refine pp_goto (tgt := 212) dX7_comes_209 (by decide) ?_
  refine pp_iload dX7_comes_212 rfl (q := 214) rfl ?_
  refine pp_if_ge (tgt := 221) dX7_comes_214 (by decide) (q := 217) rfl (fun c214 => ?_) (fun c214 => absurd (nI_pos' (by omega)) c214)
  refine pp_iconst dX7_comes_221 ci_1 (q := 222) rfl ?_
  refine ri_ret dX7_comes_222 rfl rfl ?_
  unfold rspA
  rw [if_neg (fun q => absurd (hk.symm.trans q) (by decide)), if_neg (fun q => absurd (hk.symm.trans q) (by decide)), if_neg (fun q => absurd (hk.symm.trans q) (by decide)), if_neg (fun q => absurd (hk.symm.trans q) (by decide)), if_pos hk]
  exact ⟨rfl, h2, sdM hE2⟩
set_option maxRecDepth 20000 in
set_option maxHeartbeats 4000000 in
theorem s_comg {ad : Nm → Nat} {g : Sg} {A : AW} {n m l k s : Nat} (h : RS g A n False) (hp : pOk (aB A) l k s) (ho : (bl (aB A) l 0).toInt < (1 : Int) ∨ (5 : Int) < (bl (aB A) l 0).toInt) (z : Option Value) : PS mX7_comes 25 [some (.ref (ad (40, 0, 0))), some (.int (nI l)), some (.int (bl (aB A) l 1)), some (.int (nI m)), some (.int (bl (aB A) l 3)), some (.int (nI k)), z] [] ad g (Ri (fun v g' => v = (rspA A m l).2 ∧ RS g' (rspA A m l).1 n False ∧ EqM g g')) := by
  refine pp_iload dX7_comes_25 rfl (q := 27) rfl ?_
  refine pp_aload_n dX7_comes_27 rfl isRf_r (q := 28) rfl ?_
  refine pp_iload_n dX7_comes_28 rfl (q := 29) rfl ?_
  refine pp_iconst dX7_comes_29 ci_5 (q := 30) rfl ?_
  refine ps_callVi dX7_comes_30 lk_X7_83 (by exact h.1) (by rfl) (by rfl) (by rfl) (m_lt (c := 5) h hp.1 (by omega)) (by rfl) (by exact Nat.le_of_ble_eq_true rfl) (by decide) (by decide) (by exact Nat.le_of_ble_eq_true rfl) (q := 33) rfl (fun r30 g30 h30 => ?_)
  obtain ⟨rfl, rfl⟩ := And.intro h30.1.symm h30.2.symm
  rw [show bl (aB A) l (lcx 5) = nI k from hp.2.1]
  refine pp_icmp_ge (tgt := 89) dX7_comes_33 (by decide) (q := 36) rfl (fun c33 => ?_) (fun c33 => absurd (nI_le (Nat.le_refl _) (by have := hp.2.2.2.2; omega)) c33)
  refine pp_iconst dX7_comes_89 ci_m1 (q := 90) rfl ?_
  refine pp_istore dX7_comes_90 (by decide) (ls1_5 (nl1 rfl)) (q := 92) rfl ?_
  refine pp_aload_n dX7_comes_92 rfl isRf_r (q := 93) rfl ?_
  refine pp_iload_n dX7_comes_93 rfl (q := 94) rfl ?_
  refine pp_iconst dX7_comes_94 ci_0 (q := 95) rfl ?_
  refine ps_callVi dX7_comes_95 lk_X7_83 (by exact h.1) (by rfl) (by rfl) (by rfl) (m_lt (c := 0) h hp.1 (by omega)) (by rfl) (by exact Nat.le_of_ble_eq_true rfl) (by decide) (by decide) (by exact Nat.le_of_ble_eq_true rfl) (q := 98) rfl (fun r95 g95 h95 => ?_)
  obtain ⟨rfl, rfl⟩ := And.intro h95.1.symm h95.2.symm
  rw [show bl (aB A) l (lcx 0) = bl (aB A) l 0 from rfl]
  refine pp_tswOut (tgt := 212) dX7_comes_98 ho (by decide) ?_
  refine pp_iload dX7_comes_212 rfl (q := 214) rfl ?_
  refine pp_if_ge (tgt := 221) dX7_comes_214 (by decide) (q := 217) rfl (fun c214 => absurd c214 (by decide)) (fun c214 => ?_)
  refine pp_iconst dX7_comes_217 ci_0 (q := 218) rfl ?_
  refine pp_goto (tgt := 222) dX7_comes_218 (by decide) ?_
  refine ri_ret dX7_comes_222 rfl rfl ?_
  have q : ∀ v : Nat, 1 ≤ v → v ≤ 5 → ¬ bl (aB A) l 0 = nI v := fun v h1 h2 e => by
    rw [e, nI_toInt (by omega)] at ho
    omega
  have e : rspA A m l = (A, nI 0) := by unfold rspA; rw [if_neg (q 1 (by omega) (by omega)), if_neg (q 2 (by omega) (by omega)), if_neg (q 3 (by omega) (by omega)), if_neg (q 4 (by omega) (by omega)), if_neg (q 5 (by omega) (by omega))]
  rw [e]
  exact ⟨rfl, h, EqM.rf⟩
theorem e_com {ad : Nm → Nat} {g : Sg} {A : AW} {n m l k s : Nat} (h : RS g A n False) (hmb : m < 64) (hd : mdA A m) (hp : pOk (aB A) l k s) (hK : ∀ x, x < 64 → ∃ kd, kd ≤ 4 ∧ (A.1 m).2.2 31 x = nI kd) (hlb : bL (aB A) + 1 ≤ 1200) (hpb : bP (aB A) + 64 ≤ 20000) (ha : isN (bl (aB A) l 3)) (z : Option Value) : PS mX7_comes 25 [some (.ref (ad (40, 0, 0))), some (.int (nI l)), some (.int (bl (aB A) l 1)), some (.int (nI m)), some (.int (bl (aB A) l 3)), some (.int (nI k)), z] [] ad g (Ri (fun v g' => v = (rspA A m l).2 ∧ RS g' (rspA A m l).1 n False ∧ EqM g g')) := by
  rcases sw_cases (bl (aB A) l 0) 1 5 (by decide) with ⟨v, h1, h2, hk⟩ | ho
  · obtain rfl | rfl | rfl | rfl | rfl : v = 1 ∨ v = 2 ∨ v = 3 ∨ v = 4 ∨ v = 5 := by omega
    · exact s_coma h hmb hd hp hK hlb hpb hk z
    · exact s_comb h hmb hd hp hK hlb hpb hk z
    · rcases ha with ha | ⟨t, ht, ha⟩
      · exact s_comc h hmb hd hp hK hlb hpb hk ha z
      · exact s_comd h hmb hd hp hK hlb hpb hk ha ht z
    · exact s_come h hmb hd hp hK hlb hpb hk z
    · exact s_comf h hmb hd hp hK hlb hpb hk z
  · exact s_comg h hp ho z
theorem l_com {ad : Nm → Nat} {g0 : Sg} {B : Bk} {N n m l k s : Nat} (hmb : m < 64) (hp : pOk B l k s) (hP : ∀ i, i < k → okP N B l (s + i)) (ha : isN (bl B l 3)) (hlb : bL B + 1 ≤ 1200) (hpb : bP B + 64 ≤ 20000) : ∀ (j i : Nat) (g : Sg) (A : AW), k - i < j → i ≤ k → RS g A n False → INV N (N + 1) A → mdA A m → aB A = B → EqM g0 g → ∀ z, PS mX7_comes 25 [some (.ref (ad (40, 0, 0))), some (.int (nI l)), some (.int (bl (aB A) l 1)), some (.int (nI m)), some (.int (bl (aB A) l 3)), some (.int (nI i)), z] [] ad g (Ri (fun v g' => v = (rspA (tkR m (nI l) s i (k - i) A) m l).2 ∧ RS g' (rspA (tkR m (nI l) s i (k - i) A) m l).1 n False ∧ EqM g0 g')) := by
  intro j
  induction j with
  | zero => intro i g A h; omega
  | succ j ih =>
    intro i g A hij hik h hI hd hB hE z
    by_cases e : i = k
    · subst e
      rw [Nat.sub_self]
      refine (e_com h hmb hd (by rw [hB]; exact hp) (fun x hx => ((hI.m hmb hd).2.2.2.2.2 x hx).1) (by rw [hB]; exact hlb) (by rw [hB]; exact hpb) (by rw [hB]; exact ha) z).weak (fun v G hG => ?_)
      obtain ⟨g', k1, r, k2, k3, k4, k5⟩ := hG
      exact ⟨g', k1, r, k2, k3, k4, hE.tr k5⟩
    · have hi : i < k := by omega
      obtain ⟨x, kd, q1, q2, q3, q4, q5, -⟩ := hP i hi
      have hb := tkF_bk (m := m) (l := nI l) (s := s) (A := A) (i := i)
      have ek : k - i = (k - (i + 1)) + 1 := by omega
      rw [ek, tkR]
      refine s_com1 (k := k) (s := s) (x := x) (kd := kd) h hmb hd (by rw [hB]; exact hp) hi (by rw [hB]; exact q2) q1 (by rw [hB]; exact q5) ⟨q3, q4⟩ (fun g' h' hE' z => ?_) z
      have hI' : INV N (N + 1) (tkF m (nI l) s A i) := tkF_INV hI hmb hd (by rw [hB]; exact hp.1) (by rw [hB]; exact hP i hi) (fun x hx => by rw [hB] at hx ⊢; exact ⟨k, s, i, hp, hi, hx⟩)
      have := ih (i + 1) g' (tkF m (nI l) s A i) (by omega) (by omega) h' hI' (by unfold mdA; rw [hb.2.1]; exact hd) (hb.1.trans hB) (hE.tr hE') z
      rw [hb.1] at this
      exact this
set_option maxRecDepth 20000 in
set_option maxHeartbeats 4000000 in
theorem m_comes {ad : Nm → Nat} {g : Sg} {A : AW} {N n m l k s : Nat} (h : RS g A n False) (hI : INV N (N + 1) A) (hmb : m < 64) (hd : mdA A m) (hp : pOk (aB A) l k s) (hP : ∀ i, i < k → okP N (aB A) l (s + i)) (ha : isN (bl (aB A) l 3)) (hto : bl (aB A) l 2 = nI m) (hlb : bL (aB A) + 1 ≤ 1200) (hpb : bP (aB A) + 64 ≤ 20000) : PS mX7_comes 0 (ent mX7_comes [.ref (ad (40, 0, 0)), .int (nI l)]) [] ad g (Ri (fun v g' => v = (rspA (tkR m (nI l) s 0 k A) m l).2 ∧ RS g' (rspA (tkR m (nI l) s 0 k A) m l).1 n False ∧ EqM g g')) := by
  show PP mX7_comes 0 [some (.ref (ad (40, 0, 0))), some (.int (nI l)), none, none, none, none, none] [] (Rel ad g) _
  refine pp_aload_n dX7_comes_0 rfl isRf_r (q := 1) rfl ?_
  refine pp_iload_n dX7_comes_1 rfl (q := 2) rfl ?_
  refine pp_iconst dX7_comes_2 ci_1 (q := 3) rfl ?_
  refine ps_callVi dX7_comes_3 lk_X7_83 (by exact h.1) (by rfl) (by rfl) (by rfl) (m_lt (c := 1) h hp.1 (by omega)) (by rfl) (by exact Nat.le_of_ble_eq_true rfl) (by decide) (by decide) (by exact Nat.le_of_ble_eq_true rfl) (q := 6) rfl (fun r3 g3 h3 => ?_)
  obtain ⟨rfl, rfl⟩ := And.intro h3.1.symm h3.2.symm
  rw [show bl (aB A) l (lcx 1) = bl (aB A) l 1 from rfl]
  refine pp_istore_n dX7_comes_6 (by decide) (ls1_2 (nl1 rfl)) (q := 7) rfl ?_
  refine pp_aload_n dX7_comes_7 rfl isRf_r (q := 8) rfl ?_
  refine pp_iload_n dX7_comes_8 rfl (q := 9) rfl ?_
  refine pp_iconst dX7_comes_9 ci_2 (q := 10) rfl ?_
  refine ps_callVi dX7_comes_10 lk_X7_83 (by exact h.1) (by rfl) (by rfl) (by rfl) (m_lt (c := 2) h hp.1 (by omega)) (by rfl) (by exact Nat.le_of_ble_eq_true rfl) (by decide) (by decide) (by exact Nat.le_of_ble_eq_true rfl) (q := 13) rfl (fun r10 g10 h10 => ?_)
  obtain ⟨rfl, rfl⟩ := And.intro h10.1.symm h10.2.symm
  rw [show bl (aB A) l (lcx 2) = bl (aB A) l 2 from rfl, hto]
  refine pp_istore_n dX7_comes_13 (by decide) (ls1_3 (nl1 rfl)) (q := 14) rfl ?_
  refine pp_aload_n dX7_comes_14 rfl isRf_r (q := 15) rfl ?_
  refine pp_iload_n dX7_comes_15 rfl (q := 16) rfl ?_
  refine pp_iconst dX7_comes_16 ci_3 (q := 17) rfl ?_
  refine ps_callVi dX7_comes_17 lk_X7_83 (by exact h.1) (by rfl) (by rfl) (by rfl) (m_lt (c := 3) h hp.1 (by omega)) (by rfl) (by exact Nat.le_of_ble_eq_true rfl) (by decide) (by decide) (by exact Nat.le_of_ble_eq_true rfl) (q := 20) rfl (fun r17 g17 h17 => ?_)
  obtain ⟨rfl, rfl⟩ := And.intro h17.1.symm h17.2.symm
  rw [show bl (aB A) l (lcx 3) = bl (aB A) l 3 from rfl]
  refine pp_istore dX7_comes_20 (by decide) (ls1_4 (nl1 rfl)) (q := 22) rfl ?_
  refine pp_iconst dX7_comes_22 ci_0 (q := 23) rfl ?_
  refine pp_istore dX7_comes_23 (by decide) (ls1_5 (nl1 rfl)) (q := 25) rfl ?_
  exact l_com (g0 := g) hmb hp hP ha hlb hpb (k + 1) 0 g A (by omega) (by omega) h hI hd rfl EqM.rf _
