set_option maxRecDepth 20000 in
set_option maxHeartbeats 4000000 in
theorem s_tta {ad : Nm → Nat} {g : Sg} {A : AW} {n m : Nat} {i : Nat} {a4 a5 a6 : Option Value} {Q : Option Value → PH → Prop} (h : RS g A n False) (hmb : m < 64) (hd : mdA A m) (hi : i < 64) (hk2 : ¬ (A.1 m).2.2 31 i = nI 2) (hk : ∀ g', RS g' A n False → EqM g g' → ∀ a3, PP mX7_takesTurn 16 [some (.ref (ad (40, 0, 0))), some (.int (nI m)), some (.int (nI (i + 1))), a3, a4, a5, a6] [] (Rel ad g') Q) (a3 : Option Value) : PP mX7_takesTurn 16 [some (.ref (ad (40, 0, 0))), some (.int (nI m)), some (.int (nI i)), a3, a4, a5, a6] [] (Rel ad g) Q := by
  refine pp_iload_n dX7_takesTurn_16 rfl (q := 17) rfl ?_
  refine pp_bipush dX7_takesTurn_17 cb_64 (q := 19) rfl ?_
  refine pp_icmp_ge (tgt := 97) dX7_takesTurn_19 (by decide) (q := 22) rfl (fun c19 => absurd c19 (nI_ge hi (by decide))) (fun c19 => ?_)
  refine pp_iload_n dX7_takesTurn_22 rfl (q := 23) rfl ?_
  refine pp_iload_n dX7_takesTurn_23 rfl (q := 24) rfl ?_
  refine ps_callSi dX7_takesTurn_24 lk_X7_44 (by rfl) m_newsAt (by rfl) (by exact Nat.le_of_ble_eq_true rfl) (by decide) (by decide) (by exact Nat.le_of_ble_eq_true rfl) (q := 27) rfl (fun r24 g24 h24 => ?_)
  obtain ⟨rfl, rfl⟩ := And.intro h24.1.symm h24.2.symm
  refine pp_istore_n dX7_takesTurn_27 (by decide) (ls1_3 (nl1 rfl)) (q := 28) rfl ?_
  refine pp_aload_n dX7_takesTurn_28 rfl isRf_r (q := 29) rfl ?_
  refine ps_get dX7_takesTurn_29 fl_X7_8 (by first | exact h3.1 | exact h2.1 | exact h1.1 | exact h.1) rfl rfl (q := 32) rfl ?_
  refine pp_iload_n dX7_takesTurn_32 rfl (q := 33) rfl ?_
  refine ps_iald (j := nw m i) dX7_takesTurn_33 (by first | exact h3.1 | exact h2.1 | exact h1.1 | exact h.1) rfl rfl (by unfold nw; omega) (by decide) (q := 34) rfl ?_
  rw [((h.2.o hmb hd).2.2.1 i hi).1]
  refine pp_iconst dX7_takesTurn_34 ci_2 (q := 35) rfl ?_
  refine pp_icmp_eq (tgt := 41) dX7_takesTurn_35 (by decide) (q := 38) rfl (fun c35 => absurd c35 hk2) (fun c35 => ?_)
  refine pp_goto (tgt := 91) dX7_takesTurn_38 (by decide) ?_
  refine pp_iinc dX7_takesTurn_91 rfl (nI_1 _) (ls1_2 (nl1 rfl)) (q := 94) rfl ?_
  refine pp_goto (tgt := 16) dX7_takesTurn_94 (by decide) ?_
  exact hk _ h EqM.rf _
set_option maxRecDepth 20000 in
set_option maxHeartbeats 4000000 in
theorem s_ttb {ad : Nm → Nat} {g : Sg} {A : AW} {n m : Nat} {i : Nat} {a4 a5 a6 : Option Value} {Q : Option Value → PH → Prop} (h : RS g A n False) (hmb : m < 64) (hd : mdA A m) (hi : i < 64) (hk2 : (A.1 m).2.2 31 i = nI 2) (ht : (A.1 m).1 5 - (A.1 m).2.2 34 i < nI 5) (hk : ∀ g', RS g' (tlA A (nI 8)) n False → EqM g g' → ∀ a3, PP mX7_takesTurn 16 [some (.ref (ad (40, 0, 0))), some (.int (nI m)), some (.int (nI (i + 1))), a3, a4, a5, a6] [] (Rel ad g') Q) (a3 : Option Value) : PP mX7_takesTurn 16 [some (.ref (ad (40, 0, 0))), some (.int (nI m)), some (.int (nI i)), a3, a4, a5, a6] [] (Rel ad g) Q := by
  refine pp_iload_n dX7_takesTurn_16 rfl (q := 17) rfl ?_
  refine pp_bipush dX7_takesTurn_17 cb_64 (q := 19) rfl ?_
  refine pp_icmp_ge (tgt := 97) dX7_takesTurn_19 (by decide) (q := 22) rfl (fun c19 => absurd c19 (nI_ge hi (by decide))) (fun c19 => ?_)
  refine pp_iload_n dX7_takesTurn_22 rfl (q := 23) rfl ?_
  refine pp_iload_n dX7_takesTurn_23 rfl (q := 24) rfl ?_
  refine ps_callSi dX7_takesTurn_24 lk_X7_44 (by rfl) m_newsAt (by rfl) (by exact Nat.le_of_ble_eq_true rfl) (by decide) (by decide) (by exact Nat.le_of_ble_eq_true rfl) (q := 27) rfl (fun r24 g24 h24 => ?_)
  obtain ⟨rfl, rfl⟩ := And.intro h24.1.symm h24.2.symm
  refine pp_istore_n dX7_takesTurn_27 (by decide) (ls1_3 (nl1 rfl)) (q := 28) rfl ?_
  refine pp_aload_n dX7_takesTurn_28 rfl isRf_r (q := 29) rfl ?_
  refine ps_get dX7_takesTurn_29 fl_X7_8 (by first | exact h3.1 | exact h2.1 | exact h1.1 | exact h.1) rfl rfl (q := 32) rfl ?_
  refine pp_iload_n dX7_takesTurn_32 rfl (q := 33) rfl ?_
  refine ps_iald (j := nw m i) dX7_takesTurn_33 (by first | exact h3.1 | exact h2.1 | exact h1.1 | exact h.1) rfl rfl (by unfold nw; omega) (by decide) (q := 34) rfl ?_
  rw [((h.2.o hmb hd).2.2.1 i hi).1]
  refine pp_iconst dX7_takesTurn_34 ci_2 (q := 35) rfl ?_
  refine pp_icmp_eq (tgt := 41) dX7_takesTurn_35 (by decide) (q := 38) rfl (fun c35 => ?_) (fun c35 => absurd hk2 c35)
  refine pp_aload_n dX7_takesTurn_41 rfl isRf_r (q := 42) rfl ?_
  refine pp_bipush dX7_takesTurn_42 cb_8 (q := 44) rfl ?_
  refine ps_callVv dX7_takesTurn_44 lk_X7_59 (by exact (by first | exact h3.1 | exact h2.1 | exact h1.1 | exact h.1)) (by rfl) (by rfl) (by rfl) (m_rn (m := 0) h (k := 8) (by omega)) (by rfl) (by exact Nat.le_of_ble_eq_true rfl) (by decide) (by decide) (by exact Nat.le_of_ble_eq_true rfl) (q := 47) rfl (fun g44 h44 => ?_)
  obtain ⟨h1, hE1⟩ := h44
  have ho1 := h1.2.o hmb hd
  have hx1 := (ho1.2.2.1 i hi).2 (fun q => absurd (hk2.symm.trans q) (by decide))
  refine pp_aload_n dX7_takesTurn_47 rfl isRf_r (q := 48) rfl ?_
  refine pp_iload_n dX7_takesTurn_48 rfl (q := 49) rfl ?_
  refine pp_iconst dX7_takesTurn_49 ci_2 (q := 50) rfl ?_
  refine ps_callVi dX7_takesTurn_50 lk_X7_48 (by exact (by first | exact h3.1 | exact h2.1 | exact h1.1 | exact h.1)) (by rfl) (by rfl) (by rfl) (m_of h1.1 hmb (by omega)) (by rfl) (by exact Nat.le_of_ble_eq_true rfl) (by decide) (by decide) (by exact Nat.le_of_ble_eq_true rfl) (q := 53) rfl (fun r50 g50 h50 => ?_)
  obtain ⟨rfl, rfl⟩ := And.intro h50.1.symm h50.2.symm
  rw [ho1.1.2.2.1]
  refine pp_aload_n dX7_takesTurn_53 rfl isRf_r (q := 54) rfl ?_
  refine ps_get dX7_takesTurn_54 fl_X7_8 (by first | exact h3.1 | exact h2.1 | exact h1.1 | exact h.1) rfl rfl (q := 57) rfl ?_
  refine pp_iload_n dX7_takesTurn_57 rfl (q := 58) rfl ?_
  refine pp_iconst dX7_takesTurn_58 ci_3 (q := 59) rfl ?_
  refine pp_iadd dX7_takesTurn_59 (q := 60) rfl ?_
  try rw [nI_add]
  refine ps_iald dX7_takesTurn_60 (by first | exact h3.1 | exact h2.1 | exact h1.1 | exact h.1) rfl rfl (by unfold nw; omega) (by decide) (q := 61) rfl ?_
  rw [hx1 3 (by omega) (by omega)]
  refine pp_isub dX7_takesTurn_61 (q := 62) rfl ?_
  refine pp_iconst dX7_takesTurn_62 ci_5 (q := 63) rfl ?_
  refine pp_icmp_ge (tgt := 69) dX7_takesTurn_63 (by decide) (q := 66) rfl (fun c63 => absurd c63 (Int32.not_le.mpr ht)) (fun c63 => ?_)
  refine pp_goto (tgt := 91) dX7_takesTurn_66 (by decide) ?_
  refine pp_iinc dX7_takesTurn_91 rfl (nI_1 _) (ls1_2 (nl1 rfl)) (q := 94) rfl ?_
  refine pp_goto (tgt := 16) dX7_takesTurn_94 (by decide) ?_
  exact hk _ h1 hE1 _
set_option maxRecDepth 20000 in
set_option maxHeartbeats 4000000 in
theorem s_ttc {ad : Nm → Nat} {g : Sg} {A : AW} {n m : Nat} {i : Nat} {a4 a5 a6 : Option Value} {Q : Option Value → PH → Prop} (h : RS g A n False) (hmb : m < 64) (hd : mdA A m) (hi : i < 64) (hk2 : (A.1 m).2.2 31 i = nI 2) (ht : ¬ (A.1 m).1 5 - (A.1 m).2.2 34 i < nI 5) (hk : ∀ g', RS g' (aSet (tlA (tlA A (nI 8)) (nI 9)) m (meEn (A.1 m) i (nI 3) ((A.1 m).2.2 32 i) (-1))) n False → EqM g g' → ∀ a3, PP mX7_takesTurn 16 [some (.ref (ad (40, 0, 0))), some (.int (nI m)), some (.int (nI (i + 1))), a3, a4, a5, a6] [] (Rel ad g') Q) (a3 : Option Value) : PP mX7_takesTurn 16 [some (.ref (ad (40, 0, 0))), some (.int (nI m)), some (.int (nI i)), a3, a4, a5, a6] [] (Rel ad g) Q := by
  refine pp_iload_n dX7_takesTurn_16 rfl (q := 17) rfl ?_
  refine pp_bipush dX7_takesTurn_17 cb_64 (q := 19) rfl ?_
  refine pp_icmp_ge (tgt := 97) dX7_takesTurn_19 (by decide) (q := 22) rfl (fun c19 => absurd c19 (nI_ge hi (by decide))) (fun c19 => ?_)
  refine pp_iload_n dX7_takesTurn_22 rfl (q := 23) rfl ?_
  refine pp_iload_n dX7_takesTurn_23 rfl (q := 24) rfl ?_
  refine ps_callSi dX7_takesTurn_24 lk_X7_44 (by rfl) m_newsAt (by rfl) (by exact Nat.le_of_ble_eq_true rfl) (by decide) (by decide) (by exact Nat.le_of_ble_eq_true rfl) (q := 27) rfl (fun r24 g24 h24 => ?_)
  obtain ⟨rfl, rfl⟩ := And.intro h24.1.symm h24.2.symm
  refine pp_istore_n dX7_takesTurn_27 (by decide) (ls1_3 (nl1 rfl)) (q := 28) rfl ?_
  refine pp_aload_n dX7_takesTurn_28 rfl isRf_r (q := 29) rfl ?_
  refine ps_get dX7_takesTurn_29 fl_X7_8 (by first | exact h3.1 | exact h2.1 | exact h1.1 | exact h.1) rfl rfl (q := 32) rfl ?_
  refine pp_iload_n dX7_takesTurn_32 rfl (q := 33) rfl ?_
  refine ps_iald (j := nw m i) dX7_takesTurn_33 (by first | exact h3.1 | exact h2.1 | exact h1.1 | exact h.1) rfl rfl (by unfold nw; omega) (by decide) (q := 34) rfl ?_
  rw [((h.2.o hmb hd).2.2.1 i hi).1]
  refine pp_iconst dX7_takesTurn_34 ci_2 (q := 35) rfl ?_
  refine pp_icmp_eq (tgt := 41) dX7_takesTurn_35 (by decide) (q := 38) rfl (fun c35 => ?_) (fun c35 => absurd hk2 c35)
  refine pp_aload_n dX7_takesTurn_41 rfl isRf_r (q := 42) rfl ?_
  refine pp_bipush dX7_takesTurn_42 cb_8 (q := 44) rfl ?_
  refine ps_callVv dX7_takesTurn_44 lk_X7_59 (by exact (by first | exact h3.1 | exact h2.1 | exact h1.1 | exact h.1)) (by rfl) (by rfl) (by rfl) (m_rn (m := 0) h (k := 8) (by omega)) (by rfl) (by exact Nat.le_of_ble_eq_true rfl) (by decide) (by decide) (by exact Nat.le_of_ble_eq_true rfl) (q := 47) rfl (fun g44 h44 => ?_)
  obtain ⟨h1, hE1⟩ := h44
  have ho1 := h1.2.o hmb hd
  have hx1 := (ho1.2.2.1 i hi).2 (fun q => absurd (hk2.symm.trans q) (by decide))
  refine pp_aload_n dX7_takesTurn_47 rfl isRf_r (q := 48) rfl ?_
  refine pp_iload_n dX7_takesTurn_48 rfl (q := 49) rfl ?_
  refine pp_iconst dX7_takesTurn_49 ci_2 (q := 50) rfl ?_
  refine ps_callVi dX7_takesTurn_50 lk_X7_48 (by exact (by first | exact h3.1 | exact h2.1 | exact h1.1 | exact h.1)) (by rfl) (by rfl) (by rfl) (m_of h1.1 hmb (by omega)) (by rfl) (by exact Nat.le_of_ble_eq_true rfl) (by decide) (by decide) (by exact Nat.le_of_ble_eq_true rfl) (q := 53) rfl (fun r50 g50 h50 => ?_)
  obtain ⟨rfl, rfl⟩ := And.intro h50.1.symm h50.2.symm
  rw [ho1.1.2.2.1]
  refine pp_aload_n dX7_takesTurn_53 rfl isRf_r (q := 54) rfl ?_
  refine ps_get dX7_takesTurn_54 fl_X7_8 (by first | exact h3.1 | exact h2.1 | exact h1.1 | exact h.1) rfl rfl (q := 57) rfl ?_
  refine pp_iload_n dX7_takesTurn_57 rfl (q := 58) rfl ?_
  refine pp_iconst dX7_takesTurn_58 ci_3 (q := 59) rfl ?_
  refine pp_iadd dX7_takesTurn_59 (q := 60) rfl ?_
  try rw [nI_add]
  refine ps_iald dX7_takesTurn_60 (by first | exact h3.1 | exact h2.1 | exact h1.1 | exact h.1) rfl rfl (by unfold nw; omega) (by decide) (q := 61) rfl ?_
  rw [hx1 3 (by omega) (by omega)]
  refine pp_isub dX7_takesTurn_61 (q := 62) rfl ?_
  refine pp_iconst dX7_takesTurn_62 ci_5 (q := 63) rfl ?_
  refine pp_icmp_ge (tgt := 69) dX7_takesTurn_63 (by decide) (q := 66) rfl (fun c63 => ?_) (fun c63 => absurd (Int32.not_lt.mp ht) c63)
  refine pp_aload_n dX7_takesTurn_69 rfl isRf_r (q := 70) rfl ?_
  refine pp_bipush dX7_takesTurn_70 cb_9 (q := 72) rfl ?_
  refine ps_callVv dX7_takesTurn_72 lk_X7_59 (by exact (by first | exact h3.1 | exact h2.1 | exact h1.1 | exact h.1)) (by rfl) (by rfl) (by rfl) (m_rn (m := 0) h1 (k := 9) (by omega)) (by rfl) (by exact Nat.le_of_ble_eq_true rfl) (by decide) (by decide) (by exact Nat.le_of_ble_eq_true rfl) (q := 75) rfl (fun g72 h72 => ?_)
  obtain ⟨h2, hE2⟩ := h72
  have hx2 := ((h2.2.o hmb hd).2.2.1 i hi).2 (fun q => absurd (hk2.symm.trans q) (by decide))
  refine pp_aload_n dX7_takesTurn_75 rfl isRf_r (q := 76) rfl ?_
  refine pp_iload_n dX7_takesTurn_76 rfl (q := 77) rfl ?_
  refine pp_iload_n dX7_takesTurn_77 rfl (q := 78) rfl ?_
  refine pp_iconst dX7_takesTurn_78 ci_3 (q := 79) rfl ?_
  refine pp_aload_n dX7_takesTurn_79 rfl isRf_r (q := 80) rfl ?_
  refine ps_get dX7_takesTurn_80 fl_X7_8 (by first | exact h3.1 | exact h2.1 | exact h1.1 | exact h.1) rfl rfl (q := 83) rfl ?_
  refine pp_iload_n dX7_takesTurn_83 rfl (q := 84) rfl ?_
  refine pp_iconst dX7_takesTurn_84 ci_1 (q := 85) rfl ?_
  refine pp_iadd dX7_takesTurn_85 (q := 86) rfl ?_
  try rw [nI_add]
  refine ps_iald dX7_takesTurn_86 (by first | exact h3.1 | exact h2.1 | exact h1.1 | exact h.1) rfl rfl (by unfold nw; omega) (by decide) (q := 87) rfl ?_
  rw [hx2 1 (by omega) (by omega)]
  refine pp_iconst dX7_takesTurn_87 ci_m1 (q := 88) rfl ?_
  refine ps_callVv dX7_takesTurn_88 lk_X7_67 (by exact (by first | exact h3.1 | exact h2.1 | exact h1.1 | exact h.1)) (by rfl) (by rfl) (by rfl) (m_wr h2 hmb hi hd) (by rfl) (by exact Nat.le_of_ble_eq_true rfl) (by decide) (by decide) (by exact Nat.le_of_ble_eq_true rfl) (q := 91) rfl (fun g88 h88 => ?_)
  obtain ⟨h3, hE3⟩ := h88
  refine pp_iinc dX7_takesTurn_91 rfl (nI_1 _) (ls1_2 (nl1 rfl)) (q := 94) rfl ?_
  refine pp_goto (tgt := 16) dX7_takesTurn_94 (by decide) ?_
  exact hk _ h3 ((hE1.tr hE2).tr hE3) _
theorem l_tt {ad : Nm → Nat} {g0 : Sg} {n m : Nat} {a4 a5 a6 : Option Value} {Q : Option Value → PH → Prop} {A9 : AW} (hmb : m < 64) (hk : ∀ g', RS g' A9 n False → EqM g0 g' → ∀ a3, PP mX7_takesTurn 16 [some (.ref (ad (40, 0, 0))), some (.int (nI m)), some (.int (nI 64)), a3, a4, a5, a6] [] (Rel ad g') Q) : ∀ (j i : Nat) (g : Sg) (A : AW), 64 - i < j → i ≤ 64 → RS g A n False → mdA A m → eoR m i (64 - i) A = A9 → EqM g0 g → ∀ a3, PP mX7_takesTurn 16 [some (.ref (ad (40, 0, 0))), some (.int (nI m)), some (.int (nI i)), a3, a4, a5, a6] [] (Rel ad g) Q := by
  intro j
  induction j with
  | zero => intro i g A h; omega
  | succ j ih =>
    intro i g A hij hik h hd e9 hE a3
    by_cases e : i = 64
    · subst e
      rw [Nat.sub_self] at e9
      have e9' : A = A9 := e9
      rw [e9'] at h
      exact hk g h hE a3
    · have hi : i < 64 := by omega
      have ek : 64 - i = (64 - (i + 1)) + 1 := by omega
      rw [ek, eoR] at e9
      have hk' := eoF_k (m := m) (A := A) (x := i)
      have hd' : mdA (eoF m A i) m := by unfold mdA; rw [hk'.2.1]; exact hd
      have go : ∀ g', RS g' (eoF m A i) n False → EqM g g' → ∀ a3, PP mX7_takesTurn 16 [some (.ref (ad (40, 0, 0))), some (.int (nI m)), some (.int (nI (i + 1))), a3, a4, a5, a6] [] (Rel ad g') Q := fun g' h' hE' a3 => ih (i + 1) g' (eoF m A i) (by omega) (by omega) h' hd' e9 (hE.tr hE') a3
      unfold eoF at go
      by_cases hk2 : (A.1 m).2.2 31 i = nI 2
      · rw [if_pos hk2] at go
        by_cases ht : (A.1 m).1 5 - (A.1 m).2.2 34 i < nI 5
        · rw [if_pos ht] at go
          exact s_ttb h hmb hd hi hk2 ht go a3
        · rw [if_neg ht] at go
          exact s_ttc h hmb hd hi hk2 ht go a3
      · rw [if_neg hk2] at go
        exact s_tta h hmb hd hi hk2 go a3
set_option maxRecDepth 20000 in
set_option maxHeartbeats 4000000 in
theorem s_tda {ad : Nm → Nat} {g : Sg} {A : AW} {n m : Nat} {a3 a4 a5 a6 : Option Value} {Q : Option Value → PH → Prop} (h : RS g A n False) (hmb : m < 64) (hd : mdA A m) (he : (A.1 m).1 7 = -1) (hk : ∀ g', RS g' (aSet A m (meDbt (A.1 m))) n False → EqM g g' → ∀ (x2 : Int32) a3, PP mX7_takesTurn 145 [some (.ref (ad (40, 0, 0))), some (.int (nI m)), some (.int x2), a3, a4, a5, a6] [] (Rel ad g') Q) : PP mX7_takesTurn 16 [some (.ref (ad (40, 0, 0))), some (.int (nI m)), some (.int (nI 64)), a3, a4, a5, a6] [] (Rel ad g) Q := by
  refine pp_iload_n dX7_takesTurn_16 rfl (q := 17) rfl ?_
  refine pp_bipush dX7_takesTurn_17 cb_64 (q := 19) rfl ?_
  refine pp_icmp_ge (tgt := 97) dX7_takesTurn_19 (by decide) (q := 22) rfl (fun c19 => ?_) (fun c19 => absurd (nI_le (Nat.le_refl 64) (by decide)) c19)
  refine pp_aload_n dX7_takesTurn_97 rfl isRf_r (q := 98) rfl ?_
  refine pp_iload_n dX7_takesTurn_98 rfl (q := 99) rfl ?_
  refine pp_iconst dX7_takesTurn_99 ci_4 (q := 100) rfl ?_
  refine ps_callVi dX7_takesTurn_100 lk_X7_48 (by exact (by first | exact h2.1 | exact h1.1 | exact h.1)) (by rfl) (by rfl) (by rfl) (m_of h.1 hmb (by omega)) (by rfl) (by exact Nat.le_of_ble_eq_true rfl) (by decide) (by decide) (by exact Nat.le_of_ble_eq_true rfl) (q := 103) rfl (fun r100 g100 h100 => ?_)
  obtain ⟨rfl, rfl⟩ := And.intro h100.1.symm h100.2.symm
  rw [show gA g (41, 0, 0) (7 * m + 4) = (A.1 m).1 7 from (h.2.o hmb hd).1.2.2.2.2.1, he]
  refine pp_istore_n dX7_takesTurn_103 (by decide) (ls1_2 (nl1 rfl)) (q := 104) rfl ?_
  refine pp_aload_n dX7_takesTurn_104 rfl isRf_r (q := 105) rfl ?_
  refine pp_iload_n dX7_takesTurn_105 rfl (q := 106) rfl ?_
  refine pp_iconst dX7_takesTurn_106 ci_4 (q := 107) rfl ?_
  refine pp_iconst dX7_takesTurn_107 ci_m1 (q := 108) rfl ?_
  refine ps_callVv dX7_takesTurn_108 lk_X7_63 (by exact (by first | exact h2.1 | exact h1.1 | exact h.1)) (by rfl) (by rfl) (by rfl) (m_to4 h hmb hd) (by rfl) (by exact Nat.le_of_ble_eq_true rfl) (by decide) (by decide) (by exact Nat.le_of_ble_eq_true rfl) (q := 111) rfl (fun g108 h108 => ?_)
  obtain ⟨h1, hE1⟩ := h108
  have hd1 : mdA (aSet A m (meSI (A.1 m) 7 (-1))) m := by unfold mdA; rw [aSet_m]; exact hd
  have ho1 := h1.2.o hmb hd1
  rw [aSet_m] at ho1
  refine pp_iload_n dX7_takesTurn_111 rfl (q := 112) rfl ?_
  refine pp_if_lt (tgt := 145) dX7_takesTurn_112 (by decide) (q := 115) rfl (fun c112 => ?_) (fun c112 => absurd (by decide) c112)
  have e : meDbt (A.1 m) = meSI (A.1 m) 7 (-1) := by unfold meDbt; rw [if_neg (fun q => q.1 (by rw [he]; decide))]
  rw [e] at hk
  exact hk _ h1 hE1 _ _
set_option maxRecDepth 20000 in
set_option maxHeartbeats 4000000 in
theorem s_tdb {ad : Nm → Nat} {g : Sg} {A : AW} {n m : Nat} {a3 a4 a5 a6 : Option Value} {Q : Option Value → PH → Prop} (h : RS g A n False) (hmb : m < 64) (hd : mdA A m) {y : Nat} (hy : y < 64) (he : (A.1 m).1 7 = nI y) (hk1 : ¬ (A.1 m).2.2 31 y = nI 1) (hk : ∀ g', RS g' (aSet A m (meDbt (A.1 m))) n False → EqM g g' → ∀ (x2 : Int32) a3, PP mX7_takesTurn 145 [some (.ref (ad (40, 0, 0))), some (.int (nI m)), some (.int x2), a3, a4, a5, a6] [] (Rel ad g') Q) : PP mX7_takesTurn 16 [some (.ref (ad (40, 0, 0))), some (.int (nI m)), some (.int (nI 64)), a3, a4, a5, a6] [] (Rel ad g) Q := by
  refine pp_iload_n dX7_takesTurn_16 rfl (q := 17) rfl ?_
  refine pp_bipush dX7_takesTurn_17 cb_64 (q := 19) rfl ?_
  refine pp_icmp_ge (tgt := 97) dX7_takesTurn_19 (by decide) (q := 22) rfl (fun c19 => ?_) (fun c19 => absurd (nI_le (Nat.le_refl 64) (by decide)) c19)
  refine pp_aload_n dX7_takesTurn_97 rfl isRf_r (q := 98) rfl ?_
  refine pp_iload_n dX7_takesTurn_98 rfl (q := 99) rfl ?_
  refine pp_iconst dX7_takesTurn_99 ci_4 (q := 100) rfl ?_
  refine ps_callVi dX7_takesTurn_100 lk_X7_48 (by exact (by first | exact h2.1 | exact h1.1 | exact h.1)) (by rfl) (by rfl) (by rfl) (m_of h.1 hmb (by omega)) (by rfl) (by exact Nat.le_of_ble_eq_true rfl) (by decide) (by decide) (by exact Nat.le_of_ble_eq_true rfl) (q := 103) rfl (fun r100 g100 h100 => ?_)
  obtain ⟨rfl, rfl⟩ := And.intro h100.1.symm h100.2.symm
  rw [show gA g (41, 0, 0) (7 * m + 4) = (A.1 m).1 7 from (h.2.o hmb hd).1.2.2.2.2.1, he]
  refine pp_istore_n dX7_takesTurn_103 (by decide) (ls1_2 (nl1 rfl)) (q := 104) rfl ?_
  refine pp_aload_n dX7_takesTurn_104 rfl isRf_r (q := 105) rfl ?_
  refine pp_iload_n dX7_takesTurn_105 rfl (q := 106) rfl ?_
  refine pp_iconst dX7_takesTurn_106 ci_4 (q := 107) rfl ?_
  refine pp_iconst dX7_takesTurn_107 ci_m1 (q := 108) rfl ?_
  refine ps_callVv dX7_takesTurn_108 lk_X7_63 (by exact (by first | exact h2.1 | exact h1.1 | exact h.1)) (by rfl) (by rfl) (by rfl) (m_to4 h hmb hd) (by rfl) (by exact Nat.le_of_ble_eq_true rfl) (by decide) (by decide) (by exact Nat.le_of_ble_eq_true rfl) (q := 111) rfl (fun g108 h108 => ?_)
  obtain ⟨h1, hE1⟩ := h108
  have hd1 : mdA (aSet A m (meSI (A.1 m) 7 (-1))) m := by unfold mdA; rw [aSet_m]; exact hd
  have ho1 := h1.2.o hmb hd1
  rw [aSet_m] at ho1
  refine pp_iload_n dX7_takesTurn_111 rfl (q := 112) rfl ?_
  refine pp_if_lt (tgt := 145) dX7_takesTurn_112 (by decide) (q := 115) rfl (fun c112 => absurd c112 (nI_pos (by omega))) (fun c112 => ?_)
  refine pp_aload_n dX7_takesTurn_115 rfl isRf_r (q := 116) rfl ?_
  refine pp_iload_n dX7_takesTurn_116 rfl (q := 117) rfl ?_
  refine pp_iload_n dX7_takesTurn_117 rfl (q := 118) rfl ?_
  refine ps_callVi dX7_takesTurn_118 lk_X7_72 (by exact (by first | exact h2.1 | exact h1.1 | exact h.1)) (by rfl) (by rfl) (by rfl) (m_kindOf h1.1 hmb hy) (by rfl) (by exact Nat.le_of_ble_eq_true rfl) (by decide) (by decide) (by exact Nat.le_of_ble_eq_true rfl) (q := 121) rfl (fun r118 g118 h118 => ?_)
  obtain ⟨rfl, rfl⟩ := And.intro h118.1.symm h118.2.symm
  rw [show gA g108 (41, 0, 0) (nw m y) = (A.1 m).2.2 31 y from (ho1.2.2.1 y hy).1]
  refine pp_iconst dX7_takesTurn_121 ci_1 (q := 122) rfl ?_
  refine pp_icmp_ne (tgt := 145) dX7_takesTurn_122 (by decide) (q := 125) rfl (fun c122 => ?_) (fun c122 => absurd c122 hk1)
  have e : meDbt (A.1 m) = meSI (A.1 m) 7 (-1) := by unfold meDbt; rw [he, nI_clamp (by omega), if_neg (fun q => hk1 q.2.2)]
  rw [e] at hk
  exact hk _ h1 hE1 _ _
set_option maxRecDepth 20000 in
set_option maxHeartbeats 4000000 in
theorem s_tdc {ad : Nm → Nat} {g : Sg} {A : AW} {n m : Nat} {a3 a4 a5 a6 : Option Value} {Q : Option Value → PH → Prop} (h : RS g A n False) (hmb : m < 64) (hd : mdA A m) {y : Nat} (hy : y < 64) (he : (A.1 m).1 7 = nI y) (hk1 : (A.1 m).2.2 31 y = nI 1) (hk : ∀ g', RS g' (aSet A m (meDbt (A.1 m))) n False → EqM g g' → ∀ (x2 : Int32) a3, PP mX7_takesTurn 145 [some (.ref (ad (40, 0, 0))), some (.int (nI m)), some (.int x2), a3, a4, a5, a6] [] (Rel ad g') Q) : PP mX7_takesTurn 16 [some (.ref (ad (40, 0, 0))), some (.int (nI m)), some (.int (nI 64)), a3, a4, a5, a6] [] (Rel ad g) Q := by
  refine pp_iload_n dX7_takesTurn_16 rfl (q := 17) rfl ?_
  refine pp_bipush dX7_takesTurn_17 cb_64 (q := 19) rfl ?_
  refine pp_icmp_ge (tgt := 97) dX7_takesTurn_19 (by decide) (q := 22) rfl (fun c19 => ?_) (fun c19 => absurd (nI_le (Nat.le_refl 64) (by decide)) c19)
  refine pp_aload_n dX7_takesTurn_97 rfl isRf_r (q := 98) rfl ?_
  refine pp_iload_n dX7_takesTurn_98 rfl (q := 99) rfl ?_
  refine pp_iconst dX7_takesTurn_99 ci_4 (q := 100) rfl ?_
  refine ps_callVi dX7_takesTurn_100 lk_X7_48 (by exact (by first | exact h2.1 | exact h1.1 | exact h.1)) (by rfl) (by rfl) (by rfl) (m_of h.1 hmb (by omega)) (by rfl) (by exact Nat.le_of_ble_eq_true rfl) (by decide) (by decide) (by exact Nat.le_of_ble_eq_true rfl) (q := 103) rfl (fun r100 g100 h100 => ?_)
  obtain ⟨rfl, rfl⟩ := And.intro h100.1.symm h100.2.symm
  rw [show gA g (41, 0, 0) (7 * m + 4) = (A.1 m).1 7 from (h.2.o hmb hd).1.2.2.2.2.1, he]
  refine pp_istore_n dX7_takesTurn_103 (by decide) (ls1_2 (nl1 rfl)) (q := 104) rfl ?_
  refine pp_aload_n dX7_takesTurn_104 rfl isRf_r (q := 105) rfl ?_
  refine pp_iload_n dX7_takesTurn_105 rfl (q := 106) rfl ?_
  refine pp_iconst dX7_takesTurn_106 ci_4 (q := 107) rfl ?_
  refine pp_iconst dX7_takesTurn_107 ci_m1 (q := 108) rfl ?_
  refine ps_callVv dX7_takesTurn_108 lk_X7_63 (by exact (by first | exact h2.1 | exact h1.1 | exact h.1)) (by rfl) (by rfl) (by rfl) (m_to4 h hmb hd) (by rfl) (by exact Nat.le_of_ble_eq_true rfl) (by decide) (by decide) (by exact Nat.le_of_ble_eq_true rfl) (q := 111) rfl (fun g108 h108 => ?_)
  obtain ⟨h1, hE1⟩ := h108
  have hd1 : mdA (aSet A m (meSI (A.1 m) 7 (-1))) m := by unfold mdA; rw [aSet_m]; exact hd
  have ho1 := h1.2.o hmb hd1
  rw [aSet_m] at ho1
  refine pp_iload_n dX7_takesTurn_111 rfl (q := 112) rfl ?_
  refine pp_if_lt (tgt := 145) dX7_takesTurn_112 (by decide) (q := 115) rfl (fun c112 => absurd c112 (nI_pos (by omega))) (fun c112 => ?_)
  refine pp_aload_n dX7_takesTurn_115 rfl isRf_r (q := 116) rfl ?_
  refine pp_iload_n dX7_takesTurn_116 rfl (q := 117) rfl ?_
  refine pp_iload_n dX7_takesTurn_117 rfl (q := 118) rfl ?_
  refine ps_callVi dX7_takesTurn_118 lk_X7_72 (by exact (by first | exact h2.1 | exact h1.1 | exact h.1)) (by rfl) (by rfl) (by rfl) (m_kindOf h1.1 hmb hy) (by rfl) (by exact Nat.le_of_ble_eq_true rfl) (by decide) (by decide) (by exact Nat.le_of_ble_eq_true rfl) (q := 121) rfl (fun r118 g118 h118 => ?_)
  obtain ⟨rfl, rfl⟩ := And.intro h118.1.symm h118.2.symm
  rw [show gA g108 (41, 0, 0) (nw m y) = (A.1 m).2.2 31 y from (ho1.2.2.1 y hy).1]
  refine pp_iconst dX7_takesTurn_121 ci_1 (q := 122) rfl ?_
  refine pp_icmp_ne (tgt := 145) dX7_takesTurn_122 (by decide) (q := 125) rfl (fun c122 => absurd hk1 c122) (fun c122 => ?_)
  refine pp_aload_n dX7_takesTurn_125 rfl isRf_r (q := 126) rfl ?_
  refine pp_iload_n dX7_takesTurn_126 rfl (q := 127) rfl ?_
  refine pp_iload_n dX7_takesTurn_127 rfl (q := 128) rfl ?_
  refine pp_iconst dX7_takesTurn_128 ci_2 (q := 129) rfl ?_
  refine pp_aload_n dX7_takesTurn_129 rfl isRf_r (q := 130) rfl ?_
  refine ps_get dX7_takesTurn_130 fl_X7_8 (by first | exact h2.1 | exact h1.1 | exact h.1) rfl rfl (q := 133) rfl ?_
  refine pp_iload_n dX7_takesTurn_133 rfl (q := 134) rfl ?_
  refine pp_iload_n dX7_takesTurn_134 rfl (q := 135) rfl ?_
  refine ps_callSi dX7_takesTurn_135 lk_X7_44 (by rfl) m_newsAt (by rfl) (by exact Nat.le_of_ble_eq_true rfl) (by decide) (by decide) (by exact Nat.le_of_ble_eq_true rfl) (q := 138) rfl (fun r135 g135 h135 => ?_)
  obtain ⟨rfl, rfl⟩ := And.intro h135.1.symm h135.2.symm
  refine pp_iconst dX7_takesTurn_138 ci_1 (q := 139) rfl ?_
  refine pp_iadd dX7_takesTurn_139 (q := 140) rfl ?_
  try rw [nI_add]
  refine ps_iald dX7_takesTurn_140 (by first | exact h2.1 | exact h1.1 | exact h.1) rfl rfl (by unfold nw; omega) (by decide) (q := 141) rfl ?_
  rw [(ho1.2.2.1 y hy).2 (fun q => absurd ((show (A.1 m).2.2 31 y = nI 1 from hk1).symm.trans q) (by decide)) 1 (by omega) (by omega)]
  refine pp_iconst dX7_takesTurn_141 ci_m1 (q := 142) rfl ?_
  refine ps_callVv dX7_takesTurn_142 lk_X7_67 (by exact (by first | exact h2.1 | exact h1.1 | exact h.1)) (by rfl) (by rfl) (by rfl) (m_wr h1 hmb hy hd1) (by rfl) (by exact Nat.le_of_ble_eq_true rfl) (by decide) (by decide) (by exact Nat.le_of_ble_eq_true rfl) (q := 145) rfl (fun g142 h142 => ?_)
  obtain ⟨h2, hE2⟩ := h142
  rw [aSet_aSet, aSet_m] at h2
  have e : meDbt (A.1 m) = meEn (meSI (A.1 m) 7 (-1)) y (nI 2) ((A.1 m).2.2 32 y) (-1) := by unfold meDbt; rw [he, nI_clamp (by omega), if_pos ⟨nI_pos (by omega), nI_lt hy (by decide), hk1⟩]
  rw [e] at hk
  exact hk _ h2 (hE1.tr hE2) _ _
theorem upd_self {f : Nat → Int32} {k : Nat} {v : Int32} (h : f k = v) : upd f k v = f := by
  funext j
  unfold upd
  split
  · rename_i e; rw [e, h]
  · rfl
theorem upd_comm {f : Nat → Int32} {i j : Nat} {u v : Int32} (h : i ≠ j) : upd (upd f i u) j v = upd (upd f j v) i u := by
  funext k
  unfold upd
  by_cases e : k = j
  · rw [if_pos e, if_neg (by omega), if_pos e]
  · rw [if_neg e]
    by_cases e2 : k = i
    · rw [if_pos e2, if_pos e2]
    · rw [if_neg e2, if_neg e2, if_neg e]
set_option maxRecDepth 20000 in
set_option maxHeartbeats 4000000 in
theorem s_te0 {ad : Nm → Nat} {g : Sg} {A : AW} {n m : Nat} {x2 : Int32} {a3 a4 a5 a6 : Option Value} {Q : Option Value → PH → Prop} (h : RS g A n False) (hmb : m < 64) (hd : mdA A m) (he : (A.1 m).1 6 = -1) (hk : ∀ g', RS g' A n False → EqM g g' → ∀ a2 (x4 : Int32), PP mX7_takesTurn 186 [some (.ref (ad (40, 0, 0))), some (.int (nI m)), a2, some (.int (nI 0)), some (.int x4), a5, a6] [] (Rel ad g') Q) : PP mX7_takesTurn 145 [some (.ref (ad (40, 0, 0))), some (.int (nI m)), some (.int x2), a3, a4, a5, a6] [] (Rel ad g) Q := by
  refine pp_iconst dX7_takesTurn_145 ci_0 (q := 146) rfl ?_
  refine pp_istore_n dX7_takesTurn_146 (by decide) (ls1_3 (nl1 rfl)) (q := 147) rfl ?_
  refine pp_aload_n dX7_takesTurn_147 rfl isRf_r (q := 148) rfl ?_
  refine pp_iload_n dX7_takesTurn_148 rfl (q := 149) rfl ?_
  refine pp_iconst dX7_takesTurn_149 ci_3 (q := 150) rfl ?_
  refine ps_callVi dX7_takesTurn_150 lk_X7_48 (by exact (by first | exact h1.1 | exact h.1)) (by rfl) (by rfl) (by rfl) (m_of h.1 hmb (by omega)) (by rfl) (by exact Nat.le_of_ble_eq_true rfl) (by decide) (by decide) (by exact Nat.le_of_ble_eq_true rfl) (q := 153) rfl (fun r150 g150 h150 => ?_)
  obtain ⟨rfl, rfl⟩ := And.intro h150.1.symm h150.2.symm
  rw [show gA g (41, 0, 0) (7 * m + 3) = (A.1 m).1 6 from (h.2.o hmb hd).1.2.2.2.1, he]
  refine pp_istore dX7_takesTurn_153 (by decide) (ls1_4 (nl1 rfl)) (q := 155) rfl ?_
  refine pp_aload_n dX7_takesTurn_155 rfl isRf_r (q := 156) rfl ?_
  refine pp_iload_n dX7_takesTurn_156 rfl (q := 157) rfl ?_
  refine pp_iconst dX7_takesTurn_157 ci_3 (q := 158) rfl ?_
  refine pp_iconst dX7_takesTurn_158 ci_m1 (q := 159) rfl ?_
  refine ps_callVv dX7_takesTurn_159 lk_X7_63 (by exact (by first | exact h1.1 | exact h.1)) (by rfl) (by rfl) (by rfl) (m_to3 h hmb hd) (by rfl) (by exact Nat.le_of_ble_eq_true rfl) (by decide) (by decide) (by exact Nat.le_of_ble_eq_true rfl) (q := 162) rfl (fun g159 h159 => ?_)
  obtain ⟨h1, hE1⟩ := h159
  rw [show meSI (A.1 m) 6 (-1) = A.1 m from by unfold meSI; rw [upd_self he], aSet_self] at h1
  refine pp_iload dX7_takesTurn_162 rfl (q := 164) rfl ?_
  refine pp_if_lt (tgt := 186) dX7_takesTurn_164 (by decide) (q := 167) rfl (fun c164 => ?_) (fun c164 => absurd (by decide) c164)
  exact hk _ h1 hE1 _ _
set_option maxRecDepth 20000 in
set_option maxHeartbeats 4000000 in
theorem s_te1 {ad : Nm → Nat} {g : Sg} {A : AW} {n m : Nat} {N z : Nat} {x2 : Int32} {a3 a4 a5 a6 : Option Value} {Q : Option Value → PH → Prop} (h : RS g A n False) (hmb : m < 64) (hd : mdA A m) (hz : z < 64) (he : (A.1 m).1 6 = nI z) (hI : INV N N (ttD A m)) (hd2 : mdA (ttD A m) m) (hlb : bL (aB A) + 3 ≤ 1200) (hpb : bP (aB A) + 192 ≤ 20000) (hk : ∀ g', RS g' (sdA (ttD A m) m (nI 2) (nI z)).1 n False → EqM g g' → ∀ a2 (x4 : Int32), PP mX7_takesTurn 186 [some (.ref (ad (40, 0, 0))), some (.int (nI m)), a2, some (.int (nI (sdA (ttD A m) m (nI 2) (nI z)).2)), some (.int x4), a5, a6] [] (Rel ad g') Q) : PP mX7_takesTurn 145 [some (.ref (ad (40, 0, 0))), some (.int (nI m)), some (.int x2), a3, a4, a5, a6] [] (Rel ad g) Q := by
  refine pp_iconst dX7_takesTurn_145 ci_0 (q := 146) rfl ?_
  refine pp_istore_n dX7_takesTurn_146 (by decide) (ls1_3 (nl1 rfl)) (q := 147) rfl ?_
  refine pp_aload_n dX7_takesTurn_147 rfl isRf_r (q := 148) rfl ?_
  refine pp_iload_n dX7_takesTurn_148 rfl (q := 149) rfl ?_
  refine pp_iconst dX7_takesTurn_149 ci_3 (q := 150) rfl ?_
  refine ps_callVi dX7_takesTurn_150 lk_X7_48 (by exact (by first | exact h3.1 | exact h2.1 | exact h1.1 | exact h.1)) (by rfl) (by rfl) (by rfl) (m_of h.1 hmb (by omega)) (by rfl) (by exact Nat.le_of_ble_eq_true rfl) (by decide) (by decide) (by exact Nat.le_of_ble_eq_true rfl) (q := 153) rfl (fun r150 g150 h150 => ?_)
  obtain ⟨rfl, rfl⟩ := And.intro h150.1.symm h150.2.symm
  rw [show gA g (41, 0, 0) (7 * m + 3) = (A.1 m).1 6 from (h.2.o hmb hd).1.2.2.2.1, he]
  refine pp_istore dX7_takesTurn_153 (by decide) (ls1_4 (nl1 rfl)) (q := 155) rfl ?_
  refine pp_aload_n dX7_takesTurn_155 rfl isRf_r (q := 156) rfl ?_
  refine pp_iload_n dX7_takesTurn_156 rfl (q := 157) rfl ?_
  refine pp_iconst dX7_takesTurn_157 ci_3 (q := 158) rfl ?_
  refine pp_iconst dX7_takesTurn_158 ci_m1 (q := 159) rfl ?_
  refine ps_callVv dX7_takesTurn_159 lk_X7_63 (by exact (by first | exact h3.1 | exact h2.1 | exact h1.1 | exact h.1)) (by rfl) (by rfl) (by rfl) (m_to3 h hmb hd) (by rfl) (by exact Nat.le_of_ble_eq_true rfl) (by decide) (by decide) (by exact Nat.le_of_ble_eq_true rfl) (q := 162) rfl (fun g159 h159 => ?_)
  obtain ⟨h1, hE1⟩ := h159
  have hd1 : mdA (aSet A m (meSI (A.1 m) 6 (-1))) m := by unfold mdA; rw [aSet_m]; exact hd
  refine pp_iload dX7_takesTurn_162 rfl (q := 164) rfl ?_
  refine pp_if_lt (tgt := 186) dX7_takesTurn_164 (by decide) (q := 167) rfl (fun c164 => absurd c164 (nI_pos (by omega))) (fun c164 => ?_)
  refine pp_aload_n dX7_takesTurn_167 rfl isRf_r (q := 168) rfl ?_
  refine pp_iload_n dX7_takesTurn_168 rfl (q := 169) rfl ?_
  refine pp_iconst dX7_takesTurn_169 ci_4 (q := 170) rfl ?_
  refine pp_iload dX7_takesTurn_170 rfl (q := 172) rfl ?_
  refine ps_callVv dX7_takesTurn_172 lk_X7_63 (by exact (by first | exact h3.1 | exact h2.1 | exact h1.1 | exact h.1)) (by rfl) (by rfl) (by rfl) (m_to4 h1 hmb hd1) (by rfl) (by exact Nat.le_of_ble_eq_true rfl) (by decide) (by decide) (by exact Nat.le_of_ble_eq_true rfl) (q := 175) rfl (fun g172 h172 => ?_)
  obtain ⟨h2, hE2⟩ := h172
  rw [aSet_aSet, aSet_m, show meSI (meSI (A.1 m) 6 (-1)) 7 (nI z) = meSI (meSI (A.1 m) 7 (nI z)) 6 (-1) from by unfold meSI; dsimp only; rw [upd_comm (by omega)]] at h2
  rw [← he] at h2
  have h2 : RS g172 (ttD A m) n False := h2
  refine pp_aload_n dX7_takesTurn_175 rfl isRf_r (q := 176) rfl ?_
  refine pp_iload_n dX7_takesTurn_176 rfl (q := 177) rfl ?_
  refine pp_iload dX7_takesTurn_177 rfl (q := 179) rfl ?_
  refine pp_iconst dX7_takesTurn_179 ci_2 (q := 180) rfl ?_
  refine pp_iload dX7_takesTurn_180 rfl (q := 182) rfl ?_
  refine ps_callVi dX7_takesTurn_182 lk_X7_115 (by exact (by first | exact h3.1 | exact h2.1 | exact h1.1 | exact h.1)) (by rfl) (by rfl) (by rfl) (m_s3 h2 hI hmb hd2 (Or.inr ⟨z, hz, rfl⟩) (fun _ => oI_some_ne (by omega)) (by rw [ttD_k.2]; omega) (by rw [ttD_k.2]; omega)) (by rfl) (by exact Nat.le_of_ble_eq_true rfl) (by decide) (by decide) (by exact Nat.le_of_ble_eq_true rfl) (q := 185) rfl (fun r182 g182 h182 => ?_)
  obtain ⟨rfl, h3, hE3⟩ := h182
  refine pp_istore_n dX7_takesTurn_185 (by decide) (ls1_3 (nl1 rfl)) (q := 186) rfl ?_
  exact hk _ h3 ((hE1.tr hE2).tr hE3) _ _
theorem anA_nx {A : AW} {m : Nat} : anA A m = askT (nxS A m) m := by
  unfold anA nxS
  split <;> rfl
theorem nxS_INV {N m : Nat} {A : AW} (h : INV N N A) (hmb : m < 64) (hd : mdA A m) : INV N N (nxS A m) ∧ mdA (nxS A m) m ∧ aB (nxS A m) = aB A := by
  unfold nxS
  split
  · refine ⟨(h.set hd (okMm_mkR (h.m hmb hd)) hd).tl, ?_, rfl⟩
    show ((aSet A m (meMkR m (A.1 m))).1 m).1 1 = nI 1
    rw [aSet_m]
    exact hd
  · exact ⟨h, hd, rfl⟩
set_option maxRecDepth 20000 in
set_option maxHeartbeats 4000000 in
theorem s_tn0 {ad : Nm → Nat} {g : Sg} {A : AW} {n m : Nat} {N s : Nat} {x4 : Int32} {a2 a5 a6 : Option Value} (h : RS g A n False) (hI : INV N N A) (hmb : m < 64) (hd : mdA A m) (ho : nxO ((nxS A m).1 m) = none) : PS mX7_takesTurn 186 [some (.ref (ad (40, 0, 0))), some (.int (nI m)), a2, some (.int (nI s)), some (.int x4), a5, a6] [] ad g (Ri (fun v g' => v = nI s + (anA A m).2 ∧ RS g' (anA A m).1 n False ∧ EqM g g')) := by
  refine pp_aload_n dX7_takesTurn_186 rfl isRf_r (q := 187) rfl ?_
  refine pp_iload_n dX7_takesTurn_187 rfl (q := 188) rfl ?_
  refine ps_callVi dX7_takesTurn_188 lk_X7_118 (by exact (by first | exact h1.1 | exact h.1)) (by rfl) (by rfl) (by rfl) (m_nextOf h hmb hd (hI.m hmb hd).2.2.2.2.1) (by rfl) (by exact Nat.le_of_ble_eq_true rfl) (by decide) (by decide) (by exact Nat.le_of_ble_eq_true rfl) (q := 191) rfl (fun r188 g188 h188 => ?_)
  obtain ⟨rfl, h1, hE1⟩ := h188
  rw [ho] at h1 ⊢
  change PP mX7_takesTurn 191 _ [Value.int (-1)] _ _
  refine pp_istore dX7_takesTurn_191 (by decide) (ls1_5 (nl1 rfl)) (q := 193) rfl ?_
  refine pp_iload dX7_takesTurn_193 rfl (q := 195) rfl ?_
  refine pp_if_ge (tgt := 200) dX7_takesTurn_195 (by decide) (q := 198) rfl (fun c195 => absurd c195 (by decide)) (fun c195 => ?_)
  refine pp_iload_n dX7_takesTurn_198 rfl (q := 199) rfl ?_
  refine ri_ret dX7_takesTurn_199 rfl rfl ?_
  rw [anA_nx]
  unfold askT
  rw [ho]
  refine ⟨by rw [nI_add, Nat.add_zero], ?_, hE1⟩
  have e : aSet (nxS A m) m (meStp ((nxS A m).1 m) none) = nxS A m := aSet_self
  rw [e] at h1
  exact h1
set_option maxRecDepth 20000 in
set_option maxHeartbeats 4000000 in
theorem s_tn1 {ad : Nm → Nat} {g : Sg} {A : AW} {n m : Nat} {N s i x : Nat} {x4 : Int32} {a2 a5 a6 : Option Value} (h : RS g A n False) (hI : INV N N A) (hmb : m < 64) (hd : mdA A m) (ho : nxO ((nxS A m).1 m) = some i) (hx : x < 64) (ex : ((nxS A m).1 m).2.2 36 i = nI x) (hdx : mdA (aSet (nxS A m) m (meSI ((nxS A m).1 m) 15 (nI (i + 1)))) m) (hKx : ∀ x, x < 64 → ∃ kd, kd ≤ 4 ∧ ((aSet (nxS A m) m (meSI ((nxS A m).1 m) 15 (nI (i + 1)))).1 m).2.2 31 x = nI kd) (hlb : bL (aB (aSet (nxS A m) m (meSI ((nxS A m).1 m) 15 (nI (i + 1))))) + 1 ≤ 1200) (hpb : bP (aB (aSet (nxS A m) m (meSI ((nxS A m).1 m) 15 (nI (i + 1))))) + 64 ≤ 20000) : PS mX7_takesTurn 186 [some (.ref (ad (40, 0, 0))), some (.int (nI m)), a2, some (.int (nI s)), some (.int x4), a5, a6] [] ad g (Ri (fun v g' => v = nI s + (anA A m).2 ∧ RS g' (anA A m).1 n False ∧ EqM g g')) := by
  refine pp_aload_n dX7_takesTurn_186 rfl isRf_r (q := 187) rfl ?_
  refine pp_iload_n dX7_takesTurn_187 rfl (q := 188) rfl ?_
  refine ps_callVi dX7_takesTurn_188 lk_X7_118 (by exact (by first | exact h3.1 | exact h2.1 | exact h1.1 | exact h.1)) (by rfl) (by rfl) (by rfl) (m_nextOf h hmb hd (hI.m hmb hd).2.2.2.2.1) (by rfl) (by exact Nat.le_of_ble_eq_true rfl) (by decide) (by decide) (by exact Nat.le_of_ble_eq_true rfl) (q := 191) rfl (fun r188 g188 h188 => ?_)
  obtain ⟨rfl, h1, hE1⟩ := h188
  rw [ho] at h1 ⊢
  change PP mX7_takesTurn 191 _ [Value.int (((nxS A m).1 m).2.2 36 i)] _ _
  rw [ex]
  have h1 : RS g188 (aSet (nxS A m) m (meSI ((nxS A m).1 m) 15 (nI (i + 1)))) n False := h1
  refine pp_istore dX7_takesTurn_191 (by decide) (ls1_5 (nl1 rfl)) (q := 193) rfl ?_
  refine pp_iload dX7_takesTurn_193 rfl (q := 195) rfl ?_
  refine pp_if_ge (tgt := 200) dX7_takesTurn_195 (by decide) (q := 198) rfl (fun c195 => ?_) (fun c195 => absurd (nI_pos' (by omega)) c195)
  refine pp_aload_n dX7_takesTurn_200 rfl isRf_r (q := 201) rfl ?_
  refine pp_iload_n dX7_takesTurn_201 rfl (q := 202) rfl ?_
  refine pp_iload dX7_takesTurn_202 rfl (q := 204) rfl ?_
  refine pp_iconst dX7_takesTurn_204 ci_1 (q := 205) rfl ?_
  refine pp_iconst dX7_takesTurn_205 ci_m1 (q := 206) rfl ?_
  refine ps_callVi dX7_takesTurn_206 lk_X7_89 (by exact (by first | exact h3.1 | exact h2.1 | exact h1.1 | exact h.1)) (by rfl) (by rfl) (by rfl) (m_send h1 hmb hdx hKx hlb hpb) (by rfl) (by exact Nat.le_of_ble_eq_true rfl) (by decide) (by decide) (by exact Nat.le_of_ble_eq_true rfl) (q := 209) rfl (fun r206 g206 h206 => ?_)
  obtain ⟨rfl, h2, hE2⟩ := h206
  have hd2 : mdA (sndA (aSet (nxS A m) m (meSI ((nxS A m).1 m) 15 (nI (i + 1)))) m (nI 1) (nI x) (-1)) m := by unfold mdA; rw [sndA_keep.1]; exact hdx
  refine pp_istore dX7_takesTurn_209 (by decide) (ls1_6 (nl1 rfl)) (q := 211) rfl ?_
  refine pp_aload_n dX7_takesTurn_211 rfl isRf_r (q := 212) rfl ?_
  refine pp_iload_n dX7_takesTurn_212 rfl (q := 213) rfl ?_
  refine pp_iconst dX7_takesTurn_213 ci_3 (q := 214) rfl ?_
  refine pp_iload dX7_takesTurn_214 rfl (q := 216) rfl ?_
  refine ps_callVv dX7_takesTurn_216 lk_X7_63 (by exact (by first | exact h3.1 | exact h2.1 | exact h1.1 | exact h.1)) (by rfl) (by rfl) (by rfl) (m_to3 h2 hmb hd2) (by rfl) (by exact Nat.le_of_ble_eq_true rfl) (by decide) (by decide) (by exact Nat.le_of_ble_eq_true rfl) (q := 219) rfl (fun g216 h216 => ?_)
  obtain ⟨h3, hE3⟩ := h216
  refine pp_iload_n dX7_takesTurn_219 rfl (q := 220) rfl ?_
  refine pp_iconst dX7_takesTurn_220 ci_1 (q := 221) rfl ?_
  refine pp_iadd dX7_takesTurn_221 (q := 222) rfl ?_
  skip
  refine ri_ret dX7_takesTurn_222 rfl rfl ?_
  rw [anA_nx]
  unfold askT
  rw [ho]
  dsimp only
  rw [ex]
  exact ⟨rfl, h3, (hE1.tr (sdM hE2)).tr hE3⟩
theorem s_tn {ad : Nm → Nat} {g : Sg} {A : AW} {n m : Nat} {N s : Nat} {x4 : Int32} {a2 a5 a6 : Option Value} (h : RS g A n False) (hI : INV N N A) (hmb : m < 64) (hd : mdA A m) (hlb : bL (aB A) + 1 ≤ 1200) (hpb : bP (aB A) + 64 ≤ 20000) : PS mX7_takesTurn 186 [some (.ref (ad (40, 0, 0))), some (.int (nI m)), a2, some (.int (nI s)), some (.int x4), a5, a6] [] ad g (Ri (fun v g' => v = nI s + (anA A m).2 ∧ RS g' (anA A m).1 n False ∧ EqM g g')) := by
  obtain ⟨hIx, hdx, hbx⟩ := nxS_INV hI hmb hd
  have hM := hIx.m hmb hdx
  cases ho : nxO ((nxS A m).1 m) with
  | none => exact s_tn0 h hI hmb hd ho
  | some i =>
    obtain ⟨N', hn1, hn2, hin⟩ := nxO_lt hM.2.2.2.2.1 ho
    obtain ⟨n', q, k1, k2, k3, k4, k5⟩ := hM.2.2.2.2.1
    obtain rfl : n' = N' := eqT (k1.symm.trans hn1) (by omega) (by omega)
    obtain ⟨x, hx, -, ex⟩ := k5 i hin
    refine s_tn1 h hI hmb hd ho hx ex (by unfold mdA; rw [aSet_m]; exact hdx) (fun y hy => by rw [aSet_m]; exact (hM.2.2.2.2.2 y hy).1) ?_ ?_
    · show bL (aB (nxS A m)) + 1 ≤ 1200; rw [hbx]; exact hlb
    · show bP (aB (nxS A m)) + 64 ≤ 20000; rw [hbx]; exact hpb
set_option maxRecDepth 20000 in
set_option maxHeartbeats 4000000 in
theorem m_turn0 {ad : Nm → Nat} {g : Sg} {A : AW} {n m : Nat} {N : Nat} (h : RS g A n False) (hI : INV N N A) (hmb : m < 64) (hd : mdA A m) (hlb : bL (aB A) ≤ 1196) (hpb : bP (aB A) ≤ 19800) : PS mX7_takesTurn 0 (ent mX7_takesTurn [.ref (ad (40, 0, 0)), .int (nI m)]) [] ad g (Ri (fun v g' => v = (ttA A m).2 ∧ RS g' (ttA A m).1 n False ∧ EqM g g')) := by
  show PP mX7_takesTurn 0 [some (.ref (ad (40, 0, 0))), some (.int (nI m)), none, none, none, none, none] [] (Rel ad g) _
  refine pp_aload_n dX7_takesTurn_0 rfl isRf_r (q := 1) rfl ?_
  refine pp_iload_n dX7_takesTurn_1 rfl (q := 2) rfl ?_
  refine pp_iconst dX7_takesTurn_2 ci_2 (q := 3) rfl ?_
  refine pp_aload_n dX7_takesTurn_3 rfl isRf_r (q := 4) rfl ?_
  refine pp_iload_n dX7_takesTurn_4 rfl (q := 5) rfl ?_
  refine pp_iconst dX7_takesTurn_5 ci_2 (q := 6) rfl ?_
  refine ps_callVi dX7_takesTurn_6 lk_X7_48 (by exact (by first | exact h1.1 | exact h.1)) (by rfl) (by rfl) (by rfl) (m_of h.1 hmb (by omega)) (by rfl) (by exact Nat.le_of_ble_eq_true rfl) (by decide) (by decide) (by exact Nat.le_of_ble_eq_true rfl) (q := 9) rfl (fun r6 g6 h6 => ?_)
  obtain ⟨rfl, rfl⟩ := And.intro h6.1.symm h6.2.symm
  rw [show gA g (41, 0, 0) (7 * m + 2) = (A.1 m).1 5 from (h.2.o hmb hd).1.2.2.1]
  refine pp_iconst dX7_takesTurn_9 ci_1 (q := 10) rfl ?_
  refine pp_iadd dX7_takesTurn_10 (q := 11) rfl ?_
  skip
  refine ps_callVv dX7_takesTurn_11 lk_X7_63 (by exact (by first | exact h1.1 | exact h.1)) (by rfl) (by rfl) (by rfl) (m_to2 h hmb hd) (by rfl) (by exact Nat.le_of_ble_eq_true rfl) (by decide) (by decide) (by exact Nat.le_of_ble_eq_true rfl) (q := 14) rfl (fun g11 h11 => ?_)
  obtain ⟨h1, hE1⟩ := h11
  have hd1 : mdA (aSet A m (meSI (A.1 m) 5 ((A.1 m).1 5 + nI 1))) m := by unfold mdA; rw [aSet_m]; exact hd
  refine pp_iconst dX7_takesTurn_14 ci_0 (q := 15) rfl ?_
  refine pp_istore_n dX7_takesTurn_15 (by decide) (ls1_2 (nl1 rfl)) (q := 16) rfl ?_
  have h1I : INV N N (aSet A m (meSI (A.1 m) 5 ((A.1 m).1 5 + nI 1))) := hI.set hd (okMm_s (hI.m hmb hd) (Or.inr (Or.inr rfl)) (Or.inr rfl)) hd
  have h2I : INV N N (ttB A m) := eoR_INV hmb 64 0 _ (by omega) h1I hd1
  have hd2 : mdA (ttB A m) m := by unfold mdA; rw [ttB_k.2.1]; exact hd
  have h3I : INV N N (ttC A m) := h2I.set hd2 (okMm_dbt (h2I.m hmb hd2)) (by rw [meDbt_1.1, meSI_ne (by omega)]; exact (show ((ttB A m).1 m).1 1 = nI 1 from hd2))
  obtain ⟨hd3, -, hb3⟩ := ttC_k hd (hI.m hmb hd).2.2.2.2.1
  refine l_tt (g0 := g) (A9 := ttB A m) hmb (fun g2 h2 hE2 a3 => ?_) 65 0 g11 _ (by omega) (by omega) h1 hd1 rfl hE1 _
  have after : ∀ g', RS g' (aSet (ttB A m) m (meDbt ((ttB A m).1 m))) n False → EqM g2 g' → ∀ (x2 : Int32) a3, PP mX7_takesTurn 145 [some (.ref (ad (40, 0, 0))), some (.int (nI m)), some (.int x2), a3, none, none, none] [] (Rel ad g') (fun v G => ∃ g', Rel ad g' G ∧ Ri (fun v g' => v = (ttA A m).2 ∧ RS g' (ttA A m).1 n False ∧ EqM g g') v g') := by
    intro g3 h3 hE3 x2 a3
    have h3 : RS g3 (ttC A m) n False := h3
    have e18 : pmx (nI 2) = 6 := by decide
    unfold ttA
    rcases (h3I.m hmb hd3).2.2.1 with h6 | ⟨z, hz, h6⟩
    · rw [if_pos h6]
      refine s_te0 h3 hmb hd3 h6 (fun g4 h4 hE4 a2 x4 => ?_)
      refine (s_tn h4 h3I hmb hd3 (by rw [hb3]; omega) (by rw [hb3]; omega)).weak (fun v G hG => ?_)
      obtain ⟨g5, k1, r, k2, k3, k4, k5⟩ := hG
      exact ⟨g5, k1, r, k2, k3, k4, ((hE2.tr hE3).tr hE4).tr k5⟩
    · rw [if_neg (by rw [h6]; exact oI_some_ne (by omega)), h6]
      have h4I : INV N N (ttD (ttC A m) m) := h3I.set hd3 (okMm_s (okMm_s (h3I.m hmb hd3) (Or.inr (Or.inl rfl)) (Or.inl (h3I.m hmb hd3).2.2.1)) (Or.inl rfl) (Or.inl isN_m1)) hd3
      have hd4 : mdA (ttD (ttC A m) m) m := by unfold mdA; rw [ttD_k.1]; exact hd3
      have hb4 : aB (ttD (ttC A m) m) = aB A := ttD_k.2.trans hb3
      have h5I := sdA_INV (kind := nI 2) (ab := nI z) h4I hmb hd4 (by rw [hb4]; omega) (by rw [hb4, e18]; omega) (Or.inr ⟨z, hz, rfl⟩) (fun _ => oI_some_ne (by omega))
      have hk := sdA_k (A := ttD (ttC A m) m) (m := m) (kind := nI 2) (ab := nI z)
      rw [hb4, e18] at hk
      refine s_te1 h3 hmb hd3 hz h6 h4I hd4 (by rw [hb3]; omega) (by rw [hb3]; omega) (fun g4 h4 hE4 a2 x4 => ?_)
      refine (s_tn h4 h5I hmb (by unfold mdA; rw [hk.1]; exact hd4) (by omega) (by omega)).weak (fun v G hG => ?_)
      obtain ⟨g5, k1, r, k2, k3, k4, k5⟩ := hG
      exact ⟨g5, k1, r, k2, k3, k4, ((hE2.tr hE3).tr hE4).tr k5⟩
  rcases (h2I.m hmb hd2).2.2.2.1 with h7 | ⟨y, hy, h7⟩
  · exact s_tda h2 hmb hd2 h7 after
  · by_cases hk1 : ((ttB A m).1 m).2.2 31 y = nI 1
    · exact s_tdc h2 hmb hd2 hy h7 hk1 after
    · exact s_tdb h2 hmb hd2 hy h7 hk1 after
