set_option maxRecDepth 20000 in
set_option maxHeartbeats 4000000 in
theorem m_differ {ad : Nm → Nat} {g : Sg} {A : AW} {N n a b : Nat} {x : Nat} (h : RS g A n False) (hI : INV N N A) (ha : a < 64) (hb : b < 64) (hx : x < 64) (hda : mdA A a) (hdb : mdA A b) : PS mX7_differ 0 (ent mX7_differ [.ref (ad (40, 0, 0)), .int (nI a), .int (nI b), .int (nI x)]) [] ad g (Ri (fun v g' => isB v (dfs (A.1 a) (A.1 b) x = true) ∧ g' = g)) := by
  have hoa := (h.2.o ha hda).2.2.1 x hx
  have hob := (h.2.o hb hdb).2.2.1 x hx
  have ha0 := ((hI.m ha hda).2.2.2.2.2 x hx).2.1
  have hb0 := ((hI.m hb hdb).2.2.2.2.2 x hx).2.1
  show PP mX7_differ 0 [some (.ref (ad (40, 0, 0))), some (.int (nI a)), some (.int (nI b)), some (.int (nI x)), none, none] [] (Rel ad g) _
  refine pp_iload_n dX7_differ_0 rfl (q := 1) rfl ?_
  refine pp_iload_n dX7_differ_1 rfl (q := 2) rfl ?_
  refine ps_callSi dX7_differ_2 lk_X7_44 (by rfl) m_newsAt (by rfl) (by exact Nat.le_of_ble_eq_true rfl) (by decide) (by decide) (by exact Nat.le_of_ble_eq_true rfl) (q := 5) rfl (fun r2 g2 h2 => ?_)
  obtain ⟨rfl, rfl⟩ := And.intro h2.1.symm h2.2.symm
  refine pp_istore dX7_differ_5 (by decide) (ls1_4 (nl1 rfl)) (q := 7) rfl ?_
  refine pp_iload_n dX7_differ_7 rfl (q := 8) rfl ?_
  refine pp_iload_n dX7_differ_8 rfl (q := 9) rfl ?_
  refine ps_callSi dX7_differ_9 lk_X7_44 (by rfl) m_newsAt (by rfl) (by exact Nat.le_of_ble_eq_true rfl) (by decide) (by decide) (by exact Nat.le_of_ble_eq_true rfl) (q := 12) rfl (fun r9 g9 h9 => ?_)
  obtain ⟨rfl, rfl⟩ := And.intro h9.1.symm h9.2.symm
  refine pp_istore dX7_differ_12 (by decide) (ls1_5 (nl1 rfl)) (q := 14) rfl ?_
  refine pp_aload_n dX7_differ_14 rfl isRf_r (q := 15) rfl ?_
  refine ps_get dX7_differ_15 fl_X7_8 h.1 rfl rfl (q := 18) rfl ?_
  refine pp_iload dX7_differ_18 rfl (q := 20) rfl ?_
  refine ps_iald (j := nw a x) dX7_differ_20 h.1 rfl rfl (by unfold nw; omega) (by decide) (q := 21) rfl ?_
  rw [hoa.1]
  refine pp_aload_n dX7_differ_21 rfl isRf_r (q := 22) rfl ?_
  refine ps_get dX7_differ_22 fl_X7_8 h.1 rfl rfl (q := 25) rfl ?_
  refine pp_iload dX7_differ_25 rfl (q := 27) rfl ?_
  refine ps_iald (j := nw b x) dX7_differ_27 h.1 rfl rfl (by unfold nw; omega) (by decide) (q := 28) rfl ?_
  rw [hob.1]
  refine pp_icmp_ne (tgt := 62) dX7_differ_28 (by decide) (q := 31) rfl (fun c28 => ?_) (fun c28 => ?_)
  · have hy : dfs (A.1 a) (A.1 b) x = true := decide_eq_true (fun q => c28 q.1)
    refine pp_iconst dX7_differ_62 ci_1 (q := 63) rfl ?_
    refine pp_goto (tgt := 67) dX7_differ_63 (by decide) ?_
    refine ri_ret dX7_differ_67 rfl (by decide) ?_
    first | exact ⟨isB_1 hy, rfl⟩ | exact ⟨isB_0 hn, rfl⟩
  · skip
    refine pp_aload_n dX7_differ_31 rfl isRf_r (q := 32) rfl ?_
    refine ps_get dX7_differ_32 fl_X7_8 h.1 rfl rfl (q := 35) rfl ?_
    refine pp_iload dX7_differ_35 rfl (q := 37) rfl ?_
    refine ps_iald (j := nw a x) dX7_differ_37 h.1 rfl rfl (by unfold nw; omega) (by decide) (q := 38) rfl ?_
    rw [hoa.1]
    refine pp_if_eq (tgt := 66) dX7_differ_38 (by decide) (q := 41) rfl (fun c38 => ?_) (fun c38 => ?_)
    · have hn : ¬ dfs (A.1 a) (A.1 b) x = true := fun q => (of_decide_eq_true q : ¬ _) ⟨c28, (ha0 c38).trans (hb0 (c28.symm.trans c38)).symm⟩
      refine pp_iconst dX7_differ_66 ci_0 (q := 67) rfl ?_
      refine ri_ret dX7_differ_67 rfl (by decide) ?_
      first | exact ⟨isB_1 hy, rfl⟩ | exact ⟨isB_0 hn, rfl⟩
    · have c38b : ¬ (A.1 b).2.2 31 x = nI 0 := fun q => c38 (c28.trans q)
      refine pp_aload_n dX7_differ_41 rfl isRf_r (q := 42) rfl ?_
      refine ps_get dX7_differ_42 fl_X7_8 h.1 rfl rfl (q := 45) rfl ?_
      refine pp_iload dX7_differ_45 rfl (q := 47) rfl ?_
      refine pp_iconst dX7_differ_47 ci_1 (q := 48) rfl ?_
      refine pp_iadd dX7_differ_48 (q := 49) rfl ?_
      try rw [nI_add]
      refine ps_iald (j := nw a x + 1) dX7_differ_49 h.1 rfl rfl (by unfold nw; omega) (by decide) (q := 50) rfl ?_
      rw [hoa.2 c38 1 (by omega) (by omega)]
      refine pp_aload_n dX7_differ_50 rfl isRf_r (q := 51) rfl ?_
      refine ps_get dX7_differ_51 fl_X7_8 h.1 rfl rfl (q := 54) rfl ?_
      refine pp_iload dX7_differ_54 rfl (q := 56) rfl ?_
      refine pp_iconst dX7_differ_56 ci_1 (q := 57) rfl ?_
      refine pp_iadd dX7_differ_57 (q := 58) rfl ?_
      try rw [nI_add]
      refine ps_iald (j := nw b x + 1) dX7_differ_58 h.1 rfl rfl (by unfold nw; omega) (by decide) (q := 59) rfl ?_
      rw [hob.2 c38b 1 (by omega) (by omega)]
      refine pp_icmp_eq (tgt := 66) dX7_differ_59 (by decide) (q := 62) rfl (fun c59 => ?_) (fun c59 => ?_)
      · have hn : ¬ dfs (A.1 a) (A.1 b) x = true := fun q => (of_decide_eq_true q : ¬ _) ⟨c28, c59⟩
        refine pp_iconst dX7_differ_66 ci_0 (q := 67) rfl ?_
        refine ri_ret dX7_differ_67 rfl (by decide) ?_
        first | exact ⟨isB_1 hy, rfl⟩ | exact ⟨isB_0 hn, rfl⟩
      · have hy : dfs (A.1 a) (A.1 b) x = true := decide_eq_true (fun q => c59 q.2)
        refine pp_iconst dX7_differ_62 ci_1 (q := 63) rfl ?_
        refine pp_goto (tgt := 67) dX7_differ_63 (by decide) ?_
        refine ri_ret dX7_differ_67 rfl (by decide) ?_
        first | exact ⟨isB_1 hy, rfl⟩ | exact ⟨isB_0 hn, rfl⟩
def exP (A : AW) (a b : Nat) : Prop := upA A a → upA A b → ∀ x, x < 64 → ¬ dfs (A.1 a) (A.1 b) x = true
theorem dfs_eq {M N : Me} {x : Nat} : ¬ dfs M N x = true ↔ (M.2.2 31 x = N.2.2 31 x ∧ M.2.2 32 x = N.2.2 32 x) := ⟨fun h => Classical.byContradiction (fun q => h (decide_eq_true q)), fun h q => (of_decide_eq_true q : ¬ _) h⟩
theorem dif_none {M N : Me} (h : ∀ x, x < 64 → ¬ dfs M N x = true) : difO M N = none := by
  cases e : difO M N with
  | none => rfl
  | some x =>
    have q := fnd_some e
    exact absurd q.2.2.1 (h x (by omega))
theorem ap_none {A : AW} (h : ∀ a b, a < b → b < 64 → exP A a b) : apO A = none := by
  rw [apO_eq]
  cases e : fnd (upb A) 0 64 with
  | none => rfl
  | some a =>
    have qa := fnd_some e
    show apF A a _ = none
    cases e2 : fnd (apb A a) (a + 1) (64 - (a + 1)) with
    | none => rfl
    | some b =>
      have qb := fnd_some e2
      have q3 := qb.2.2.1
      unfold apb at q3
      rw [Bool.and_eq_true] at q3
      rw [dif_none (fun x hx => h a b (by omega) (by omega) (upb_up qa.2.2.1) (upb_up q3.1) x hx)] at q3
      exact absurd q3.2 (by decide)
theorem ap_some {A : AW} {a b x : Nat} (hab : a < b) (hb : b < 64) (hx : x < 64) (ua : upA A a) (ub : upA A b) (hd : dfs (A.1 a) (A.1 b) x = true) (hx1 : ∀ x', x' < x → ¬ dfs (A.1 a) (A.1 b) x' = true) (h1 : ∀ a' b', a' < a → a' < b' → b' < 64 → exP A a' b') (h2 : ∀ b', a < b' → b' < b → exP A a b') : apO A = some (a, b, x) := by
  have e1 : fnd (upb A) 0 64 = some a := by
    cases e : fnd (upb A) 0 64 with
    | none =>
      have q := fnd_none e a (by omega) (by omega)
      rw [upb_t ua] at q
      exact absurd q (by decide)
    | some a0 =>
      have q := fnd_some e
      by_cases c : a0 = a
      · rw [c]
      · have hlt : a0 < a := by
          refine Classical.byContradiction (fun z => ?_)
          have q4 := q.2.2.2 a (by omega) (by omega)
          rw [upb_t ua] at q4
          exact absurd q4 (by decide)
        have u0 := upb_up q.2.2.1
        have d1 := dfs_eq.mp (h1 a0 a hlt hlt (by omega) u0 ua x hx)
        have d2 := dfs_eq.mp (h1 a0 b hlt (by omega) hb u0 ub x hx)
        exact absurd hd (dfs_eq.mpr ⟨d1.1.symm.trans d2.1, d1.2.symm.trans d2.2⟩)
  have e3 : difO (A.1 a) (A.1 b) = some x := by
    cases e : difO (A.1 a) (A.1 b) with
    | none =>
      have q := fnd_none e x (by omega) (by omega)
      rw [hd] at q
      exact absurd q (by decide)
    | some y =>
      have q := fnd_some e
      by_cases c : y = x
      · rw [c]
      · by_cases c2 : y < x
        · exact absurd q.2.2.1 (hx1 y c2)
        · have q4 := q.2.2.2 x (by omega) (by omega)
          rw [hd] at q4
          exact absurd q4 (by decide)
  have e2 : fnd (apb A a) (a + 1) (64 - (a + 1)) = some b := by
    have hb1 : apb A a b = true := by
      unfold apb
      rw [Bool.and_eq_true, e3]
      exact ⟨upb_t ub, rfl⟩
    cases e : fnd (apb A a) (a + 1) (64 - (a + 1)) with
    | none =>
      have q := fnd_none e b (by omega) (by omega)
      rw [hb1] at q
      exact absurd q (by decide)
    | some y =>
      have q := fnd_some e
      by_cases c : y = b
      · rw [c]
      · by_cases c2 : y < b
        · have q3 := q.2.2.1
          unfold apb at q3
          rw [Bool.and_eq_true] at q3
          rw [dif_none (fun x hx => h2 y (by omega) c2 ua (upb_up q3.1) x hx)] at q3
          exact absurd q3.2 (by decide)
        · have q4 := q.2.2.2 b (by omega) (by omega)
          rw [hb1] at q4
          exact absurd q4 (by decide)
  rw [apO_eq, e1]
  show apF A a (fnd (apb A a) (a + 1) (64 - (a + 1))) = _
  rw [e2]
  unfold apF
  dsimp only
  rw [e3]
def apG (g : Sg) (a b x : Nat) : Sg := sI (sI (sI g (40, 0, 0) 13 (nI a)) (40, 0, 0) 14 (nI b)) (40, 0, 0) 15 (nI x)
set_option maxRecDepth 20000 in
set_option maxHeartbeats 4000000 in
theorem s_apa {ad : Nm → Nat} {g : Sg} {A : AW} {N n a b : Nat} {Q : Option Value → PH → Prop} (h : RS g A n False) (ha : a < 64) {z2 z3 : Option Value} (hk : ∀ z3, PP mX7_isApart 12 [some (.ref (ad (40, 0, 0))), some (.int (nI a)), some (.int (nI (a + 1))), z3] [] (Rel ad g) Q) : PP mX7_isApart 2 [some (.ref (ad (40, 0, 0))), some (.int (nI a)), z2, z3] [] (Rel ad g) Q := by
  refine pp_iload_n dX7_isApart_2 rfl (q := 3) rfl ?_
  refine pp_bipush dX7_isApart_3 cb_64 (q := 5) rfl ?_
  refine pp_icmp_ge (tgt := 97) dX7_isApart_5 (by decide) (q := 8) rfl (fun c5 => absurd c5 (nI_ge ha (by decide))) (fun c5 => ?_)
  refine pp_iload_n dX7_isApart_8 rfl (q := 9) rfl ?_
  refine pp_iconst dX7_isApart_9 ci_1 (q := 10) rfl ?_
  refine pp_iadd dX7_isApart_10 (q := 11) rfl ?_
  try rw [nI_add]
  refine pp_istore_n dX7_isApart_11 (by decide) (ls1_2 (nl1 rfl)) (q := 12) rfl ?_
  exact hk _
set_option maxRecDepth 20000 in
set_option maxHeartbeats 4000000 in
theorem s_apz {ad : Nm → Nat} {g : Sg} {A : AW} {n : Nat} (h : RS g A n False) (hn : apO A = none) {z2 z3 : Option Value} : PS mX7_isApart 2 [some (.ref (ad (40, 0, 0))), some (.int (nI 64)), z2, z3] [] ad g (Ri (fun v g' => (v = nI 0 ∧ apO A = none ∧ g' = g) ∨ (v = nI 1 ∧ ∃ a b x, apO A = some (a, b, x) ∧ g' = apG g a b x))) := by
  refine pp_iload_n dX7_isApart_2 rfl (q := 3) rfl ?_
  refine pp_bipush dX7_isApart_3 cb_64 (q := 5) rfl ?_
  refine pp_icmp_ge (tgt := 97) dX7_isApart_5 (by decide) (q := 8) rfl (fun c5 => ?_) (fun c5 => absurd (by decide) c5)
  refine pp_iconst dX7_isApart_97 ci_0 (q := 98) rfl ?_
  refine ri_ret dX7_isApart_98 rfl (by decide) ?_
  exact Or.inl ⟨rfl, hn, rfl⟩
set_option maxRecDepth 20000 in
set_option maxHeartbeats 4000000 in
theorem s_apbe {ad : Nm → Nat} {g : Sg} {A : AW} {N n a b : Nat} {Q : Option Value → PH → Prop} (h : RS g A n False) {z3 : Option Value} (hk : PP mX7_isApart 2 [some (.ref (ad (40, 0, 0))), some (.int (nI (a + 1))), some (.int (nI 64)), z3] [] (Rel ad g) Q) : PP mX7_isApart 12 [some (.ref (ad (40, 0, 0))), some (.int (nI a)), some (.int (nI 64)), z3] [] (Rel ad g) Q := by
  refine pp_iload_n dX7_isApart_12 rfl (q := 13) rfl ?_
  refine pp_bipush dX7_isApart_13 cb_64 (q := 15) rfl ?_
  refine pp_icmp_ge (tgt := 91) dX7_isApart_15 (by decide) (q := 18) rfl (fun c15 => ?_) (fun c15 => absurd (by decide) c15)
  refine pp_iinc dX7_isApart_91 rfl (nI_1 _) (ls1_1 (nl1 rfl)) (q := 94) rfl ?_
  refine pp_goto (tgt := 2) dX7_isApart_94 (by decide) ?_
  exact hk
set_option maxRecDepth 20000 in
set_option maxHeartbeats 4000000 in
theorem s_apb {ad : Nm → Nat} {g : Sg} {A : AW} {N n a b : Nat} {Q : Option Value → PH → Prop} (h : RS g A n False) (hI : INV N N A) (ha : a < 64) (hb : b < 64) {z3 : Option Value} (hk : ¬ (upA A a ∧ upA A b) → ∀ z3, PP mX7_isApart 12 [some (.ref (ad (40, 0, 0))), some (.int (nI a)), some (.int (nI (b + 1))), z3] [] (Rel ad g) Q) (hk2 : upA A a → upA A b → PP mX7_isApart 43 [some (.ref (ad (40, 0, 0))), some (.int (nI a)), some (.int (nI b)), some (.int (nI 0))] [] (Rel ad g) Q) : PP mX7_isApart 12 [some (.ref (ad (40, 0, 0))), some (.int (nI a)), some (.int (nI b)), z3] [] (Rel ad g) Q := by
  refine pp_iload_n dX7_isApart_12 rfl (q := 13) rfl ?_
  refine pp_bipush dX7_isApart_13 cb_64 (q := 15) rfl ?_
  refine pp_icmp_ge (tgt := 91) dX7_isApart_15 (by decide) (q := 18) rfl (fun c15 => absurd c15 (nI_ge hb (by decide))) (fun c15 => ?_)
  refine pp_aload_n dX7_isApart_18 rfl isRf_r (q := 19) rfl ?_
  refine pp_iload_n dX7_isApart_19 rfl (q := 20) rfl ?_
  refine pp_iconst dX7_isApart_20 ci_0 (q := 21) rfl ?_
  refine ps_callVi dX7_isApart_21 lk_X7_48 (by exact h.1) (by rfl) (by rfl) (by rfl) (m_of h.1 ha (by omega)) (by rfl) (by exact Nat.le_of_ble_eq_true rfl) (by decide) (by decide) (by exact Nat.le_of_ble_eq_true rfl) (q := 24) rfl (fun r21 g21 h21 => ?_)
  obtain ⟨rfl, rfl⟩ := And.intro h21.1.symm h21.2.symm
  rw [Nat.add_zero]
  refine pp_iconst dX7_isApart_24 ci_1 (q := 25) rfl ?_
  refine pp_icmp_ne (tgt := 85) dX7_isApart_25 (by decide) (q := 28) rfl (fun c25 => ?_) (fun c25 => ?_)
  · have hu : ¬ (upA A a ∧ upA A b) := fun q => c25 ((h.2.st hI ha).2.mpr q.1)
    refine pp_iinc dX7_isApart_85 rfl (nI_1 _) (ls1_2 (nl1 rfl)) (q := 88) rfl ?_
    refine pp_goto (tgt := 12) dX7_isApart_88 (by decide) ?_
    exact hk hu _
  · have ua : upA A a := (h.2.st hI ha).2.mp c25
    refine pp_aload_n dX7_isApart_28 rfl isRf_r (q := 29) rfl ?_
    refine pp_iload_n dX7_isApart_29 rfl (q := 30) rfl ?_
    refine pp_iconst dX7_isApart_30 ci_0 (q := 31) rfl ?_
    refine ps_callVi dX7_isApart_31 lk_X7_48 (by exact h.1) (by rfl) (by rfl) (by rfl) (m_of h.1 hb (by omega)) (by rfl) (by exact Nat.le_of_ble_eq_true rfl) (by decide) (by decide) (by exact Nat.le_of_ble_eq_true rfl) (q := 34) rfl (fun r31 g31 h31 => ?_)
    obtain ⟨rfl, rfl⟩ := And.intro h31.1.symm h31.2.symm
    rw [Nat.add_zero]
    refine pp_iconst dX7_isApart_34 ci_1 (q := 35) rfl ?_
    refine pp_icmp_eq (tgt := 41) dX7_isApart_35 (by decide) (q := 38) rfl (fun c35 => ?_) (fun c35 => ?_)
    · have ub : upA A b := (h.2.st hI hb).2.mp c35
      refine pp_iconst dX7_isApart_41 ci_0 (q := 42) rfl ?_
      refine pp_istore_n dX7_isApart_42 (by decide) (ls1_3 (nl1 rfl)) (q := 43) rfl ?_
      exact hk2 ua ub
    · have hu : ¬ (upA A a ∧ upA A b) := fun q => c35 ((h.2.st hI hb).2.mpr q.2)
      refine pp_goto (tgt := 85) dX7_isApart_38 (by decide) ?_
      refine pp_iinc dX7_isApart_85 rfl (nI_1 _) (ls1_2 (nl1 rfl)) (q := 88) rfl ?_
      refine pp_goto (tgt := 12) dX7_isApart_88 (by decide) ?_
      exact hk hu _
set_option maxRecDepth 20000 in
set_option maxHeartbeats 4000000 in
theorem s_apxe {ad : Nm → Nat} {g : Sg} {A : AW} {N n a b : Nat} {Q : Option Value → PH → Prop} (h : RS g A n False) (hk : PP mX7_isApart 12 [some (.ref (ad (40, 0, 0))), some (.int (nI a)), some (.int (nI (b + 1))), some (.int (nI 64))] [] (Rel ad g) Q) : PP mX7_isApart 43 [some (.ref (ad (40, 0, 0))), some (.int (nI a)), some (.int (nI b)), some (.int (nI 64))] [] (Rel ad g) Q := by
  refine pp_iload_n dX7_isApart_43 rfl (q := 44) rfl ?_
  refine pp_bipush dX7_isApart_44 cb_64 (q := 46) rfl ?_
  refine pp_icmp_ge (tgt := 85) dX7_isApart_46 (by decide) (q := 49) rfl (fun c46 => ?_) (fun c46 => absurd (by decide) c46)
  refine pp_iinc dX7_isApart_85 rfl (nI_1 _) (ls1_2 (nl1 rfl)) (q := 88) rfl ?_
  refine pp_goto (tgt := 12) dX7_isApart_88 (by decide) ?_
  exact hk
set_option maxRecDepth 20000 in
set_option maxHeartbeats 4000000 in
theorem s_apx {ad : Nm → Nat} {g : Sg} {A : AW} {N n a b x : Nat} (h : RS g A n False) (hI : INV N N A) (ha : a < 64) (hb : b < 64) (hx : x < 64) (ua : upA A a) (ub : upA A b) (hk : ¬ dfs (A.1 a) (A.1 b) x = true → PS mX7_isApart 43 [some (.ref (ad (40, 0, 0))), some (.int (nI a)), some (.int (nI b)), some (.int (nI (x + 1)))] [] ad g (Ri (fun v g' => (v = nI 0 ∧ apO A = none ∧ g' = g) ∨ (v = nI 1 ∧ ∃ a b x, apO A = some (a, b, x) ∧ g' = apG g a b x)))) (hk2 : dfs (A.1 a) (A.1 b) x = true → (nI 1 = nI 0 ∧ apO A = none ∧ apG g a b x = g) ∨ (nI 1 = nI 1 ∧ ∃ a' b' x', apO A = some (a', b', x') ∧ apG g a b x = apG g a' b' x')) : PS mX7_isApart 43 [some (.ref (ad (40, 0, 0))), some (.int (nI a)), some (.int (nI b)), some (.int (nI x))] [] ad g (Ri (fun v g' => (v = nI 0 ∧ apO A = none ∧ g' = g) ∨ (v = nI 1 ∧ ∃ a b x, apO A = some (a, b, x) ∧ g' = apG g a b x))) := by
  refine pp_iload_n dX7_isApart_43 rfl (q := 44) rfl ?_
  refine pp_bipush dX7_isApart_44 cb_64 (q := 46) rfl ?_
  refine pp_icmp_ge (tgt := 85) dX7_isApart_46 (by decide) (q := 49) rfl (fun c46 => absurd c46 (nI_ge hx (by decide))) (fun c46 => ?_)
  refine pp_aload_n dX7_isApart_49 rfl isRf_r (q := 50) rfl ?_
  refine pp_iload_n dX7_isApart_50 rfl (q := 51) rfl ?_
  refine pp_iload_n dX7_isApart_51 rfl (q := 52) rfl ?_
  refine pp_iload_n dX7_isApart_52 rfl (q := 53) rfl ?_
  refine ps_callVi dX7_isApart_53 lk_X7_182 (by exact h.1) (by rfl) (by rfl) (by rfl) (m_differ h hI ha hb hx ua.1 ub.1) (by rfl) (by exact Nat.le_of_ble_eq_true rfl) (by decide) (by decide) (by exact Nat.le_of_ble_eq_true rfl) (q := 56) rfl (fun r53 g53 h53 => ?_)
  obtain ⟨hb53, rfl⟩ := And.intro h53.1 h53.2.symm
  refine pp_if_ne (tgt := 62) dX7_isApart_56 (by decide) (q := 59) rfl (fun c56 => ?_) (fun c56 => ?_)
  · have hy := isB_t hb53 c56
    refine pp_aload_n dX7_isApart_62 rfl isRf_r (q := 63) rfl ?_
    refine pp_iload_n dX7_isApart_63 rfl (q := 64) rfl ?_
    refine ps_puti dX7_isApart_64 fl_X7_186 h.1 rfl (by exact Nat.le_of_ble_eq_true rfl) rfl rfl rfl (q := 67) rfl ?_
    refine pp_aload_n dX7_isApart_67 rfl isRf_r (q := 68) rfl ?_
    refine pp_iload_n dX7_isApart_68 rfl (q := 69) rfl ?_
    refine ps_puti dX7_isApart_69 fl_X7_189 h.1 rfl (by exact Nat.le_of_ble_eq_true rfl) rfl rfl rfl (q := 72) rfl ?_
    refine pp_aload_n dX7_isApart_72 rfl isRf_r (q := 73) rfl ?_
    refine pp_iload_n dX7_isApart_73 rfl (q := 74) rfl ?_
    refine ps_puti dX7_isApart_74 fl_X7_192 h.1 rfl (by exact Nat.le_of_ble_eq_true rfl) rfl rfl rfl (q := 77) rfl ?_
    refine pp_iconst dX7_isApart_77 ci_1 (q := 78) rfl ?_
    refine ri_ret dX7_isApart_78 rfl (by decide) ?_
    exact hk2 hy
  · have hn := isB_f hb53 c56
    refine pp_goto (tgt := 79) dX7_isApart_59 (by decide) ?_
    refine pp_iinc dX7_isApart_79 rfl (nI_1 _) (ls1_3 (nl1 rfl)) (q := 82) rfl ?_
    refine pp_goto (tgt := 43) dX7_isApart_82 (by decide) ?_
    exact hk hn
theorem l_apx {ad : Nm → Nat} {g : Sg} {A : AW} {N n a b : Nat} (h : RS g A n False) (hI : INV N N A) (hab : a < b) (hb : b < 64) (ua : upA A a) (ub : upA A b) (h1 : (∀ a' b', a' < a → a' < b' → b' < 64 → exP A a' b')) (h2 : (∀ b', a < b' → b' < b → exP A a b')) (hk : (∀ x, x < 64 → ¬ dfs (A.1 a) (A.1 b) x = true) → PS mX7_isApart 12 [some (.ref (ad (40, 0, 0))), some (.int (nI a)), some (.int (nI (b + 1))), some (.int (nI 64))] [] ad g (Ri (fun v g' => (v = nI 0 ∧ apO A = none ∧ g' = g) ∨ (v = nI 1 ∧ ∃ a b x, apO A = some (a, b, x) ∧ g' = apG g a b x)))) : ∀ (j x : Nat), 64 - x < j → x ≤ 64 → (∀ x', x' < x → ¬ dfs (A.1 a) (A.1 b) x' = true) → PS mX7_isApart 43 [some (.ref (ad (40, 0, 0))), some (.int (nI a)), some (.int (nI b)), some (.int (nI x))] [] ad g (Ri (fun v g' => (v = nI 0 ∧ apO A = none ∧ g' = g) ∨ (v = nI 1 ∧ ∃ a b x, apO A = some (a, b, x) ∧ g' = apG g a b x))) := by
  intro j
  induction j with
  | zero => intro x h; omega
  | succ j ih =>
    intro x hij hik hx
    by_cases e : x = 64
    · subst e
      exact s_apxe (N := 0) h (hk hx)
    · refine s_apx h hI (by omega) hb (by omega) ua ub (fun hn => ih (x + 1) (by omega) (by omega) (fun x' hx' => ?_)) (fun hy => Or.inr ⟨rfl, a, b, x, ap_some hab hb (by omega) ua ub hy hx h1 h2, rfl⟩)
      by_cases e2 : x' = x
      · rw [e2]; exact hn
      · exact hx x' (by omega)
theorem l_apb {ad : Nm → Nat} {g : Sg} {A : AW} {N n a : Nat} (h : RS g A n False) (hI : INV N N A) (ha : a < 64) (h1 : (∀ a' b', a' < a → a' < b' → b' < 64 → exP A a' b')) (hk : (∀ b', a < b' → b' < 64 → exP A a b') → ∀ z3, PS mX7_isApart 2 [some (.ref (ad (40, 0, 0))), some (.int (nI (a + 1))), some (.int (nI 64)), z3] [] ad g (Ri (fun v g' => (v = nI 0 ∧ apO A = none ∧ g' = g) ∨ (v = nI 1 ∧ ∃ a b x, apO A = some (a, b, x) ∧ g' = apG g a b x)))) : ∀ (j b : Nat), 64 - b < j → a < b → b ≤ 64 → (∀ b', a < b' → b' < b → exP A a b') → ∀ z3, PS mX7_isApart 12 [some (.ref (ad (40, 0, 0))), some (.int (nI a)), some (.int (nI b)), z3] [] ad g (Ri (fun v g' => (v = nI 0 ∧ apO A = none ∧ g' = g) ∨ (v = nI 1 ∧ ∃ a b x, apO A = some (a, b, x) ∧ g' = apG g a b x))) := by
  intro j
  induction j with
  | zero => intro b h; omega
  | succ j ih =>
    intro b hij hab hik h2 z3
    by_cases e : b = 64
    · subst e
      exact s_apbe (N := 0) (b := 0) h (hk h2 z3)
    · have st : exP A a b → (∀ b', a < b' → b' < (b + 1) → exP A a b') := fun q b' c1 c2 => by
        by_cases e2 : b' = b
        · rw [e2]; exact q
        · exact h2 b' c1 (by omega)
      refine s_apb h hI ha (by omega) (fun hu z => ih (b + 1) (by omega) (by omega) (by omega) (st (fun q1 q2 => absurd ⟨q1, q2⟩ hu)) z) (fun ua ub => ?_)
      exact l_apx h hI hab (by omega) ua ub h1 h2 (fun q => ih (b + 1) (by omega) (by omega) (by omega) (st (fun _ _ => q)) _) 65 0 (by omega) (by omega) (fun x' hx' => by omega)
theorem l_apa {ad : Nm → Nat} {g : Sg} {A : AW} {N n : Nat} (h : RS g A n False) (hI : INV N N A) : ∀ (j a : Nat), 64 - a < j → a ≤ 64 → (∀ a' b', a' < a → a' < b' → b' < 64 → exP A a' b') → ∀ z2 z3, PS mX7_isApart 2 [some (.ref (ad (40, 0, 0))), some (.int (nI a)), z2, z3] [] ad g (Ri (fun v g' => (v = nI 0 ∧ apO A = none ∧ g' = g) ∨ (v = nI 1 ∧ ∃ a b x, apO A = some (a, b, x) ∧ g' = apG g a b x))) := by
  intro j
  induction j with
  | zero => intro a h; omega
  | succ j ih =>
    intro a hij hik h1 z2 z3
    by_cases e : a = 64
    · subst e
      exact s_apz h (ap_none (fun a b hab hb => h1 a b (by omega) hab hb))
    · refine s_apa (N := 0) (b := 0) h (by omega) (fun z => l_apb h hI (by omega) h1 (fun h2 z => ih (a + 1) (by omega) (by omega) (fun a' b' c1 c2 c3 => ?_) _ _) 65 (a + 1) (by omega) (by omega) (by omega) (fun b' c1 c2 => by omega) z)
      by_cases e2 : a' = a
      · subst e2; exact h2 b' c2 c3
      · exact h1 a' b' (by omega) c2 c3
set_option maxRecDepth 20000 in
set_option maxHeartbeats 4000000 in
theorem m_isApart {ad : Nm → Nat} {g : Sg} {A : AW} {N n : Nat} (h : RS g A n False) (hI : INV N N A) : PS mX7_isApart 0 (ent mX7_isApart [.ref (ad (40, 0, 0))]) [] ad g (Ri (fun v g' => (v = nI 0 ∧ apO A = none ∧ g' = g) ∨ (v = nI 1 ∧ ∃ a b x, apO A = some (a, b, x) ∧ g' = apG g a b x))) := by
  show PP mX7_isApart 0 [some (.ref (ad (40, 0, 0))), none, none, none] [] (Rel ad g) _
  refine pp_iconst dX7_isApart_0 ci_0 (q := 1) rfl ?_
  refine pp_istore_n dX7_isApart_1 (by decide) (ls1_1 (nl1 rfl)) (q := 2) rfl ?_
  exact l_apa h hI 65 0 (by omega) (by omega) (fun a' b' q => absurd q (by omega)) _ _
theorem apG_m {g : Sg} {a b x : Nat} : EqM g (apG g a b x) := ((EqM.rf.sI (by omega)).sI (by omega)).sI (by omega)
theorem RR_ap {g : Sg} {S : CS} {a b x : Nat} (hR : RR g S) : RS (apG g a b x) (runA (sH S)) (sH S).length False := hR.1
set_option maxRecDepth 20000 in
set_option maxHeartbeats 4000000 in
theorem m_agree {ad : Nm → Nat} {g : Sg} {S : CS} (hR : RR g S) (hH : okH (sH S)) : PS mX7_agree 0 (ent mX7_agree [.ref (ad (40, 0, 0))]) [] ad g (MdQ g (anS S (qAgree (runA (sH S))))) := by
  have h := hR.1
  have hI := inv_run hH
  have hn := okH_len hH
  show PP mX7_agree 0 [some (.ref (ad (40, 0, 0)))] [] (Rel ad g) _
  refine pp_aload_n dX7_agree_0 rfl isRf_r (q := 1) rfl ?_
  refine ps_callVi dX7_agree_1 lk_X7_195 (by exact h.1) (by rfl) (by rfl) (by rfl) (m_isApart h hI) (by rfl) (by exact Nat.le_of_ble_eq_true rfl) (by decide) (by decide) (by exact Nat.le_of_ble_eq_true rfl) (q := 4) rfl (fun r1 g1 h1 => ?_)
  skip
  refine pp_if_eq (tgt := 11) dX7_agree_4 (by decide) (q := 7) rfl (fun c4 => ?_) (fun c4 => ?_)
  · skip
    refine pp_iconst dX7_agree_11 ci_1 (q := 12) rfl ?_
    refine ri_ret dX7_agree_12 rfl rfl ?_
    rcases h1 with ⟨e1, e2, e3⟩ | ⟨e1, a, b, x, e2, e3⟩
    · subst e3
      first
        | exact absurd e1 c4
        | exact mq_inr hR (by unfold qAgree; rw [e2])
    · subst e3
      first
        | exact absurd (e1.symm.trans c4) (by decide)
        | exact mq_inrE hR apG_m (RR_ap hR) (by unfold qAgree; rw [e2])
  · skip
    refine pp_iconst dX7_agree_7 ci_0 (q := 8) rfl ?_
    refine pp_goto (tgt := 12) dX7_agree_8 (by decide) ?_
    refine ri_ret dX7_agree_12 rfl rfl ?_
    rcases h1 with ⟨e1, e2, e3⟩ | ⟨e1, a, b, x, e2, e3⟩
    · subst e3
      first
        | exact absurd e1 c4
        | exact mq_inr hR (by unfold qAgree; rw [e2])
    · subst e3
      first
        | exact absurd (e1.symm.trans c4) (by decide)
        | exact mq_inrE hR apG_m (RR_ap hR) (by unfold qAgree; rw [e2])
set_option maxRecDepth 20000 in
set_option maxHeartbeats 4000000 in
theorem m_apart {ad : Nm → Nat} {g : Sg} {S : CS} {a : Int32} (hR : RR g S) (hH : okH (sH S)) : PS mX7_apart 0 (ent mX7_apart [.ref (ad (40, 0, 0)), .int a]) [] ad g (MdQ g (anS S (qApart (runA (sH S)) a))) := by
  have h := hR.1
  have hI := inv_run hH
  have hn := okH_len hH
  show PP mX7_apart 0 [some (.ref (ad (40, 0, 0))), some (.int a)] [] (Rel ad g) _
  refine pp_iload_n dX7_apart_0 rfl (q := 1) rfl ?_
  refine pp_i2l dX7_apart_1 (q := 2) rfl ?_
  refine pp_lconst (v := lN 0) dX7_apart_2 rfl (q := 3) rfl ?_
  refine pp_ldc2 (v := lN 2) dX7_apart_3 kc_X7_198 (q := 6) rfl ?_
  refine ps_callSi dX7_apart_6 lk_X7_165 (by rfl) (m_isIn (x := a) (n := 3) (by omega) (by omega)) (by rfl) (by exact Nat.le_of_ble_eq_true rfl) (by decide) (by decide) (by exact Nat.le_of_ble_eq_true rfl) (q := 9) rfl (fun r6 g6 h6 => ?_)
  obtain ⟨hb6, rfl⟩ := And.intro h6.1 h6.2.symm
  refine pp_if_ne (tgt := 19) dX7_apart_9 (by decide) (q := 12) rfl (fun c9 => ?_) (fun c9 => ?_)
  · obtain ⟨v, hv, rfl⟩ := isB_t hb6 c9
    refine pp_aload_n dX7_apart_19 rfl isRf_r (q := 20) rfl ?_
    refine ps_callVi dX7_apart_20 lk_X7_195 (by exact (by first | exact h1.1 | exact h.1)) (by rfl) (by rfl) (by rfl) (m_isApart h hI) (by rfl) (by exact Nat.le_of_ble_eq_true rfl) (by decide) (by decide) (by exact Nat.le_of_ble_eq_true rfl) (q := 23) rfl (fun r20 g20 h20 => ?_)
    skip
    refine pp_if_ne (tgt := 28) dX7_apart_23 (by decide) (q := 26) rfl (fun c23 => ?_) (fun c23 => ?_)
    · obtain ⟨a, b, x, e2, e3⟩ : ∃ a b x, apO (runA (sH S)) = some (a, b, x) ∧ g20 = apG g a b x := by
        rcases h20 with ⟨e1, -⟩ | ⟨-, q⟩
        · exact absurd e1 c23
        · exact q
      subst e3
      have h1 : RS (apG g a b x) (runA (sH S)) (sH S).length False := RR_ap hR
      have hq : ∀ _w : Nat, qApart (runA (sH S)) (nI v) = .inr (apV (nI v) a b x) := fun _ => by unfold qApart; rw [cIf_t ⟨v, hv, rfl⟩, e2]; rfl
      refine pp_iload_n dX7_apart_28 rfl (q := 29) rfl ?_
      refine pp_if_ne (tgt := 39) dX7_apart_29 (by decide) (q := 32) rfl (fun c29 => ?_) (fun c29 => ?_)
      · skip
        refine pp_iload_n dX7_apart_39 rfl (q := 40) rfl ?_
        refine pp_iconst dX7_apart_40 ci_1 (q := 41) rfl ?_
        refine pp_icmp_ne (tgt := 51) dX7_apart_41 (by decide) (q := 44) rfl (fun c41 => ?_) (fun c41 => ?_)
        · skip
          refine pp_aload_n dX7_apart_51 rfl isRf_r (q := 52) rfl ?_
          refine ps_get dX7_apart_52 fl_X7_192 (by first | exact h1.1 | exact h.1) rfl rfl (q := 55) rfl ?_
          rw [show gI (apG g a b x) (40, 0, 0) 15 = nI x from rfl]
          refine ri_ret dX7_apart_55 rfl rfl ?_
          have hq := hq 0
          unfold apV at hq
          first
            | (rw [if_pos c29] at hq; exact mq_inrE hR apG_m h1 hq)
            | (rw [if_neg c29, if_pos c41] at hq; exact mq_inrE hR apG_m h1 hq)
            | (rw [if_neg c29, if_neg c41] at hq; exact mq_inrE hR apG_m h1 hq)
        · skip
          refine pp_aload_n dX7_apart_44 rfl isRf_r (q := 45) rfl ?_
          refine ps_get dX7_apart_45 fl_X7_189 (by first | exact h1.1 | exact h.1) rfl rfl (q := 48) rfl ?_
          rw [show gI (apG g a b x) (40, 0, 0) 14 = nI b from rfl]
          refine pp_goto (tgt := 55) dX7_apart_48 (by decide) ?_
          refine ri_ret dX7_apart_55 rfl rfl ?_
          have hq := hq 0
          unfold apV at hq
          first
            | (rw [if_pos c29] at hq; exact mq_inrE hR apG_m h1 hq)
            | (rw [if_neg c29, if_pos c41] at hq; exact mq_inrE hR apG_m h1 hq)
            | (rw [if_neg c29, if_neg c41] at hq; exact mq_inrE hR apG_m h1 hq)
      · skip
        refine pp_aload_n dX7_apart_32 rfl isRf_r (q := 33) rfl ?_
        refine ps_get dX7_apart_33 fl_X7_186 (by first | exact h1.1 | exact h.1) rfl rfl (q := 36) rfl ?_
        rw [show gI (apG g a b x) (40, 0, 0) 13 = nI a from rfl]
        refine pp_goto (tgt := 55) dX7_apart_36 (by decide) ?_
        refine ri_ret dX7_apart_55 rfl rfl ?_
        have hq := hq 0
        unfold apV at hq
        first
          | (rw [if_pos c29] at hq; exact mq_inrE hR apG_m h1 hq)
          | (rw [if_neg c29, if_pos c41] at hq; exact mq_inrE hR apG_m h1 hq)
          | (rw [if_neg c29, if_neg c41] at hq; exact mq_inrE hR apG_m h1 hq)
    · obtain ⟨e2, e3⟩ : apO (runA (sH S)) = none ∧ g20 = g := by
        rcases h20 with ⟨-, q⟩ | ⟨e1, -⟩
        · exact q
        · exact absurd (e1.symm.trans c23) (by decide)
      subst e3
      refine pp_iconst dX7_apart_26 ci_m1 (q := 27) rfl ?_
      refine ri_ret dX7_apart_27 rfl rfl ?_
      exact mq_inr hR (by unfold qApart; rw [cIf_t ⟨v, hv, rfl⟩, e2]; rfl)
  · have hi := isB_f hb6 c9
    refine pp_aload_n dX7_apart_12 rfl isRf_r (q := 13) rfl ?_
    refine pp_bipush dX7_apart_13 cb_m9 (q := 15) rfl ?_
    refine ps_callVi dX7_apart_15 lk_X7_132 (by exact (by first | exact h1.1 | exact h.1)) (by rfl) (by rfl) (by rfl) (m_no9 h.1) (by rfl) (by exact Nat.le_of_ble_eq_true rfl) (by decide) (by decide) (by exact Nat.le_of_ble_eq_true rfl) (q := 18) rfl (fun r15 g15 h15 => ?_)
    obtain ⟨rfl, rfl⟩ := And.intro h15.1.symm h15.2.symm
    refine ri_ret dX7_apart_18 rfl rfl ?_
    exact mq_inl hR (by unfold isW; omega) (cIf_f hi)
