def nxS (A : AW) (m : Nat) : AW := if nxO (A.1 m) = none then tlA (aSet A m (meMkR m (A.1 m))) (nI 11) else A
theorem mix_eq {K R r0 : Nat → Int32} {m : Nat} {sd : Int64} (h : ∀ j x, (sel (gsel K m (-1)) 64)[j]? = some x → r0 j = nI x) : (shl ((sel (gsel K m (-1)) 64).length - 1) (r0, sd)).2 = (mkR K R m sd).2 ∧ ∀ j, j < (sel (gsel K m (-1)) 64).length → (shl ((sel (gsel K m (-1)) 64).length - 1) (r0, sd)).1 j = (mkR K R m sd).1 j := by
  unfold mkR
  by_cases e : (sel (gsel K m (-1)) 64).length = 0
  · rw [e]
    exact ⟨rfl, fun j hj => by omega⟩
  · exact shl_congr (n := (sel (gsel K m (-1)) 64).length) (by omega) (fun j hj => (h j _ (List.getElem?_eq_getElem hj)).trans (wl_at (List.getElem?_eq_getElem hj)).symm)
theorem l_nxc {ad : Nm → Nat} {g0 : Sg} {A : AW} {M : Me} {r : Nat → Int32} {n m L : Nat} {o : Prop} {v2 : Int32} {Q : Option Value → PH → Prop} (hmb : m < 64) (hM : M.1 1 = nI 1) (hL : L ≤ 64) (hk : ∀ g', RS g' (aSet A m (meSI (meSI (meRo M r L) 14 (nI L)) 15 (nI 0))) n o → EqM g0 g' → ∀ z, gI g' (40, 0, 0) 11 = nI L → PP mX7_nextOf 76 [some (.ref (ad (40, 0, 0))), some (.int (nI m)), some (.int v2), z] [] (Rel ad g') Q) : ∀ (j i : Nat) (g : Sg), L - i < j → i ≤ L → RS g (aSet A m (meRo M r i)) n o → EqM g0 g → gA g (48, 0, 0) = r → gI g (40, 0, 0) 11 = nI L → (∀ j, j < i → gA g (41, 0, 0) (20928 + 64 * m + j) = r j) → PP mX7_nextOf 23 [some (.ref (ad (40, 0, 0))), some (.int (nI m)), some (.int v2), some (.int (nI i))] [] (Rel ad g) Q := by
  intro j
  induction j with
  | zero => intro i g h; omega
  | succ j ih =>
    intro i g hij hik h hE hr h11 hf
    by_cases e : i = L
    · subst e
      exact s_nxe h hmb hM hL h11 hf (fun g' h' hE' z h11' => hk g' h' (hE.tr hE') z h11')
    · exact s_nxc h hmb hM (by omega) hL hr h11 hf (fun g' h' hE' hr' h11' hf' => ih (i + 1) g' (by omega) (by omega) h' (hE.tr hE') hr' h11' hf')
theorem tl_set {A : AW} {m : Nat} {M : Me} {v : Int32} : aSet (tlA A v) m M = tlA (aSet A m M) v := rfl
set_option maxRecDepth 20000 in
set_option maxHeartbeats 4000000 in
theorem m_nxt1 {ad : Nm → Nat} {g : Sg} {A : AW} {n m : Nat} {o : Prop} {i : Nat} (h : RS g A n o) (hmb : m < 64) (hd : mdA A m) (hw : wfR m (A.1 m)) (ho : nxO (A.1 m) = some i) : PS mX7_nextOf 0 (ent mX7_nextOf [.ref (ad (40, 0, 0)), .int (nI m)]) [] ad g (Ri (fun v g' => v = atR (((nxS A m).1 m).2.2 36) (nxO ((nxS A m).1 m)) ∧ RS g' (aSet (nxS A m) m (meStp ((nxS A m).1 m) (nxO ((nxS A m).1 m)))) n o ∧ EqM g g')) := by
  obtain ⟨N, hn1, hn2, hin⟩ := nxO_lt hw ho
  show PP mX7_nextOf 0 [some (.ref (ad (40, 0, 0))), some (.int (nI m)), none, none] [] (Rel ad g) _
  refine pp_aload_n dX7_nextOf_0 rfl isRf_r (q := 1) rfl ?_
  refine pp_iload_n dX7_nextOf_1 rfl (q := 2) rfl ?_
  refine ps_callVi dX7_nextOf_2 lk_X7_109 (by exact (by first | exact h1.1 | exact h.1)) (by rfl) (by rfl) (by rfl) (m_still h hmb hd hw) (by rfl) (by exact Nat.le_of_ble_eq_true rfl) (by decide) (by decide) (by exact Nat.le_of_ble_eq_true rfl) (q := 5) rfl (fun r2 g2 h2 => ?_)
  obtain ⟨rfl, rfl⟩ := And.intro h2.1.symm h2.2.symm
  rw [ho]
  change PP mX7_nextOf 5 _ [Value.int (nI i)] _ _
  refine pp_istore_n dX7_nextOf_5 (by decide) (ls1_2 (nl1 rfl)) (q := 6) rfl ?_
  refine pp_iload_n dX7_nextOf_6 rfl (q := 7) rfl ?_
  refine pp_if_ge (tgt := 87) dX7_nextOf_7 (by decide) (q := 10) rfl (fun c7 => ?_) (fun c7 => absurd (nI_pos' (by omega)) c7)
  refine pp_aload_n dX7_nextOf_87 rfl isRf_r (q := 88) rfl ?_
  refine pp_iload_n dX7_nextOf_88 rfl (q := 89) rfl ?_
  refine pp_bipush dX7_nextOf_89 cb_6 (q := 91) rfl ?_
  refine pp_iload_n dX7_nextOf_91 rfl (q := 92) rfl ?_
  refine pp_iconst dX7_nextOf_92 ci_1 (q := 93) rfl ?_
  refine pp_iadd dX7_nextOf_93 (q := 94) rfl ?_
  rw [nI_add]
  refine ps_callVv dX7_nextOf_94 lk_X7_63 (by exact (by first | exact h1.1 | exact h.1)) (by rfl) (by rfl) (by rfl) (m_to6 h hmb hd) (by rfl) (by exact Nat.le_of_ble_eq_true rfl) (by decide) (by decide) (by exact Nat.le_of_ble_eq_true rfl) (q := 97) rfl (fun g94 h94 => ?_)
  obtain ⟨h1, hE1⟩ := h94
  have ho1 := h1.2.o hmb (by unfold mdA; rw [aSet_m]; exact hd)
  rw [aSet_m] at ho1
  refine pp_aload_n dX7_nextOf_97 rfl isRf_r (q := 98) rfl ?_
  refine ps_get dX7_nextOf_98 fl_X7_8 (by first | exact h1.1 | exact h.1) rfl rfl (q := 101) rfl ?_
  refine pp_sipush dX7_nextOf_101 cs_20928 (q := 104) rfl ?_
  refine pp_bipush dX7_nextOf_104 cb_64 (q := 106) rfl ?_
  refine pp_iload_n dX7_nextOf_106 rfl (q := 107) rfl ?_
  refine pp_imul dX7_nextOf_107 (q := 108) rfl ?_
  try rw [pk_mul]
  refine pp_iadd dX7_nextOf_108 (q := 109) rfl ?_
  try rw [nI_add]
  refine pp_iload_n dX7_nextOf_109 rfl (q := 110) rfl ?_
  refine pp_iadd dX7_nextOf_110 (q := 111) rfl ?_
  try rw [nI_add]
  refine ps_iald dX7_nextOf_111 (by first | exact h1.1 | exact h.1) rfl rfl (by omega) (by decide) (q := 112) rfl ?_
  rw [ho1.2.2.2 i (by show i < cl ((A.1 m).1 14); rw [hn1, cl_nI (by omega)]; exact hin) (by omega)]
  refine ri_ret dX7_nextOf_112 rfl rfl ?_
  have e : nxS A m = A := by unfold nxS; rw [if_neg (by rw [ho]; intro q; cases q)]
  rw [e, ho]
  exact ⟨rfl, h1, hE1⟩
set_option maxRecDepth 20000 in
set_option maxHeartbeats 4000000 in
theorem t_nx0 {ad : Nm → Nat} {g : Sg} {A : AW} {n m : Nat} {o : Prop} (h : RS g A n o) (h11 : gI g (40, 0, 0) 11 = nI 0) (ho : nxO (A.1 m) = none) (z : Option Value) : PS mX7_nextOf 76 [some (.ref (ad (40, 0, 0))), some (.int (nI m)), some (.int (-1)), z] [] ad g (Ri (fun v g' => v = atR ((A.1 m).2.2 36) (nxO (A.1 m)) ∧ RS g' (aSet A m (meStp (A.1 m) (nxO (A.1 m)))) n o ∧ EqM g g')) := by
  refine pp_aload_n dX7_nextOf_76 rfl isRf_r (q := 77) rfl ?_
  refine ps_get dX7_nextOf_77 fl_X7_96 h.1 rfl rfl (q := 80) rfl ?_
  rw [h11]
  refine pp_if_ne (tgt := 85) dX7_nextOf_80 (by decide) (q := 83) rfl (fun c80 => absurd rfl c80) (fun c80 => ?_)
  refine pp_iconst dX7_nextOf_83 ci_m1 (q := 84) rfl ?_
  refine ri_ret dX7_nextOf_84 rfl rfl ?_
  rw [ho]
  refine ⟨rfl, ?_, EqM.rf⟩
  show RS g (aSet A m (A.1 m)) n o
  rw [aSet_self]
  exact h
set_option maxRecDepth 20000 in
set_option maxHeartbeats 4000000 in
theorem t_nx1 {ad : Nm → Nat} {g : Sg} {A : AW} {n m : Nat} {o : Prop} {L : Nat} (h : RS g A n o) (hmb : m < 64) (hd : mdA A m) (h11 : gI g (40, 0, 0) 11 = nI L) (hL : 1 ≤ L ∧ L ≤ 64) (hN : (A.1 m).1 14 = nI L) (ho : nxO (A.1 m) = some 0) (z : Option Value) : PS mX7_nextOf 76 [some (.ref (ad (40, 0, 0))), some (.int (nI m)), some (.int (-1)), z] [] ad g (Ri (fun v g' => v = atR ((A.1 m).2.2 36) (nxO (A.1 m)) ∧ RS g' (aSet A m (meStp (A.1 m) (nxO (A.1 m)))) n o ∧ EqM g g')) := by
  refine pp_aload_n dX7_nextOf_76 rfl isRf_r (q := 77) rfl ?_
  refine ps_get dX7_nextOf_77 fl_X7_96 (by first | exact h1.1 | exact h.1) rfl rfl (q := 80) rfl ?_
  rw [h11]
  refine pp_if_ne (tgt := 85) dX7_nextOf_80 (by decide) (q := 83) rfl (fun c80 => ?_) (fun c80 => absurd c80 (fun q => by have := eqT (b := 0) q (by omega) (by omega); omega))
  refine pp_iconst dX7_nextOf_85 ci_0 (q := 86) rfl ?_
  refine pp_istore_n dX7_nextOf_86 (by decide) (ls1_2 (nl1 rfl)) (q := 87) rfl ?_
  refine pp_aload_n dX7_nextOf_87 rfl isRf_r (q := 88) rfl ?_
  refine pp_iload_n dX7_nextOf_88 rfl (q := 89) rfl ?_
  refine pp_bipush dX7_nextOf_89 cb_6 (q := 91) rfl ?_
  refine pp_iload_n dX7_nextOf_91 rfl (q := 92) rfl ?_
  refine pp_iconst dX7_nextOf_92 ci_1 (q := 93) rfl ?_
  refine pp_iadd dX7_nextOf_93 (q := 94) rfl ?_
  rw [nI_add]
  refine ps_callVv dX7_nextOf_94 lk_X7_63 (by exact (by first | exact h1.1 | exact h.1)) (by rfl) (by rfl) (by rfl) (m_to6 h hmb hd) (by rfl) (by exact Nat.le_of_ble_eq_true rfl) (by decide) (by decide) (by exact Nat.le_of_ble_eq_true rfl) (q := 97) rfl (fun g94 h94 => ?_)
  obtain ⟨h1, hE1⟩ := h94
  have ho1 := h1.2.o hmb (by unfold mdA; rw [aSet_m]; exact hd)
  rw [aSet_m] at ho1
  refine pp_aload_n dX7_nextOf_97 rfl isRf_r (q := 98) rfl ?_
  refine ps_get dX7_nextOf_98 fl_X7_8 (by first | exact h1.1 | exact h.1) rfl rfl (q := 101) rfl ?_
  refine pp_sipush dX7_nextOf_101 cs_20928 (q := 104) rfl ?_
  refine pp_bipush dX7_nextOf_104 cb_64 (q := 106) rfl ?_
  refine pp_iload_n dX7_nextOf_106 rfl (q := 107) rfl ?_
  refine pp_imul dX7_nextOf_107 (q := 108) rfl ?_
  try rw [pk_mul]
  refine pp_iadd dX7_nextOf_108 (q := 109) rfl ?_
  try rw [nI_add]
  refine pp_iload_n dX7_nextOf_109 rfl (q := 110) rfl ?_
  refine pp_iadd dX7_nextOf_110 (q := 111) rfl ?_
  rw [nI_add]
  refine ps_iald (j := 20928 + 64 * m + 0) dX7_nextOf_111 (by first | exact h1.1 | exact h.1) rfl rfl (by omega) (by decide) (q := 112) rfl ?_
  rw [ho1.2.2.2 0 (by show 0 < cl ((A.1 m).1 14); rw [hN, cl_nI (by omega)]; omega) (by omega)]
  refine ri_ret dX7_nextOf_112 rfl rfl ?_
  rw [ho]
  exact ⟨rfl, h1, hE1⟩
set_option maxRecDepth 20000 in
set_option maxHeartbeats 4000000 in
theorem m_nxt0 {ad : Nm → Nat} {g : Sg} {A : AW} {n m : Nat} {o : Prop} (h : RS g A n o) (hmb : m < 64) (hd : mdA A m) (hw : wfR m (A.1 m)) (ho : nxO (A.1 m) = none) : PS mX7_nextOf 0 (ent mX7_nextOf [.ref (ad (40, 0, 0)), .int (nI m)]) [] ad g (Ri (fun v g' => v = atR (((nxS A m).1 m).2.2 36) (nxO ((nxS A m).1 m)) ∧ RS g' (aSet (nxS A m) m (meStp ((nxS A m).1 m) (nxO ((nxS A m).1 m)))) n o ∧ EqM g g')) := by
  show PP mX7_nextOf 0 [some (.ref (ad (40, 0, 0))), some (.int (nI m)), none, none] [] (Rel ad g) _
  refine pp_aload_n dX7_nextOf_0 rfl isRf_r (q := 1) rfl ?_
  refine pp_iload_n dX7_nextOf_1 rfl (q := 2) rfl ?_
  refine ps_callVi dX7_nextOf_2 lk_X7_109 (by exact (by first | exact h2.1 | exact h1.1 | exact h.1)) (by rfl) (by rfl) (by rfl) (m_still h hmb hd hw) (by rfl) (by exact Nat.le_of_ble_eq_true rfl) (by decide) (by decide) (by exact Nat.le_of_ble_eq_true rfl) (q := 5) rfl (fun r2 g2 h2 => ?_)
  obtain ⟨rfl, rfl⟩ := And.intro h2.1.symm h2.2.symm
  rw [ho]
  refine pp_istore_n dX7_nextOf_5 (by decide) (ls1_2 (nl1 rfl)) (q := 6) rfl ?_
  refine pp_iload_n dX7_nextOf_6 rfl (q := 7) rfl ?_
  refine pp_if_ge (tgt := 87) dX7_nextOf_7 (by decide) (q := 10) rfl (fun c7 => absurd c7 (by decide)) (fun c7 => ?_)
  refine pp_aload_n dX7_nextOf_10 rfl isRf_r (q := 11) rfl ?_
  refine pp_iload_n dX7_nextOf_11 rfl (q := 12) rfl ?_
  refine ps_callVv dX7_nextOf_12 lk_X7_112 (by exact (by first | exact h2.1 | exact h1.1 | exact h.1)) (by rfl) (by rfl) (by rfl) (m_mix h hmb hd) (by rfl) (by exact Nat.le_of_ble_eq_true rfl) (by decide) (by decide) (by exact Nat.le_of_ble_eq_true rfl) (q := 15) rfl (fun g12 h12 => ?_)
  obtain ⟨r0, hr0, h1, hr1, h11, hE1⟩ := h12
  obtain ⟨hq1, hq2⟩ := mix_eq (K := (A.1 m).2.2 31) (R := (A.1 m).2.2 36) (m := m) (sd := (A.1 m).2.1) hr0
  refine pp_aload_n dX7_nextOf_15 rfl isRf_r (q := 16) rfl ?_
  refine pp_bipush dX7_nextOf_16 cb_11 (q := 18) rfl ?_
  refine ps_callVv dX7_nextOf_18 lk_X7_59 (by exact (by first | exact h2.1 | exact h1.1 | exact h.1)) (by rfl) (by rfl) (by rfl) (m_ran h1.1 (by omega)) (by rfl) (by exact Nat.le_of_ble_eq_true rfl) (by decide) (by decide) (by exact Nat.le_of_ble_eq_true rfl) (q := 21) rfl (fun g18 h18 => ?_)
  have h2 : RS g18 (tlA (aSet A m (meSJ (A.1 m) (shl ((sel (gsel ((A.1 m).2.2 31) m (-1)) 64).length - 1) (r0, (A.1 m).2.1)).2)) (nI 11)) n o ∧ EqM g12 g18 ∧ gA g18 (48, 0, 0) = gA g12 (48, 0, 0) ∧ gI g18 (40, 0, 0) = gI g12 (40, 0, 0) := by
    subst h18
    exact ⟨⟨h1.1, RF_ran h1.2 (by omega)⟩, EqM.rf.sA ms41, rfl, rfl⟩
  obtain ⟨h2, hE2, hr2, hi2⟩ := h2
  refine pp_iconst dX7_nextOf_21 ci_0 (q := 22) rfl ?_
  refine pp_istore_n dX7_nextOf_22 (by decide) (ls1_3 (nl1 rfl)) (q := 23) rfl ?_
  have hle := sel_le (gsel ((A.1 m).2.2 31) m (-1)) 64
  have eS : nxS A m = tlA (aSet A m (meMkR m (A.1 m))) (nI 11) := by unfold nxS; rw [if_pos ho]
  have hmk := nxO_mk (m := m) (M := A.1 m)
  rw [eS]
  refine l_nxc (g0 := g) (A := tlA (aSet A m (meSJ (A.1 m) (shl ((sel (gsel ((A.1 m).2.2 31) m (-1)) 64).length - 1) (r0, (A.1 m).2.1)).2)) (nI 11)) (M := meSJ (A.1 m) (shl ((sel (gsel ((A.1 m).2.2 31) m (-1)) 64).length - 1) (r0, (A.1 m).2.1)).2) (r := (shl ((sel (gsel ((A.1 m).2.2 31) m (-1)) 64).length - 1) (r0, (A.1 m).2.1)).1) (n := n) (o := o) (L := (sel (gsel ((A.1 m).2.2 31) m (-1)) 64).length) hmb hd hle (fun g3 h3 hE3 z h113 => ?_) ((sel (gsel ((A.1 m).2.2 31) m (-1)) 64).length + 1) 0 g18 (by omega) (by omega) (by rw [meRo_0, tl_set, aSet_aSet]; exact h2) (hE1.tr hE2) (hr2.trans hr1) (by rw [hi2]; exact h11) (fun j hj => absurd hj (Nat.not_lt_zero j))
  rw [tl_set, aSet_aSet, ← tl_set] at h3
  have h4 : RS g3 (aSet (tlA A (nI 11)) m (meMkR m (A.1 m))) n o := h3.sim hmb hd (fun q => RFo_sim q rfl rfl rfl rfl rfl rfl rfl hq1.symm (fun k a b => by show (if k = 36 then _ else _) = (if k = 36 then _ else _); rw [if_neg (by omega), if_neg (by omega)]; rfl) (fun j a b => by
    have a2 : j < cl (nI (sel (gsel ((A.1 m).2.2 31) m (-1)) 64).length) := a
    rw [cl_nI (by omega)] at a2
    show (mkR ((A.1 m).2.2 31) ((A.1 m).2.2 36) m (A.1 m).2.1).1 j = (if j < (sel (gsel ((A.1 m).2.2 31) m (-1)) 64).length then (shl ((sel (gsel ((A.1 m).2.2 31) m (-1)) 64).length - 1) (r0, (A.1 m).2.1)).1 j else _)
    rw [if_pos a2]
    exact (hq2 j a2).symm)) hd
  rw [tl_set] at h4
  have hM4 : (tlA (aSet A m (meMkR m (A.1 m))) (nI 11)).1 m = meMkR m (A.1 m) := aSet_m
  have hd4 : mdA (tlA (aSet A m (meMkR m (A.1 m))) (nI 11)) m := by unfold mdA; rw [hM4]; exact hd
  by_cases e0 : (sel (gsel ((A.1 m).2.2 31) m (-1)) 64).length = 0
  · rw [e0] at h113
    refine (t_nx0 (A := tlA (aSet A m (meMkR m (A.1 m))) (nI 11)) h4 h113 (by rw [hM4, hmk, if_pos e0]) z).weak (fun v G hG => ?_)
    obtain ⟨g', k1, r, k2, k3, k4, k5⟩ := hG
    exact ⟨g', k1, r, k2, k3, k4, hE3.tr k5⟩
  · refine (t_nx1 (A := tlA (aSet A m (meMkR m (A.1 m))) (nI 11)) h4 hmb hd4 h113 ⟨by omega, hle⟩ (by rw [hM4]; rfl) (by rw [hM4, hmk, if_neg e0]) z).weak (fun v G hG => ?_)
    obtain ⟨g', k1, r, k2, k3, k4, k5⟩ := hG
    exact ⟨g', k1, r, k2, k3, k4, hE3.tr k5⟩
theorem m_nextOf {ad : Nm → Nat} {g : Sg} {A : AW} {n m : Nat} {o : Prop} (h : RS g A n o) (hmb : m < 64) (hd : mdA A m) (hw : wfR m (A.1 m)) : PS mX7_nextOf 0 (ent mX7_nextOf [.ref (ad (40, 0, 0)), .int (nI m)]) [] ad g (Ri (fun v g' => v = atR (((nxS A m).1 m).2.2 36) (nxO ((nxS A m).1 m)) ∧ RS g' (aSet (nxS A m) m (meStp ((nxS A m).1 m) (nxO ((nxS A m).1 m)))) n o ∧ EqM g g')) := by
  cases ho : nxO (A.1 m) with
  | none => exact m_nxt0 h hmb hd hw ho
  | some i => exact m_nxt1 h hmb hd hw ho
def shR (r : Nat → Int32) (k i : Nat) : Nat → Int32 := fun j => if k ≤ j ∧ j < i then r (j + 1) else r j
theorem shR_0 {r : Nat → Int32} {k : Nat} : shR r k k = r := by
  funext j
  unfold shR
  rw [if_neg (by omega)]
theorem shR_s {r : Nat → Int32} {k i : Nat} (h : k ≤ i) : upd (shR r k i) i (shR r k i (i + 1)) = shR r k (i + 1) := by
  funext j
  unfold upd shR
  by_cases e : j = i
  · subst e
    rw [if_pos rfl, if_neg (by omega), if_pos (by omega)]
  · rw [if_neg e]
    by_cases q : k ≤ j ∧ j < i
    · rw [if_pos q, if_pos (by omega)]
    · rw [if_neg q, if_neg (by omega)]
set_option maxRecDepth 20000 in
set_option maxHeartbeats 4000000 in
theorem l_shf {ad : Nm → Nat} {g : Sg} {m L k : Nat} {b2 kind ab v5 v6 v7 : Int32} {r : Nat → Int32} {Q : Option Value → PH → Prop} (hm : al g (40, 0, 0)) (h11 : gI g (40, 0, 0) 11 = nI L) (hL : L < 64) (hk : PP mX7_sendsThree 87 [some (.ref (ad (40, 0, 0))), some (.int (nI m)), some (.int b2), some (.int kind), some (.int ab), some (.int v5), some (.int v6), some (.int v7), some (.int (nI L))] [] (Rel ad (sA g (48, 0, 0) (shR r k L))) Q) : ∀ (j i : Nat), L - i < j → i ≤ L → k ≤ i → PP mX7_sendsThree 56 [some (.ref (ad (40, 0, 0))), some (.int (nI m)), some (.int b2), some (.int kind), some (.int ab), some (.int v5), some (.int v6), some (.int v7), some (.int (nI i))] [] (Rel ad (sA g (48, 0, 0) (shR r k i))) Q := by
  intro j
  induction j with
  | zero => intro i h; omega
  | succ j ih =>
    intro i hij hik hki
    refine pp_iload dX7_sendsThree_56 rfl (q := 58) rfl ?_
    refine pp_aload_n dX7_sendsThree_58 rfl isRf_r (q := 59) rfl ?_
    refine ps_get dX7_sendsThree_59 fl_X7_96 hm rfl rfl (q := 62) rfl ?_
    rw [show gI (sA g (48, 0, 0) (shR r k i)) (40, 0, 0) 11 = nI L from h11]
    refine pp_icmp_ge (tgt := 87) dX7_sendsThree_62 (by decide) (q := 65) rfl (fun c62 => ?_) (fun c62 => ?_)
    · have e : i = L := by have := leT c62 (by omega) (by omega); omega
      subst e
      exact hk
    · have hlt := leF c62 (by omega) (by omega)
      refine pp_aload_n dX7_sendsThree_65 rfl isRf_r (q := 66) rfl ?_
      refine ps_get dX7_sendsThree_66 fl_X7_33 hm rfl rfl (q := 69) rfl ?_
      refine pp_iload dX7_sendsThree_69 rfl (q := 71) rfl ?_
      refine pp_aload_n dX7_sendsThree_71 rfl isRf_r (q := 72) rfl ?_
      refine ps_get dX7_sendsThree_72 fl_X7_33 hm rfl rfl (q := 75) rfl ?_
      refine pp_iload dX7_sendsThree_75 rfl (q := 77) rfl ?_
      refine pp_iconst dX7_sendsThree_77 ci_1 (q := 78) rfl ?_
      refine pp_iadd dX7_sendsThree_78 (q := 79) rfl ?_
      try rw [nI_add]
      refine ps_iald (j := i + 1) dX7_sendsThree_79 hm rfl rfl (by omega) (by decide) (q := 80) rfl ?_
      refine ps_iast (j := i) dX7_sendsThree_80 hm (fun _ => rfl) rfl (by omega) (by decide) (q := 81) rfl ?_
      rw [sA_sA, show gA (sA g (48, 0, 0) (shR r k i)) (48, 0, 0) = shR r k i from rfl, shR_s (by omega)]
      refine pp_iinc dX7_sendsThree_81 rfl (nI_1 _) (ls1_8 (nl1 rfl)) (q := 84) rfl ?_
      refine pp_goto (tgt := 56) dX7_sendsThree_84 (by decide) ?_
      exact ih (i + 1) (by omega) (by omega) (by omega)
theorem row_er {g : Sg} {l : List Nat} {a : Nat} (h : rowL g l) (ha : a < l.length) : rowL (sA (sI g (40, 0, 0) 11 (nI (l.length - 1))) (48, 0, 0) (shR (gA g (48, 0, 0)) a (l.length - 1))) (l.eraseIdx a) := by
  refine ⟨?_, fun j x hx => ?_⟩
  · show gI (sI g (40, 0, 0) 11 (nI (l.length - 1))) (40, 0, 0) 11 = _
    rw [gI_sI, if_pos ⟨rfl, rfl⟩, List.length_eraseIdx, if_pos ha]
  · have hlt := lt_of_getE hx
    rw [List.length_eraseIdx, if_pos ha] at hlt
    rw [List.getElem?_eraseIdx] at hx
    show shR (gA g (48, 0, 0)) a (l.length - 1) j = nI x
    unfold shR
    split at hx
    · rw [if_neg (by omega)]
      exact h.2 j x hx
    · rw [if_pos (by omega)]
      exact h.2 (j + 1) x hx
set_option maxRecDepth 20000 in
set_option maxHeartbeats 4000000 in
theorem s_s3a {ad : Nm → Nat} {g : Sg} {A : AW} {n m i : Nat} {b2 kind ab : Int32} {l : List Nat} {Q : Option Value → PH → Prop} (h : RS g A n False) (hmb : m < 64) (hd : mdA A m) (hL : rowL g l) (hl1 : 1 ≤ l.length) (hl : l.length ≤ 64) (hi : i < 3) (hk : ∀ g', RS g' (aSet A m (meSJ (A.1 m) (stir (A.1 m).2.1))) n False → EqM g g' → rowL g' (l.eraseIdx (drN (stir (A.1 m).2.1) l.length)) → ∀ z6 z8 : Option Value, ∀ _u : Unit, PP mX7_sendsThree 87 [some (.ref (ad (40, 0, 0))), some (.int (nI m)), some (.int b2), some (.int kind), some (.int ab), some (.int (nI i)), z6, some (.int (nI (l.getD (drN (stir (A.1 m).2.1) l.length) 0))), z8] [] (Rel ad g') Q) {x y z : Option Value} : PP mX7_sendsThree 9 [some (.ref (ad (40, 0, 0))), some (.int (nI m)), some (.int b2), some (.int kind), some (.int ab), some (.int (nI i)), x, y, z] [] (Rel ad g) Q := by
  refine pp_iload dX7_sendsThree_9 rfl (q := 11) rfl ?_
  refine pp_iconst dX7_sendsThree_11 ci_3 (q := 12) rfl ?_
  refine pp_icmp_ge (tgt := 105) dX7_sendsThree_12 (by decide) (q := 15) rfl (fun c12 => absurd c12 (nI_ge hi (by decide))) (fun c12 => ?_)
  refine pp_aload_n dX7_sendsThree_15 rfl isRf_r (q := 16) rfl ?_
  refine ps_get dX7_sendsThree_16 fl_X7_96 (by first | exact h1.1 | exact h.1) rfl rfl (q := 19) rfl ?_
  rw [hL.1]
  refine pp_if_le (tgt := 105) dX7_sendsThree_19 (by decide) (q := 22) rfl (fun c19 => absurd c19 (fun q => by have := leT (b := 0) q (by omega) (by omega); omega)) (fun c19 => ?_)
  refine pp_aload_n dX7_sendsThree_22 rfl isRf_r (q := 23) rfl ?_
  refine pp_iload_n dX7_sendsThree_23 rfl (q := 24) rfl ?_
  refine pp_aload_n dX7_sendsThree_24 rfl isRf_r (q := 25) rfl ?_
  refine ps_get dX7_sendsThree_25 fl_X7_96 (by first | exact h1.1 | exact h.1) rfl rfl (q := 28) rfl ?_
  rw [hL.1]
  refine ps_callVi dX7_sendsThree_28 lk_X7_106 (by exact (by first | exact h1.1 | exact h.1)) (by rfl) (by rfl) (by rfl) (m_dr h hmb hd (by omega) (by omega)) (by rfl) (by exact Nat.le_of_ble_eq_true rfl) (by decide) (by decide) (by exact Nat.le_of_ble_eq_true rfl) (q := 31) rfl (fun r28 g28 h28 => ?_)
  obtain ⟨rfl, h1, rfl⟩ := h28
  have hdr := drN_lt (stir (A.1 m).2.1) (n := l.length) (by omega)
  have hL1 : rowL (sB g (43, 0, 0) (vp_updL (gB g (43, 0, 0)) m (stir (gB g (43, 0, 0) m)))) l := hL
  have hget := List.getElem?_eq_getElem hdr
  have hgd : l.getD (drN (stir (A.1 m).2.1) l.length) 0 = l[(drN (stir (A.1 m).2.1) l.length)] := by rw [List.getD_eq_getElem?_getD, hget]; rfl
  refine pp_istore dX7_sendsThree_31 (by decide) (ls1_6 (nl1 rfl)) (q := 33) rfl ?_
  refine pp_aload_n dX7_sendsThree_33 rfl isRf_r (q := 34) rfl ?_
  refine ps_get dX7_sendsThree_34 fl_X7_33 (by first | exact h1.1 | exact h.1) rfl rfl (q := 37) rfl ?_
  refine pp_iload dX7_sendsThree_37 rfl (q := 39) rfl ?_
  refine ps_iald (j := (drN (stir (A.1 m).2.1) l.length)) dX7_sendsThree_39 (by first | exact h1.1 | exact h.1) rfl rfl (by omega) (by decide) (q := 40) rfl ?_
  rw [hL1.2 (drN (stir (A.1 m).2.1) l.length) _ hget]
  refine pp_istore dX7_sendsThree_40 (by decide) (ls1_7 (nl1 rfl)) (q := 42) rfl ?_
  refine pp_aload_n dX7_sendsThree_42 rfl isRf_r (q := 43) rfl ?_
  refine pp_dup dX7_sendsThree_43 rfl (q := 44) rfl ?_
  refine ps_get dX7_sendsThree_44 fl_X7_96 (by first | exact h1.1 | exact h.1) rfl rfl (q := 47) rfl ?_
  rw [hL1.1]
  refine pp_iconst dX7_sendsThree_47 ci_1 (q := 48) rfl ?_
  refine pp_isub dX7_sendsThree_48 (q := 49) rfl ?_
  rw [nI_sb (by omega)]
  refine ps_puti dX7_sendsThree_49 fl_X7_96 (by first | exact h1.1 | exact h.1) rfl (by exact Nat.le_of_ble_eq_true rfl) rfl rfl rfl (q := 52) rfl ?_
  refine pp_iload dX7_sendsThree_52 rfl (q := 54) rfl ?_
  refine pp_istore dX7_sendsThree_54 (by decide) (ls1_8 (nl1 rfl)) (q := 56) rfl ?_
  have hsh : sI (sB g (43, 0, 0) (vp_updL (gB g (43, 0, 0)) m (stir (gB g (43, 0, 0) m)))) (40, 0, 0) 11 (nI (l.length - 1)) = sA (sI (sB g (43, 0, 0) (vp_updL (gB g (43, 0, 0)) m (stir (gB g (43, 0, 0) m)))) (40, 0, 0) 11 (nI (l.length - 1))) (48, 0, 0) (shR (gA (sB g (43, 0, 0) (vp_updL (gB g (43, 0, 0)) m (stir (gB g (43, 0, 0) m)))) (48, 0, 0)) (drN (stir (A.1 m).2.1) l.length) (drN (stir (A.1 m).2.1) l.length)) := by
    rw [shR_0]
    exact (sA_id (g := sI (sB g (43, 0, 0) (vp_updL (gB g (43, 0, 0)) m (stir (gB g (43, 0, 0) m)))) (40, 0, 0) 11 (nI (l.length - 1))) (n := (48, 0, 0))).symm
  rw [hsh]
  refine l_shf (g := sI (sB g (43, 0, 0) (vp_updL (gB g (43, 0, 0)) m (stir (gB g (43, 0, 0) m)))) (40, 0, 0) 11 (nI (l.length - 1))) (L := l.length - 1) h.1 (by rw [gI_sI, if_pos ⟨rfl, rfl⟩]) (by omega) ?_ (l.length + 1) (drN (stir (A.1 m).2.1) l.length) (by omega) (by omega) (Nat.le_refl _)
  have hEx : EqX (fun n => n.1 = 48 ∨ n.1 = 40) (sB g (43, 0, 0) (vp_updL (gB g (43, 0, 0)) m (stir (gB g (43, 0, 0) m)))) (sA (sI (sB g (43, 0, 0) (vp_updL (gB g (43, 0, 0)) m (stir (gB g (43, 0, 0) m)))) (40, 0, 0) 11 (nI (l.length - 1))) (48, 0, 0) (shR (gA (sB g (43, 0, 0) (vp_updL (gB g (43, 0, 0)) m (stir (gB g (43, 0, 0) m)))) (48, 0, 0)) (drN (stir (A.1 m).2.1) l.length) (l.length - 1))) := (EqX.rf.sI (Or.inr rfl)).sA (Or.inl rfl)
  have h2 := EqX.rs hEx (fun n q => by omega) h1
  have hE2 : EqM g (sA (sI (sB g (43, 0, 0) (vp_updL (gB g (43, 0, 0)) m (stir (gB g (43, 0, 0) m)))) (40, 0, 0) 11 (nI (l.length - 1))) (48, 0, 0) (shR (gA (sB g (43, 0, 0) (vp_updL (gB g (43, 0, 0)) m (stir (gB g (43, 0, 0) m)))) (48, 0, 0)) (drN (stir (A.1 m).2.1) l.length) (l.length - 1))) := ((EqM.rf.sB ms43).sI (Or.inl rfl)).sA ms48
  have hL2 := row_er hL1 hdr
  rw [← hgd]
  exact hk _ h2 hE2 hL2 _ _ ()
set_option maxRecDepth 20000 in
set_option maxHeartbeats 4000000 in
theorem s_s3b {ad : Nm → Nat} {g : Sg} {A : AW} {n m i : Nat} {b2 kind ab v7 : Int32} {l : List Nat} {Q : Option Value → PH → Prop} (h : RS g A n False) (hmb : m < 64) (hd : mdA A m) (hK : ∀ x, x < 64 → ∃ kd, kd ≤ 4 ∧ (A.1 m).2.2 31 x = nI kd) (hlb : bL (aB A) + 1 ≤ 1200) (hpb : bP (aB A) + 64 ≤ 20000) (hL : rowL g l) (hk : ∀ g', RS g' (sndA A m kind v7 ab) n False → EqM g g' → rowL g' l → ∀ x y z, PP mX7_sendsThree 9 [some (.ref (ad (40, 0, 0))), some (.int (nI m)), some (.int b2), some (.int kind), some (.int ab), some (.int (nI (i + 1))), x, y, z] [] (Rel ad g') Q) {z6 z8 : Option Value} : PP mX7_sendsThree 87 [some (.ref (ad (40, 0, 0))), some (.int (nI m)), some (.int b2), some (.int kind), some (.int ab), some (.int (nI i)), z6, some (.int v7), z8] [] (Rel ad g) Q := by
  refine pp_aload_n dX7_sendsThree_87 rfl isRf_r (q := 88) rfl ?_
  refine pp_iload_n dX7_sendsThree_88 rfl (q := 89) rfl ?_
  refine pp_iload dX7_sendsThree_89 rfl (q := 91) rfl ?_
  refine pp_iload_n dX7_sendsThree_91 rfl (q := 92) rfl ?_
  refine pp_iload dX7_sendsThree_92 rfl (q := 94) rfl ?_
  refine ps_callVi dX7_sendsThree_94 lk_X7_89 (by exact (by first | exact h2.1 | exact h.1)) (by rfl) (by rfl) (by rfl) (m_send h hmb hd hK hlb hpb) (by rfl) (by exact Nat.le_of_ble_eq_true rfl) (by decide) (by decide) (by exact Nat.le_of_ble_eq_true rfl) (q := 97) rfl (fun r94 g94 h94 => ?_)
  obtain ⟨rfl, h2, hE2⟩ := h94
  have hL2 : rowL g94 l := ⟨by rw [(hE2.1 (40, 0, 0) (fun q => by unfold sdS at q; simp at q)).1]; exact hL.1, fun j x hx => by rw [(hE2.1 (48, 0, 0) (fun q => by unfold sdS at q; simp at q)).2.2.1]; exact hL.2 j x hx⟩
  refine pp_istore dX7_sendsThree_97 (by decide) (ls1_8 (nl1 rfl)) (q := 99) rfl ?_
  refine pp_iinc dX7_sendsThree_99 rfl (nI_1 _) (ls1_5 (nl1 rfl)) (q := 102) rfl ?_
  refine pp_goto (tgt := 9) dX7_sendsThree_102 (by decide) ?_
  exact hk _ h2 (sdM hE2) hL2 _ _ _
theorem l_s3 {ad : Nm → Nat} {g0 : Sg} {n m N : Nat} {b2 kind ab : Int32} (hmb : m < 64) (ha : isN ab) (hk2 : kind = nI 2 → ¬ ab = -1) : ∀ (c i : Nat) (l : List Nat) (g : Sg) (A : AW), i + c = 3 → RS g A n False → INV N N A → mdA A m → rowL g l → l.length ≤ 64 → (∀ x ∈ l, x < 64) → bL (aB A) + c ≤ 1200 → bP (aB A) + c * 64 ≤ 20000 → EqM g0 g → ∀ x y z, PS mX7_sendsThree 9 [some (.ref (ad (40, 0, 0))), some (.int (nI m)), some (.int b2), some (.int kind), some (.int ab), some (.int (nI i)), x, y, z] [] ad g (Ri (fun v g' => v = nI (i + (sdR m kind ab c l A).2) ∧ RS g' (sdR m kind ab c l A).1 n False ∧ EqM g0 g'))
  | 0, i, l, g, A, hic, h, hI, hd, hL, hll, hx, hlb, hpb, hE => by
    intro x y z
    obtain rfl : i = 3 := by omega
    refine pp_iload dX7_sendsThree_9 rfl (q := 11) rfl ?_
    refine pp_iconst dX7_sendsThree_11 ci_3 (q := 12) rfl ?_
    refine pp_icmp_ge (tgt := 105) dX7_sendsThree_12 (by decide) (q := 15) rfl (fun _ => ?_) (fun c => absurd (nI_le (Nat.le_refl 3) (by decide)) c)
    refine pp_iload dX7_sendsThree_105 rfl (q := 107) rfl ?_
    exact ri_ret dX7_sendsThree_107 rfl rfl ⟨rfl, h, hE⟩
  | c + 1, i, l, g, A, hic, h, hI, hd, hL, hll, hx, hlb, hpb, hE => by
    intro x y z
    by_cases e : l.length = 0
    · refine pp_iload dX7_sendsThree_9 rfl (q := 11) rfl ?_
      refine pp_iconst dX7_sendsThree_11 ci_3 (q := 12) rfl ?_
      refine pp_icmp_ge (tgt := 105) dX7_sendsThree_12 (by decide) (q := 15) rfl (fun c => absurd c (nI_ge (by omega) (by decide))) (fun _ => ?_)
      refine pp_aload_n dX7_sendsThree_15 rfl isRf_r (q := 16) rfl ?_
      refine ps_get dX7_sendsThree_16 fl_X7_96 h.1 rfl rfl (q := 19) rfl ?_
      rw [hL.1, e]
      refine pp_if_le (tgt := 105) dX7_sendsThree_19 (by decide) (q := 22) rfl (fun _ => ?_) (fun c => absurd (by decide) c)
      refine pp_iload dX7_sendsThree_105 rfl (q := 107) rfl ?_
      refine ri_ret dX7_sendsThree_107 rfl rfl ?_
      unfold sdR
      rw [if_pos e]
      exact ⟨rfl, h, hE⟩
    · unfold sdR
      rw [if_neg e]
      have hdr := drN_lt (stir (A.1 m).2.1) (n := l.length) (by omega)
      have h1I : INV N N (aSet A m (meSJ (A.1 m) (stir (A.1 m).2.1))) := hI.set hd (okMm_sj (hI.m hmb hd)) hd
      have hd1 : mdA (aSet A m (meSJ (A.1 m) (stir (A.1 m).2.1))) m := by unfold mdA; rw [aSet_m]; exact hd
      have hget : l.getD (drN (stir (A.1 m).2.1) l.length) 0 < 64 := by
        rw [List.getD_eq_getElem?_getD, List.getElem?_eq_getElem hdr]
        exact hx _ (List.getElem_mem hdr)
      rw [Nat.add_mul, Nat.one_mul] at hpb
      have hpl := pkL_le (aSet A m (meSJ (A.1 m) (stir (A.1 m).2.1))) m (isFl kind)
      have h2I := sndA_INV (kind := kind) (to := nI (l.getD (drN (stir (A.1 m).2.1) l.length) 0)) (ab := ab) h1I hmb hd1 (by show bL (aB A) + 1 ≤ 1200; omega) (by show bP (aB A) + _ ≤ 20000; omega) ⟨_, hget, rfl⟩ ha hk2
      have hkp := sndA_keep (A := aSet A m (meSJ (A.1 m) (stir (A.1 m).2.1))) (m := m) (kind := kind) (to := nI (l.getD (drN (stir (A.1 m).2.1) l.length) 0)) (ab := ab)
      refine s_s3a h hmb hd hL (by omega) hll (by omega) (fun g1 h1 hE1 hL1 z6 z8 _ => ?_)
      refine s_s3b h1 hmb hd1 (fun x hx => ((h1I.m hmb hd1).2.2.2.2.2 x hx).1) (by show bL (aB A) + 1 ≤ 1200; omega) (by show bP (aB A) + 64 ≤ 20000; omega) hL1 (fun g2 h2 hE2 hL2 x y z => ?_)
      have := l_s3 (ad := ad) (g0 := g0) (n := n) (N := N) (b2 := b2) hmb ha hk2 c (i + 1) (l.eraseIdx (drN (stir (A.1 m).2.1) l.length)) g2 _ (by omega) h2 h2I (by unfold mdA; rw [hkp.1]; exact hd1) hL2 (by rw [List.length_eraseIdx, if_pos hdr]; omega) (fun x hx2 => hx x (List.mem_of_mem_eraseIdx hx2)) (by rw [hkp.2.2.2.1]; show bL (aB A) + 1 + c ≤ 1200; omega) (by rw [hkp.2.2.2.2]; show bP (aB A) + _ + c * 64 ≤ 20000; omega) ((hE.tr hE1).tr hE2) x y z
      rw [show i + 1 + (sdR m kind ab c (l.eraseIdx (drN (stir (A.1 m).2.1) l.length)) (sndA (aSet A m (meSJ (A.1 m) (stir (A.1 m).2.1))) m kind (nI (l.getD (drN (stir (A.1 m).2.1) l.length) 0)) ab)).2 = i + ((sdR m kind ab c (l.eraseIdx (drN (stir (A.1 m).2.1) l.length)) (sndA (aSet A m (meSJ (A.1 m) (stir (A.1 m).2.1))) m kind (nI (l.getD (drN (stir (A.1 m).2.1) l.length) 0)) ab)).2 + 1) by omega] at this
      exact this
set_option maxRecDepth 20000 in
set_option maxHeartbeats 4000000 in
theorem m_s3 {ad : Nm → Nat} {g : Sg} {A : AW} {n m N : Nat} {kind ab : Int32} (h : RS g A n False) (hI : INV N N A) (hmb : m < 64) (hd : mdA A m) (ha : isN ab) (hk2 : kind = nI 2 → ¬ ab = -1) (hlb : bL (aB A) + 3 ≤ 1200) (hpb : bP (aB A) + 192 ≤ 20000) : PS mX7_sendsThree 0 (ent mX7_sendsThree [.ref (ad (40, 0, 0)), .int (nI m), .int ab, .int kind, .int ab]) [] ad g (Ri (fun v g' => v = nI (sdA A m kind ab).2 ∧ RS g' (sdA A m kind ab).1 n False ∧ EqM g g')) := by
  show PP mX7_sendsThree 0 [some (.ref (ad (40, 0, 0))), some (.int (nI m)), some (.int ab), some (.int kind), some (.int ab), none, none, none, none] [] (Rel ad g) _
  refine pp_aload_n dX7_sendsThree_0 rfl isRf_r (q := 1) rfl ?_
  refine pp_iload_n dX7_sendsThree_1 rfl (q := 2) rfl ?_
  refine pp_iload_n dX7_sendsThree_2 rfl (q := 3) rfl ?_
  refine ps_callVv dX7_sendsThree_3 lk_X7_103 (by exact h.1) (by rfl) (by rfl) (by rfl) (m_gather (lo := ab) h hmb hd) (by rfl) (by exact Nat.le_of_ble_eq_true rfl) (by decide) (by decide) (by exact Nat.le_of_ble_eq_true rfl) (q := 6) rfl (fun g3 h3 => ?_)
  obtain ⟨hL, hE⟩ := h3
  refine pp_iconst dX7_sendsThree_6 ci_0 (q := 7) rfl ?_
  refine pp_istore dX7_sendsThree_7 (by decide) (ls1_5 (nl1 rfl)) (q := 9) rfl ?_
  have hle := sel_le (gsel ((A.1 m).2.2 31) m ab) 64
  have := l_s3 (ad := ad) (g0 := g) (n := n) (N := N) (b2 := ab) hmb ha hk2 3 0 (sel (gsel ((A.1 m).2.2 31) m ab) 64) g3 A rfl (hE.rs h) hI hd hL hle (fun x hx => (sel_lt hx).1) (by omega) (by omega) hE.m none none none
  rw [Nat.zero_add] at this
  exact this
