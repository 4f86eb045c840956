set_option maxRecDepth 20000 in
set_option maxHeartbeats 4000000 in
theorem s_undn {ad : Nm → Nat} {g : Sg} {A : AW} {n i k : Nat} {a : Int32} {Q : Option Value → PH → Prop} (h : RS g A n False) (hi : i < bL (aB A)) (h5 : ¬ bl (aB A) i 5 = 0) (hk : PP mX7_underWay 15 [some (.ref (ad (40, 0, 0))), some (.int a), some (.int (nI k)), some (.int (nI (i + 1)))] [] (Rel ad g) Q) : PP mX7_underWay 15 [some (.ref (ad (40, 0, 0))), some (.int a), some (.int (nI k)), some (.int (nI i))] [] (Rel ad g) Q := by
  refine pp_iload_n dX7_underWay_15 rfl (q := 16) rfl ?_
  refine pp_aload_n dX7_underWay_16 rfl isRf_r (q := 17) rfl ?_
  refine ps_get dX7_underWay_17 fl_X7_8 h.1 rfl rfl (q := 20) rfl ?_
  refine pp_ldc (v := nI 118720) dX7_underWay_20 kc_X7_51 (q := 22) rfl ?_
  refine ps_iald (j := 118720) dX7_underWay_22 h.1 rfl rfl (by omega) (by decide) (q := 23) rfl ?_
  rw [h.2.2.2.1.2.1]
  refine pp_icmp_ge (tgt := 54) dX7_underWay_23 (by decide) (q := 26) rfl (fun c23 => absurd c23 (nI_ge hi (by have := h.2.2.2.1.1; omega))) (fun c23 => ?_)
  refine pp_aload_n dX7_underWay_26 rfl isRf_r (q := 27) rfl ?_
  refine pp_iload_n dX7_underWay_27 rfl (q := 28) rfl ?_
  refine pp_bipush dX7_underWay_28 cb_6 (q := 30) rfl ?_
  refine ps_callVi dX7_underWay_30 lk_X7_83 (by exact h.1) (by rfl) (by rfl) (by rfl) (m_lt (c := 6) h hi (by omega)) (by rfl) (by exact Nat.le_of_ble_eq_true rfl) (by decide) (by decide) (by exact Nat.le_of_ble_eq_true rfl) (q := 33) rfl (fun r30 g30 h30 => ?_)
  obtain ⟨rfl, rfl⟩ := And.intro h30.1.symm h30.2.symm
  refine pp_if_eq (tgt := 39) dX7_underWay_33 (by decide) (q := 36) rfl (fun c33 => absurd c33 h5) (fun c33 => ?_)
  refine pp_goto (tgt := 48) dX7_underWay_36 (by decide) ?_
  refine pp_iinc dX7_underWay_48 rfl (nI_1 _) (ls1_3 (nl1 rfl)) (q := 51) rfl ?_
  refine pp_goto (tgt := 15) dX7_underWay_51 (by decide) ?_
  exact hk
theorem nI_pos2 {k : Nat} (h : 1 ≤ k ∧ k < 2 ^ 31) : ¬ nI k = 0 := fun q => by
  have := eqT (b := 0) q h.2 (by omega)
  omega
set_option maxRecDepth 20000 in
set_option maxHeartbeats 4000000 in
theorem s_undy {ad : Nm → Nat} {g : Sg} {A : AW} {n i k : Nat} {a : Int32} {Q : Option Value → PH → Prop} (h : RS g A n False) (hi : i < bL (aB A)) (h5 : bl (aB A) i 5 = 0) (hk1 : 1 ≤ k + 1 ∧ k + 1 < 2 ^ 31) (hk : PP mX7_underWay 15 [some (.ref (ad (40, 0, 0))), some (.int a), some (.int (nI k)), some (.int (nI (i + 1)))] [] (Rel ad g) Q) : PP mX7_underWay 15 [some (.ref (ad (40, 0, 0))), some (.int a), some (.int (nI (k + 1))), some (.int (nI i))] [] (Rel ad g) Q := by
  refine pp_iload_n dX7_underWay_15 rfl (q := 16) rfl ?_
  refine pp_aload_n dX7_underWay_16 rfl isRf_r (q := 17) rfl ?_
  refine ps_get dX7_underWay_17 fl_X7_8 h.1 rfl rfl (q := 20) rfl ?_
  refine pp_ldc (v := nI 118720) dX7_underWay_20 kc_X7_51 (q := 22) rfl ?_
  refine ps_iald (j := 118720) dX7_underWay_22 h.1 rfl rfl (by omega) (by decide) (q := 23) rfl ?_
  rw [h.2.2.2.1.2.1]
  refine pp_icmp_ge (tgt := 54) dX7_underWay_23 (by decide) (q := 26) rfl (fun c23 => absurd c23 (nI_ge hi (by have := h.2.2.2.1.1; omega))) (fun c23 => ?_)
  refine pp_aload_n dX7_underWay_26 rfl isRf_r (q := 27) rfl ?_
  refine pp_iload_n dX7_underWay_27 rfl (q := 28) rfl ?_
  refine pp_bipush dX7_underWay_28 cb_6 (q := 30) rfl ?_
  refine ps_callVi dX7_underWay_30 lk_X7_83 (by exact h.1) (by rfl) (by rfl) (by rfl) (m_lt (c := 6) h hi (by omega)) (by rfl) (by exact Nat.le_of_ble_eq_true rfl) (by decide) (by decide) (by exact Nat.le_of_ble_eq_true rfl) (q := 33) rfl (fun r30 g30 h30 => ?_)
  obtain ⟨rfl, rfl⟩ := And.intro h30.1.symm h30.2.symm
  refine pp_if_eq (tgt := 39) dX7_underWay_33 (by decide) (q := 36) rfl (fun c33 => ?_) (fun c33 => absurd h5 c33)
  refine pp_iload_n dX7_underWay_39 rfl (q := 40) rfl ?_
  refine pp_if_ne (tgt := 45) dX7_underWay_40 (by decide) (q := 43) rfl (fun c40 => ?_) (fun c40 => absurd c40 (nI_pos2 hk1))
  refine pp_iinc dX7_underWay_45 rfl (nI_m1 _) (ls1_2 (nl1 rfl)) (q := 48) rfl ?_
  refine pp_iinc dX7_underWay_48 rfl (nI_1 _) (ls1_3 (nl1 rfl)) (q := 51) rfl ?_
  refine pp_goto (tgt := 15) dX7_underWay_51 (by decide) ?_
  exact hk
set_option maxRecDepth 20000 in
set_option maxHeartbeats 4000000 in
theorem s_undh {ad : Nm → Nat} {g : Sg} {A : AW} {n i k0 : Nat} {a : Int32} (h : RS g A n False) (hi : i < bL (aB A)) (h5 : bl (aB A) i 5 = 0) (hg : (sel (usel (aB A)) (bL (aB A)))[k0]? = some i) : PS mX7_underWay 15 [some (.ref (ad (40, 0, 0))), some (.int a), some (.int (nI 0)), some (.int (nI i))] [] ad g (Ri (fun v g' => v = oI ((sel (usel (aB A)) (bL (aB A)))[k0]?) ∧ g' = g)) := by
  refine pp_iload_n dX7_underWay_15 rfl (q := 16) rfl ?_
  refine pp_aload_n dX7_underWay_16 rfl isRf_r (q := 17) rfl ?_
  refine ps_get dX7_underWay_17 fl_X7_8 h.1 rfl rfl (q := 20) rfl ?_
  refine pp_ldc (v := nI 118720) dX7_underWay_20 kc_X7_51 (q := 22) rfl ?_
  refine ps_iald (j := 118720) dX7_underWay_22 h.1 rfl rfl (by omega) (by decide) (q := 23) rfl ?_
  rw [h.2.2.2.1.2.1]
  refine pp_icmp_ge (tgt := 54) dX7_underWay_23 (by decide) (q := 26) rfl (fun c23 => absurd c23 (nI_ge hi (by have := h.2.2.2.1.1; omega))) (fun c23 => ?_)
  refine pp_aload_n dX7_underWay_26 rfl isRf_r (q := 27) rfl ?_
  refine pp_iload_n dX7_underWay_27 rfl (q := 28) rfl ?_
  refine pp_bipush dX7_underWay_28 cb_6 (q := 30) rfl ?_
  refine ps_callVi dX7_underWay_30 lk_X7_83 (by exact h.1) (by rfl) (by rfl) (by rfl) (m_lt (c := 6) h hi (by omega)) (by rfl) (by exact Nat.le_of_ble_eq_true rfl) (by decide) (by decide) (by exact Nat.le_of_ble_eq_true rfl) (q := 33) rfl (fun r30 g30 h30 => ?_)
  obtain ⟨rfl, rfl⟩ := And.intro h30.1.symm h30.2.symm
  refine pp_if_eq (tgt := 39) dX7_underWay_33 (by decide) (q := 36) rfl (fun c33 => ?_) (fun c33 => absurd h5 c33)
  refine pp_iload_n dX7_underWay_39 rfl (q := 40) rfl ?_
  refine pp_if_ne (tgt := 45) dX7_underWay_40 (by decide) (q := 43) rfl (fun c40 => absurd rfl c40) (fun c40 => ?_)
  refine pp_iload_n dX7_underWay_43 rfl (q := 44) rfl ?_
  refine ri_ret dX7_underWay_44 rfl rfl ?_
  exact ⟨by rw [hg]; rfl, rfl⟩
set_option maxRecDepth 20000 in
set_option maxHeartbeats 4000000 in
theorem s_unde {ad : Nm → Nat} {g : Sg} {A : AW} {n k k0 : Nat} {a : Int32} (h : RS g A n False) (hg : (sel (usel (aB A)) (bL (aB A)))[k0]? = none) : PS mX7_underWay 15 [some (.ref (ad (40, 0, 0))), some (.int a), some (.int (nI k)), some (.int (nI (bL (aB A))))] [] ad g (Ri (fun v g' => v = oI ((sel (usel (aB A)) (bL (aB A)))[k0]?) ∧ g' = g)) := by
  refine pp_iload_n dX7_underWay_15 rfl (q := 16) rfl ?_
  refine pp_aload_n dX7_underWay_16 rfl isRf_r (q := 17) rfl ?_
  refine ps_get dX7_underWay_17 fl_X7_8 h.1 rfl rfl (q := 20) rfl ?_
  refine pp_ldc (v := nI 118720) dX7_underWay_20 kc_X7_51 (q := 22) rfl ?_
  refine ps_iald (j := 118720) dX7_underWay_22 h.1 rfl rfl (by omega) (by decide) (q := 23) rfl ?_
  rw [h.2.2.2.1.2.1]
  refine pp_icmp_ge (tgt := 54) dX7_underWay_23 (by decide) (q := 26) rfl (fun c23 => ?_) (fun c23 => absurd (Int32.le_refl _) c23)
  refine pp_iconst dX7_underWay_54 ci_m1 (q := 55) rfl ?_
  refine ri_ret dX7_underWay_55 rfl rfl ?_
  exact ⟨by rw [hg]; rfl, rfl⟩
theorem l_und {ad : Nm → Nat} {g : Sg} {A : AW} {n k0 : Nat} {a : Int32} (h : RS g A n False) (hk0 : k0 < 2 ^ 31) : ∀ (j i : Nat), bL (aB A) - i < j → i ≤ bL (aB A) → (sel (usel (aB A)) i).length ≤ k0 → PS mX7_underWay 15 [some (.ref (ad (40, 0, 0))), some (.int a), some (.int (nI (k0 - (sel (usel (aB A)) i).length))), some (.int (nI i))] [] ad g (Ri (fun v g' => v = oI ((sel (usel (aB A)) (bL (aB A)))[k0]?) ∧ g' = g)) := by
  intro j
  induction j with
  | zero => intro i h; omega
  | succ j ih =>
    intro i hij hik hlen
    by_cases e : i = bL (aB A)
    · subst e
      exact s_unde h (List.getElem?_eq_none hlen)
    · have hi : i < bL (aB A) := by omega
      have ih' := ih (i + 1) (by omega) (by omega)
      rw [sel_s] at ih'
      by_cases h5 : bl (aB A) i 5 = 0
      · have hu : usel (aB A) i = true := decide_eq_true h5
        rw [if_pos hu, List.length_append] at ih'
        by_cases e0 : k0 - (sel (usel (aB A)) i).length = 0
        · rw [e0]
          refine s_undh h hi h5 ?_
          have hg := sel_get (n := bL (aB A)) hi hu
          rw [show (sel (usel (aB A)) i).length = k0 by omega] at hg
          exact hg
        · have q := ih' (by show _ + 1 ≤ _; omega)
          obtain ⟨d, hd⟩ : ∃ d, k0 - (sel (usel (aB A)) i).length = d + 1 := ⟨k0 - (sel (usel (aB A)) i).length - 1, by omega⟩
          rw [show k0 - ((sel (usel (aB A)) i).length + [i].length) = d from by show k0 - (_ + 1) = _; omega] at q
          rw [hd]
          exact s_undy h hi h5 ⟨by omega, by omega⟩ q
      · have hu : ¬ usel (aB A) i = true := fun q => h5 (of_decide_eq_true q)
        rw [if_neg hu] at ih'
        exact s_undn h hi h5 (ih' hlen)
theorem wkQ {ad : Nm → Nat} {g : Sg} {M : MI} {pc : Nat} {L : PLoc} {S : CS} {v : Int32} {q : Nat ⊕ Int32} (h : PS M pc L [] ad g (Ri (fun r g' => r = v ∧ g' = g))) (hR : RR g S) (e : q = .inr v) : PS M pc L [] ad g (MdQ g (anS S q)) := by
  refine h.weak (fun v G hG => ?_)
  obtain ⟨g1, k1, r, k2, k3, k4⟩ := hG
  subst k3
  subst k4
  exact ⟨g1, k1, r, k2, mq_inr hR e⟩
set_option maxRecDepth 20000 in
set_option maxHeartbeats 4000000 in
theorem m_under {ad : Nm → Nat} {g : Sg} {S : CS} {a : Int32} (hR : RR g S) (hH : okH (sH S)) : PS mX7_underWay 0 (ent mX7_underWay [.ref (ad (40, 0, 0)), .int a]) [] ad g (MdQ g (anS S (qUnder (aB (runA (sH S))) a))) := by
  have h := hR.1
  have hI := inv_run hH
  have hn := okH_len hH
  show PP mX7_underWay 0 [some (.ref (ad (40, 0, 0))), some (.int a), none, none] [] (Rel ad g) _
  refine pp_iload_n dX7_underWay_0 rfl (q := 1) rfl ?_
  refine pp_if_ge (tgt := 11) dX7_underWay_1 (by decide) (q := 4) rfl (fun c1 => ?_) (fun c1 => ?_)
  · obtain ⟨k, hk, rfl⟩ := nI_of (Int32.not_lt.mpr c1)
    refine pp_iload_n dX7_underWay_11 rfl (q := 12) rfl ?_
    refine pp_istore_n dX7_underWay_12 (by decide) (ls1_2 (nl1 rfl)) (q := 13) rfl ?_
    refine pp_iconst dX7_underWay_13 ci_0 (q := 14) rfl ?_
    refine pp_istore_n dX7_underWay_14 (by decide) (ls1_3 (nl1 rfl)) (q := 15) rfl ?_
    exact wkQ (l_und h hk (bL (aB (runA (sH S))) + 1) 0 (by omega) (by omega) (by show 0 ≤ k; omega)) hR (by unfold qUnder; rw [cIf_f (Int32.not_lt.mpr c1), cl_nI hk])
  · have ha : a < 0 := Int32.not_le.mp c1
    refine pp_aload_n dX7_underWay_4 rfl isRf_r (q := 5) rfl ?_
    refine pp_bipush dX7_underWay_5 cb_m3 (q := 7) rfl ?_
    refine ps_callVi dX7_underWay_7 lk_X7_132 (by exact h.1) (by rfl) (by rfl) (by rfl) (m_no3 h.1) (by rfl) (by exact Nat.le_of_ble_eq_true rfl) (by decide) (by decide) (by exact Nat.le_of_ble_eq_true rfl) (q := 10) rfl (fun r7 g7 h7 => ?_)
    obtain ⟨rfl, rfl⟩ := And.intro h7.1.symm h7.2.symm
    refine ri_ret dX7_underWay_10 rfl rfl ?_
    exact mq_inl hR (by unfold isW; omega) (cIf_t ha)
theorem sel_cnt {K : Nat → Int32} {k : Int32} : ∀ n, (sel (fun x => decide (K x = k)) n).length = cnt K k n
  | 0 => rfl
  | n + 1 => by
    rw [sel_s, cnt, ← sel_cnt n]
    by_cases e : K n = k
    · rw [if_pos (decide_eq_true e), if_pos e, List.length_append]; rfl
    · rw [if_neg (fun q => e (of_decide_eq_true q)), if_neg e]
theorem sel_not {K : Nat → Int32} {k : Int32} : ∀ n, (sel (fun x => decide (¬ K x = k)) n).length + cnt K k n = n
  | 0 => rfl
  | n + 1 => by
    rw [sel_s, cnt]
    have ih := sel_not (K := K) (k := k) n
    by_cases e : K n = k
    · rw [if_neg (fun q => (of_decide_eq_true q : ¬ K n = k) e), if_pos e]; omega
    · rw [if_pos (decide_eq_true e), if_neg e, List.length_append]
      show _ + 1 + _ = _
      omega
theorem sel_up1 {c : Nat → Bool} {i k : Nat} (h1 : c i = true → k = (sel c i).length + 1) (h2 : ¬ c i = true → k = (sel c i).length) : k = (sel c (i + 1)).length := by
  rw [sel_s]
  by_cases e : c i = true
  · rw [if_pos e, List.length_append]; exact h1 e
  · rw [if_neg e]; exact h2 e
set_option maxRecDepth 20000 in
set_option maxHeartbeats 4000000 in
theorem s_st3 {ad : Nm → Nat} {g : Sg} {A : AW} {n m i L : Nat} {Q : Option Value → PH → Prop} (h : RS g A n False) (hmb : m < 64) (hd : mdA A m) (hi : i < 64) (hk : ∀ c, ((¬ (A.1 m).2.2 31 i = nI 0) → c = L + 1) → (¬ (¬ (A.1 m).2.2 31 i = nI 0) → c = L) → PP mX7_state 93 [some (.ref (ad (40, 0, 0))), some (.int (nI m)), some (.int (nI 3)), some (.int (nI c)), some (.int (nI (i + 1)))] [] (Rel ad g) Q) : PP mX7_state 93 [some (.ref (ad (40, 0, 0))), some (.int (nI m)), some (.int (nI 3)), some (.int (nI L)), some (.int (nI i))] [] (Rel ad g) Q := by
  refine pp_iload dX7_state_93 rfl (q := 95) rfl ?_
  refine pp_bipush dX7_state_95 cb_64 (q := 97) rfl ?_
  refine pp_icmp_ge (tgt := 145) dX7_state_97 (by decide) (q := 100) rfl (fun c97 => absurd c97 (nI_ge hi (by decide))) (fun c97 => ?_)
  refine pp_iload_n dX7_state_100 rfl (q := 101) rfl ?_
  refine pp_iload_n dX7_state_101 rfl (q := 102) rfl ?_
  refine pp_iconst dX7_state_102 ci_3 (q := 103) rfl ?_
  refine pp_icmp_ne (tgt := 119) dX7_state_103 (by decide) (q := 106) rfl (fun c103 => absurd rfl c103) (fun c103 => ?_)
  refine pp_aload_n dX7_state_106 rfl isRf_r (q := 107) rfl ?_
  refine pp_iload_n dX7_state_107 rfl (q := 108) rfl ?_
  refine pp_iload dX7_state_108 rfl (q := 110) rfl ?_
  refine ps_callVi dX7_state_110 lk_X7_72 (by exact h.1) (by rfl) (by rfl) (by rfl) (m_kindOf h.1 hmb hi) (by rfl) (by exact Nat.le_of_ble_eq_true rfl) (by decide) (by decide) (by exact Nat.le_of_ble_eq_true rfl) (q := 113) rfl (fun r110 g110 h110 => ?_)
  obtain ⟨rfl, rfl⟩ := And.intro h110.1.symm h110.2.symm
  rw [((h.2.o hmb hd).2.2.1 i hi).1]
  refine pp_if_eq (tgt := 136) dX7_state_113 (by decide) (q := 116) rfl (fun c113 => ?_) (fun c113 => ?_)
  · skip
    refine pp_iconst dX7_state_136 ci_0 (q := 137) rfl ?_
    refine pp_iadd dX7_state_137 (q := 138) rfl ?_
    try rw [nI_add]
    refine pp_istore_n dX7_state_138 (by decide) (ls1_3 (nl1 rfl)) (q := 139) rfl ?_
    refine pp_iinc dX7_state_139 rfl (nI_1 _) (ls1_4 (nl1 rfl)) (q := 142) rfl ?_
    refine pp_goto (tgt := 93) dX7_state_142 (by decide) ?_
    first | exact hk _ (fun q => absurd c113 q) (fun _ => rfl) | exact hk _ (fun _ => rfl) (fun q => absurd c113 q)
  · skip
    refine pp_goto (tgt := 132) dX7_state_116 (by decide) ?_
    refine pp_iconst dX7_state_132 ci_1 (q := 133) rfl ?_
    refine pp_goto (tgt := 137) dX7_state_133 (by decide) ?_
    refine pp_iadd dX7_state_137 (q := 138) rfl ?_
    try rw [nI_add]
    refine pp_istore_n dX7_state_138 (by decide) (ls1_3 (nl1 rfl)) (q := 139) rfl ?_
    refine pp_iinc dX7_state_139 rfl (nI_1 _) (ls1_4 (nl1 rfl)) (q := 142) rfl ?_
    refine pp_goto (tgt := 93) dX7_state_142 (by decide) ?_
    first | exact hk _ (fun q => absurd c113 q) (fun _ => rfl) | exact hk _ (fun _ => rfl) (fun q => absurd c113 q)
set_option maxRecDepth 20000 in
set_option maxHeartbeats 4000000 in
theorem s_st4 {ad : Nm → Nat} {g : Sg} {A : AW} {n m i L : Nat} {Q : Option Value → PH → Prop} {v : Nat} (h : RS g A n False) (hmb : m < 64) (hd : mdA A m) (hi : i < 64) (hv : 4 ≤ v ∧ v ≤ 7) (hk : ∀ c, (((A.1 m).2.2 31 i = nI (v - 3)) → c = L + 1) → (¬ ((A.1 m).2.2 31 i = nI (v - 3)) → c = L) → PP mX7_state 93 [some (.ref (ad (40, 0, 0))), some (.int (nI m)), some (.int (nI v)), some (.int (nI c)), some (.int (nI (i + 1)))] [] (Rel ad g) Q) : PP mX7_state 93 [some (.ref (ad (40, 0, 0))), some (.int (nI m)), some (.int (nI v)), some (.int (nI L)), some (.int (nI i))] [] (Rel ad g) Q := by
  refine pp_iload dX7_state_93 rfl (q := 95) rfl ?_
  refine pp_bipush dX7_state_95 cb_64 (q := 97) rfl ?_
  refine pp_icmp_ge (tgt := 145) dX7_state_97 (by decide) (q := 100) rfl (fun c97 => absurd c97 (nI_ge hi (by decide))) (fun c97 => ?_)
  refine pp_iload_n dX7_state_100 rfl (q := 101) rfl ?_
  refine pp_iload_n dX7_state_101 rfl (q := 102) rfl ?_
  refine pp_iconst dX7_state_102 ci_3 (q := 103) rfl ?_
  refine pp_icmp_ne (tgt := 119) dX7_state_103 (by decide) (q := 106) rfl (fun c103 => ?_) (fun c103 => absurd c103 (fun q => by have := eqT q (by omega) (by omega); omega))
  refine pp_aload_n dX7_state_119 rfl isRf_r (q := 120) rfl ?_
  refine pp_iload_n dX7_state_120 rfl (q := 121) rfl ?_
  refine pp_iload dX7_state_121 rfl (q := 123) rfl ?_
  refine ps_callVi dX7_state_123 lk_X7_72 (by exact h.1) (by rfl) (by rfl) (by rfl) (m_kindOf h.1 hmb hi) (by rfl) (by exact Nat.le_of_ble_eq_true rfl) (by decide) (by decide) (by exact Nat.le_of_ble_eq_true rfl) (q := 126) rfl (fun r123 g123 h123 => ?_)
  obtain ⟨rfl, rfl⟩ := And.intro h123.1.symm h123.2.symm
  rw [((h.2.o hmb hd).2.2.1 i hi).1]
  refine pp_iload_n dX7_state_126 rfl (q := 127) rfl ?_
  refine pp_iconst dX7_state_127 ci_3 (q := 128) rfl ?_
  refine pp_isub dX7_state_128 (q := 129) rfl ?_
  rw [nI_sb (by omega)]
  refine pp_icmp_ne (tgt := 136) dX7_state_129 (by decide) (q := 132) rfl (fun c129 => ?_) (fun c129 => ?_)
  · skip
    refine pp_iconst dX7_state_136 ci_0 (q := 137) rfl ?_
    refine pp_iadd dX7_state_137 (q := 138) rfl ?_
    try rw [nI_add]
    refine pp_istore_n dX7_state_138 (by decide) (ls1_3 (nl1 rfl)) (q := 139) rfl ?_
    refine pp_iinc dX7_state_139 rfl (nI_1 _) (ls1_4 (nl1 rfl)) (q := 142) rfl ?_
    refine pp_goto (tgt := 93) dX7_state_142 (by decide) ?_
    first | exact hk _ (fun q => absurd q c129) (fun _ => rfl) | exact hk _ (fun _ => rfl) (fun q => absurd c129 q)
  · skip
    refine pp_iconst dX7_state_132 ci_1 (q := 133) rfl ?_
    refine pp_goto (tgt := 137) dX7_state_133 (by decide) ?_
    refine pp_iadd dX7_state_137 (q := 138) rfl ?_
    try rw [nI_add]
    refine pp_istore_n dX7_state_138 (by decide) (ls1_3 (nl1 rfl)) (q := 139) rfl ?_
    refine pp_iinc dX7_state_139 rfl (nI_1 _) (ls1_4 (nl1 rfl)) (q := 142) rfl ?_
    refine pp_goto (tgt := 93) dX7_state_142 (by decide) ?_
    first | exact hk _ (fun q => absurd q c129) (fun _ => rfl) | exact hk _ (fun _ => rfl) (fun q => absurd c129 q)
set_option maxRecDepth 20000 in
set_option maxHeartbeats 4000000 in
theorem s_ste {ad : Nm → Nat} {g : Sg} {A : AW} {n m v L : Nat} (h : RS g A n False) : PS mX7_state 93 [some (.ref (ad (40, 0, 0))), some (.int (nI m)), some (.int (nI v)), some (.int (nI L)), some (.int (nI 64))] [] ad g (Ri (fun r g' => r = nI L ∧ g' = g)) := by
  refine pp_iload dX7_state_93 rfl (q := 95) rfl ?_
  refine pp_bipush dX7_state_95 cb_64 (q := 97) rfl ?_
  refine pp_icmp_ge (tgt := 145) dX7_state_97 (by decide) (q := 100) rfl (fun c97 => ?_) (fun c97 => absurd (by decide) c97)
  refine pp_iload_n dX7_state_145 rfl (q := 146) rfl ?_
  refine ri_ret dX7_state_146 rfl rfl ?_
  exact ⟨rfl, rfl⟩
theorem l_st3 {ad : Nm → Nat} {g : Sg} {A : AW} {n m v : Nat} (h : RS g A n False) (hmb : m < 64) (hd : mdA A m) : ∀ (j i : Nat), 64 - i < j → i ≤ 64 → PS mX7_state 93 [some (.ref (ad (40, 0, 0))), some (.int (nI m)), some (.int (nI 3)), some (.int (nI (sel (fun x => decide (¬ (A.1 m).2.2 31 x = nI 0)) i).length)), some (.int (nI i))] [] ad g (Ri (fun r g' => r = nI (sel (fun x => decide (¬ (A.1 m).2.2 31 x = nI 0)) 64).length ∧ g' = g)) := by
  intro j
  induction j with
  | zero => intro i h; omega
  | succ j ih =>
    intro i hij hik
    by_cases e : i = 64
    · subst e
      exact s_ste h
    · refine s_st3 h hmb hd (by omega) (fun c h1 h2 => ?_)
      rw [sel_up1 (fun q => h1 (of_decide_eq_true q)) (fun q => h2 (fun z => q (decide_eq_true z)))]
      exact ih (i + 1) (by omega) (by omega)
theorem l_st4 {ad : Nm → Nat} {g : Sg} {A : AW} {n m v : Nat} (h : RS g A n False) (hmb : m < 64) (hd : mdA A m) (hv : 4 ≤ v ∧ v ≤ 7) : ∀ (j i : Nat), 64 - i < j → i ≤ 64 → PS mX7_state 93 [some (.ref (ad (40, 0, 0))), some (.int (nI m)), some (.int (nI v)), some (.int (nI (sel (fun x => decide ((A.1 m).2.2 31 x = nI (v - 3))) i).length)), some (.int (nI i))] [] ad g (Ri (fun r g' => r = nI (sel (fun x => decide ((A.1 m).2.2 31 x = nI (v - 3))) 64).length ∧ g' = g)) := by
  intro j
  induction j with
  | zero => intro i h; omega
  | succ j ih =>
    intro i hij hik
    by_cases e : i = 64
    · subst e
      exact s_ste h
    · refine s_st4 h hmb hd (by omega) hv (fun c h1 h2 => ?_)
      rw [sel_up1 (fun q => h1 (of_decide_eq_true q)) (fun q => h2 (fun z => q (decide_eq_true z)))]
      exact ih (i + 1) (by omega) (by omega)
set_option maxRecDepth 20000 in
set_option maxHeartbeats 4000000 in
theorem m_state {ad : Nm → Nat} {g : Sg} {S : CS} {a b : Int32} (hR : RR g S) (hH : okH (sH S)) : PS mX7_state 0 (ent mX7_state [.ref (ad (40, 0, 0)), .int a, .int b]) [] ad g (MdQ g (anS S (qState (runA (sH S)) a b))) := by
  have h := hR.1
  have hI := inv_run hH
  have hn := okH_len hH
  show PP mX7_state 0 [some (.ref (ad (40, 0, 0))), some (.int a), some (.int b), none, none] [] (Rel ad g) _
  refine pp_iload_n dX7_state_0 rfl (q := 1) rfl ?_
  refine ps_callSi dX7_state_1 lk_X7_121 (by rfl) m_isMem (by rfl) (by exact Nat.le_of_ble_eq_true rfl) (by decide) (by decide) (by exact Nat.le_of_ble_eq_true rfl) (q := 4) rfl (fun r1 g1 h1 => ?_)
  obtain ⟨hb1, rfl⟩ := And.intro h1.1 h1.2.symm
  refine pp_if_ne (tgt := 14) dX7_state_4 (by decide) (q := 7) rfl (fun c4 => ?_) (fun c4 => ?_)
  · obtain ⟨m, hm, rfl⟩ := isB_t hb1 c4
    refine pp_aload_n dX7_state_14 rfl isRf_r (q := 15) rfl ?_
    refine pp_iload_n dX7_state_15 rfl (q := 16) rfl ?_
    refine ps_callVi dX7_state_16 lk_X7_125 (by exact h.1) (by rfl) (by rfl) (by rfl) (m_made h hI hm) (by rfl) (by exact Nat.le_of_ble_eq_true rfl) (by decide) (by decide) (by exact Nat.le_of_ble_eq_true rfl) (q := 19) rfl (fun r16 g16 h16 => ?_)
    obtain ⟨hb16, rfl⟩ := And.intro h16.1 h16.2.symm
    refine pp_if_ne (tgt := 29) dX7_state_19 (by decide) (q := 22) rfl (fun c19 => ?_) (fun c19 => ?_)
    · have hd := isB_t hb16 c19
      refine pp_iload_n dX7_state_29 rfl (q := 30) rfl ?_
      refine pp_i2l dX7_state_30 (q := 31) rfl ?_
      refine pp_lconst (v := lN 0) dX7_state_31 rfl (q := 32) rfl ?_
      refine pp_ldc2 (v := lN 11) dX7_state_32 kc_X7_173 (q := 35) rfl ?_
      refine ps_callSi dX7_state_35 lk_X7_165 (by rfl) (m_isIn (x := b) (n := 12) (by omega) (by omega)) (by rfl) (by exact Nat.le_of_ble_eq_true rfl) (by decide) (by decide) (by exact Nat.le_of_ble_eq_true rfl) (q := 38) rfl (fun r35 g35 h35 => ?_)
      obtain ⟨hb35, rfl⟩ := And.intro h35.1 h35.2.symm
      refine pp_if_ne (tgt := 48) dX7_state_38 (by decide) (q := 41) rfl (fun c38 => ?_) (fun c38 => ?_)
      · obtain ⟨v, hv, rfl⟩ := isB_t hb35 c38
        have hq : qState (runA (sH S)) (nI m) (nI v) = .inr (sttV ((runA (sH S)).1 m) v) := by unfold qState; rw [qM_ok hm hd, cIf_t ⟨v, hv, rfl⟩, cl_nI (by omega), cl_nI (by omega)]
        have ho := (h.2.o hm hd).1
        refine pp_iload_n dX7_state_48 rfl (q := 49) rfl ?_
        refine pp_if_ne (tgt := 61) dX7_state_49 (by decide) (q := 52) rfl (fun c49 => ?_) (fun c49 => ?_)
        · have h0 : ¬ v = 0 := fun q => c49 (by rw [q]; rfl)
          refine pp_iload_n dX7_state_61 rfl (q := 62) rfl ?_
          refine pp_iconst dX7_state_62 ci_3 (q := 63) rfl ?_
          refine pp_icmp_ge (tgt := 73) dX7_state_63 (by decide) (q := 66) rfl (fun c63 => ?_) (fun c63 => ?_)
          · have h3 : 3 ≤ v := leT c63 (by omega) (by omega)
            refine pp_iload_n dX7_state_73 rfl (q := 74) rfl ?_
            refine pp_bipush dX7_state_74 cb_7 (q := 76) rfl ?_
            refine pp_icmp_le (tgt := 88) dX7_state_76 (by decide) (q := 79) rfl (fun c76 => ?_) (fun c76 => ?_)
            · have h7 : v ≤ 7 := leT c76 (by omega) (by omega)
              refine pp_iconst dX7_state_88 ci_0 (q := 89) rfl ?_
              refine pp_istore_n dX7_state_89 (by decide) (ls1_3 (nl1 rfl)) (q := 90) rfl ?_
              refine pp_iconst dX7_state_90 ci_0 (q := 91) rfl ?_
              refine pp_istore dX7_state_91 (by decide) (ls1_4 (nl1 rfl)) (q := 93) rfl ?_
              by_cases e3 : v = 3
              · subst e3
                refine wkQ (l_st3 (v := 0) h hm hd 65 0 (by omega) (by omega)) hR (hq.trans (congrArg Sum.inr ?_))
                have q := sel_not (K := ((runA (sH S)).1 m).2.2 31) (k := nI 0) 64
                show nI 64 - nI (cnt (((runA (sH S)).1 m).2.2 31) (nI 0) 64) = _
                rw [nI_sb (by omega)]
                congr 1
                omega
              · refine wkQ (l_st4 h hm hd ⟨by omega, h7⟩ 65 0 (by omega) (by omega)) hR (hq.trans (congrArg Sum.inr ?_))
                rw [sel_cnt]
                have hv4 : v = 4 ∨ v = 5 ∨ v = 6 ∨ v = 7 := by omega
                rcases hv4 with rfl | rfl | rfl | rfl <;> rfl
            · have h7 : 7 < v := ltT (Int32.not_le.mp c76) (by omega) (by omega)
              refine pp_aload_n dX7_state_79 rfl isRf_r (q := 80) rfl ?_
              refine pp_iload_n dX7_state_80 rfl (q := 81) rfl ?_
              refine pp_iload_n dX7_state_81 rfl (q := 82) rfl ?_
              refine pp_iconst dX7_state_82 ci_5 (q := 83) rfl ?_
              refine pp_isub dX7_state_83 (q := 84) rfl ?_
              rw [nI_sb (by omega)]
              refine ps_callVi dX7_state_84 lk_X7_48 (by exact h.1) (by rfl) (by rfl) (by rfl) (m_of h.1 hm (by omega)) (by rfl) (by exact Nat.le_of_ble_eq_true rfl) (by decide) (by decide) (by exact Nat.le_of_ble_eq_true rfl) (q := 87) rfl (fun r84 g84 h84 => ?_)
              obtain ⟨rfl, rfl⟩ := And.intro h84.1.symm h84.2.symm
              refine ri_ret dX7_state_87 rfl rfl ?_
              have hv3 : v = 8 ∨ v = 9 ∨ v = 10 ∨ v = 11 := by omega
              rcases hv3 with rfl | rfl | rfl | rfl
              · rw [show 7 * m + (8 - 5) = 7 * m + 3 from rfl, ho.2.2.2.1]; exact mq_inr hR hq
              · rw [show 7 * m + (9 - 5) = 7 * m + 4 from rfl, ho.2.2.2.2.1]; exact mq_inr hR hq
              · rw [show 7 * m + (10 - 5) = 7 * m + 5 from rfl, ho.2.2.2.2.2.1]; exact mq_inr hR hq
              · rw [show 7 * m + (11 - 5) = 7 * m + 6 from rfl, ho.2.2.2.2.2.2]; exact mq_inr hR hq
          · have h3 : v < 3 := ltT (Int32.not_le.mp c63) (by omega) (by omega)
            refine pp_aload_n dX7_state_66 rfl isRf_r (q := 67) rfl ?_
            refine pp_iload_n dX7_state_67 rfl (q := 68) rfl ?_
            refine pp_iload_n dX7_state_68 rfl (q := 69) rfl ?_
            refine ps_callVi dX7_state_69 lk_X7_48 (by exact h.1) (by rfl) (by rfl) (by rfl) (m_of h.1 hm (by omega)) (by rfl) (by exact Nat.le_of_ble_eq_true rfl) (by decide) (by decide) (by exact Nat.le_of_ble_eq_true rfl) (q := 72) rfl (fun r69 g69 h69 => ?_)
            obtain ⟨rfl, rfl⟩ := And.intro h69.1.symm h69.2.symm
            refine ri_ret dX7_state_72 rfl rfl ?_
            have hv3 : v = 1 ∨ v = 2 := by omega
            rcases hv3 with rfl | rfl
            · rw [ho.2.1]; exact mq_inr hR hq
            · rw [ho.2.2.1]; exact mq_inr hR hq
        · have h0 : v = 0 := eqT (b := 0) c49 (by omega) (by omega)
          subst h0
          refine pp_aload_n dX7_state_52 rfl isRf_r (q := 53) rfl ?_
          refine pp_iload_n dX7_state_53 rfl (q := 54) rfl ?_
          refine pp_iconst dX7_state_54 ci_0 (q := 55) rfl ?_
          refine ps_callVi dX7_state_55 lk_X7_48 (by exact h.1) (by rfl) (by rfl) (by rfl) (m_of h.1 hm (by omega)) (by rfl) (by exact Nat.le_of_ble_eq_true rfl) (by decide) (by decide) (by exact Nat.le_of_ble_eq_true rfl) (q := 58) rfl (fun r55 g55 h55 => ?_)
          obtain ⟨rfl, rfl⟩ := And.intro h55.1.symm h55.2.symm
          rw [Nat.add_zero, ho.1]
          refine pp_iconst dX7_state_58 ci_1 (q := 59) rfl ?_
          refine pp_isub dX7_state_59 (q := 60) rfl ?_
          rw [show ((runA (sH S)).1 m).1 2 + nI 1 - nI 1 = ((runA (sH S)).1 m).1 2 from Int32.add_sub_cancel _ _]
          refine ri_ret dX7_state_60 rfl rfl ?_
          exact mq_inr hR hq
      · have hi := isB_f hb35 c38
        refine pp_aload_n dX7_state_41 rfl isRf_r (q := 42) rfl ?_
        refine pp_bipush dX7_state_42 cb_m9 (q := 44) rfl ?_
        refine ps_callVi dX7_state_44 lk_X7_132 (by exact h.1) (by rfl) (by rfl) (by rfl) (m_no9 h.1) (by rfl) (by exact Nat.le_of_ble_eq_true rfl) (by decide) (by decide) (by exact Nat.le_of_ble_eq_true rfl) (q := 47) rfl (fun r44 g44 h44 => ?_)
        obtain ⟨rfl, rfl⟩ := And.intro h44.1.symm h44.2.symm
        refine ri_ret dX7_state_47 rfl rfl ?_
        exact mq_inl hR (by unfold isW; omega) (by unfold qState; rw [qM_ok hm hd, cIf_f hi])
    · have hd := isB_f hb16 c19
      refine pp_aload_n dX7_state_22 rfl isRf_r (q := 23) rfl ?_
      refine pp_bipush dX7_state_23 cb_m2 (q := 25) rfl ?_
      refine ps_callVi dX7_state_25 lk_X7_132 (by exact h.1) (by rfl) (by rfl) (by rfl) (m_no2 h.1) (by rfl) (by exact Nat.le_of_ble_eq_true rfl) (by decide) (by decide) (by exact Nat.le_of_ble_eq_true rfl) (q := 28) rfl (fun r25 g25 h25 => ?_)
      obtain ⟨rfl, rfl⟩ := And.intro h25.1.symm h25.2.symm
      refine ri_ret dX7_state_28 rfl rfl ?_
      exact mq_inl hR (by unfold isW; omega) (by unfold qState qM; rw [cIf_t ⟨m, hm, rfl⟩, cIf_f (fun q => hd (mdX_i hm q))])
  · have ha := isB_f hb1 c4
    refine pp_aload_n dX7_state_7 rfl isRf_r (q := 8) rfl ?_
    refine pp_bipush dX7_state_8 cb_m3 (q := 10) rfl ?_
    refine ps_callVi dX7_state_10 lk_X7_132 (by exact h.1) (by rfl) (by rfl) (by rfl) (m_no3 h.1) (by rfl) (by exact Nat.le_of_ble_eq_true rfl) (by decide) (by decide) (by exact Nat.le_of_ble_eq_true rfl) (q := 13) rfl (fun r10 g10 h10 => ?_)
    obtain ⟨rfl, rfl⟩ := And.intro h10.1.symm h10.2.symm
    refine ri_ret dX7_state_13 rfl rfl ?_
    exact mq_inl hR (by unfold isW; omega) (cIf_f ha)
set_option maxRecDepth 20000 in
set_option maxHeartbeats 4000000 in
theorem s_cnt {ad : Nm → Nat} {g : Sg} {A : AW} {N n x i L : Nat} {kind : Int32} {Q : Option Value → PH → Prop} (h : RS g A n False) (hI : INV N N A) (hx : x < 64) (hi : i < 64) (hk : ∀ c, ((i ≠ x ∧ upA A i ∧ (A.1 i).2.2 31 x = kind) → c = L + 1) → (¬ (i ≠ x ∧ upA A i ∧ (A.1 i).2.2 31 x = kind) → c = L) → PP mX7_count 38 [some (.ref (ad (40, 0, 0))), some (.int (nI x)), some (.int kind), some (.int (nI c)), some (.int (nI (i + 1)))] [] (Rel ad g) Q) : PP mX7_count 38 [some (.ref (ad (40, 0, 0))), some (.int (nI x)), some (.int kind), some (.int (nI L)), some (.int (nI i))] [] (Rel ad g) Q := by
  refine pp_iload dX7_count_38 rfl (q := 40) rfl ?_
  refine pp_bipush dX7_count_40 cb_64 (q := 42) rfl ?_
  refine pp_icmp_ge (tgt := 87) dX7_count_42 (by decide) (q := 45) rfl (fun c42 => absurd c42 (nI_ge hi (by decide))) (fun c42 => ?_)
  refine pp_iload_n dX7_count_45 rfl (q := 46) rfl ?_
  refine pp_iload dX7_count_46 rfl (q := 48) rfl ?_
  refine pp_iload_n dX7_count_48 rfl (q := 49) rfl ?_
  refine pp_icmp_eq (tgt := 78) dX7_count_49 (by decide) (q := 52) rfl (fun c49 => ?_) (fun c49 => ?_)
  · have hx0 : i = x := eqT c49 (by omega) (by omega)
    refine pp_iconst dX7_count_78 ci_0 (q := 79) rfl ?_
    refine pp_iadd dX7_count_79 (q := 80) rfl ?_
    try rw [nI_add]
    refine pp_istore_n dX7_count_80 (by decide) (ls1_3 (nl1 rfl)) (q := 81) rfl ?_
    refine pp_iinc dX7_count_81 rfl (nI_1 _) (ls1_4 (nl1 rfl)) (q := 84) rfl ?_
    refine pp_goto (tgt := 38) dX7_count_84 (by decide) ?_
    first
      | exact hk _ (fun q => absurd hx0 q.1) (fun _ => rfl)
      | exact hk _ (fun q => absurd q.2.1 hu) (fun _ => rfl)
      | exact hk _ (fun q => absurd q.2.2 c71) (fun _ => rfl)
      | exact hk _ (fun _ => rfl) (fun q => absurd ⟨hx0, hu, c71⟩ q)
  · have hx0 : i ≠ x := fun q => c49 (by rw [q])
    refine pp_aload_n dX7_count_52 rfl isRf_r (q := 53) rfl ?_
    refine pp_iload dX7_count_53 rfl (q := 55) rfl ?_
    refine pp_iconst dX7_count_55 ci_0 (q := 56) rfl ?_
    refine ps_callVi dX7_count_56 lk_X7_48 (by exact h.1) (by rfl) (by rfl) (by rfl) (m_of h.1 hi (by omega)) (by rfl) (by exact Nat.le_of_ble_eq_true rfl) (by decide) (by decide) (by exact Nat.le_of_ble_eq_true rfl) (q := 59) rfl (fun r56 g56 h56 => ?_)
    obtain ⟨rfl, rfl⟩ := And.intro h56.1.symm h56.2.symm
    rw [Nat.add_zero]
    refine pp_iconst dX7_count_59 ci_1 (q := 60) rfl ?_
    refine pp_icmp_ne (tgt := 78) dX7_count_60 (by decide) (q := 63) rfl (fun c60 => ?_) (fun c60 => ?_)
    · have hu : ¬ upA A i := fun q => c60 ((h.2.st hI hi).2.mpr q)
      refine pp_iconst dX7_count_78 ci_0 (q := 79) rfl ?_
      refine pp_iadd dX7_count_79 (q := 80) rfl ?_
      try rw [nI_add]
      refine pp_istore_n dX7_count_80 (by decide) (ls1_3 (nl1 rfl)) (q := 81) rfl ?_
      refine pp_iinc dX7_count_81 rfl (nI_1 _) (ls1_4 (nl1 rfl)) (q := 84) rfl ?_
      refine pp_goto (tgt := 38) dX7_count_84 (by decide) ?_
      first
        | exact hk _ (fun q => absurd hx0 q.1) (fun _ => rfl)
        | exact hk _ (fun q => absurd q.2.1 hu) (fun _ => rfl)
        | exact hk _ (fun q => absurd q.2.2 c71) (fun _ => rfl)
        | exact hk _ (fun _ => rfl) (fun q => absurd ⟨hx0, hu, c71⟩ q)
    · have hu : upA A i := (h.2.st hI hi).2.mp c60
      refine pp_aload_n dX7_count_63 rfl isRf_r (q := 64) rfl ?_
      refine pp_iload dX7_count_64 rfl (q := 66) rfl ?_
      refine pp_iload_n dX7_count_66 rfl (q := 67) rfl ?_
      refine ps_callVi dX7_count_67 lk_X7_72 (by exact h.1) (by rfl) (by rfl) (by rfl) (m_kindOf h.1 hi hx) (by rfl) (by exact Nat.le_of_ble_eq_true rfl) (by decide) (by decide) (by exact Nat.le_of_ble_eq_true rfl) (q := 70) rfl (fun r67 g67 h67 => ?_)
      obtain ⟨rfl, rfl⟩ := And.intro h67.1.symm h67.2.symm
      rw [((h.2.o hi hu.1).2.2.1 x hx).1]
      refine pp_iload_n dX7_count_70 rfl (q := 71) rfl ?_
      refine pp_icmp_ne (tgt := 78) dX7_count_71 (by decide) (q := 74) rfl (fun c71 => ?_) (fun c71 => ?_)
      · skip
        refine pp_iconst dX7_count_78 ci_0 (q := 79) rfl ?_
        refine pp_iadd dX7_count_79 (q := 80) rfl ?_
        try rw [nI_add]
        refine pp_istore_n dX7_count_80 (by decide) (ls1_3 (nl1 rfl)) (q := 81) rfl ?_
        refine pp_iinc dX7_count_81 rfl (nI_1 _) (ls1_4 (nl1 rfl)) (q := 84) rfl ?_
        refine pp_goto (tgt := 38) dX7_count_84 (by decide) ?_
        first
          | exact hk _ (fun q => absurd hx0 q.1) (fun _ => rfl)
          | exact hk _ (fun q => absurd q.2.1 hu) (fun _ => rfl)
          | exact hk _ (fun q => absurd q.2.2 c71) (fun _ => rfl)
          | exact hk _ (fun _ => rfl) (fun q => absurd ⟨hx0, hu, c71⟩ q)
      · skip
        refine pp_iconst dX7_count_74 ci_1 (q := 75) rfl ?_
        refine pp_goto (tgt := 79) dX7_count_75 (by decide) ?_
        refine pp_iadd dX7_count_79 (q := 80) rfl ?_
        try rw [nI_add]
        refine pp_istore_n dX7_count_80 (by decide) (ls1_3 (nl1 rfl)) (q := 81) rfl ?_
        refine pp_iinc dX7_count_81 rfl (nI_1 _) (ls1_4 (nl1 rfl)) (q := 84) rfl ?_
        refine pp_goto (tgt := 38) dX7_count_84 (by decide) ?_
        first
          | exact hk _ (fun q => absurd hx0 q.1) (fun _ => rfl)
          | exact hk _ (fun q => absurd q.2.1 hu) (fun _ => rfl)
          | exact hk _ (fun q => absurd q.2.2 c71) (fun _ => rfl)
          | exact hk _ (fun _ => rfl) (fun q => absurd ⟨hx0, hu, c71⟩ q)
theorem cnb_i {A : AW} {x i : Nat} {kind : Int32} : cnb A x kind i = true ↔ (i ≠ x ∧ upA A i ∧ (A.1 i).2.2 31 x = kind) := by
  unfold cnb
  rw [Bool.and_eq_true, Bool.and_eq_true]
  exact ⟨fun q => ⟨of_decide_eq_true q.1.1, upb_up q.1.2, of_decide_eq_true q.2⟩, fun q => ⟨⟨decide_eq_true q.1, upb_t q.2.1⟩, decide_eq_true q.2.2⟩⟩
theorem l_cnt {ad : Nm → Nat} {g : Sg} {A : AW} {N n x : Nat} {kind : Int32} (h : RS g A n False) (hI : INV N N A) (hx : x < 64) : ∀ (j i : Nat), 64 - i < j → i ≤ 64 → PS mX7_count 38 [some (.ref (ad (40, 0, 0))), some (.int (nI x)), some (.int kind), some (.int (nI (sel (cnb A x kind) i).length)), some (.int (nI i))] [] ad g (Ri (fun r g' => r = nI (sel (cnb A x kind) 64).length ∧ g' = g)) := by
  intro j
  induction j with
  | zero => intro i h; omega
  | succ j ih =>
    intro i hij hik
    by_cases e : i = 64
    · subst e
      refine pp_iload dX7_count_38 rfl (q := 40) rfl ?_
      refine pp_bipush dX7_count_40 cb_64 (q := 42) rfl ?_
      refine pp_icmp_ge (tgt := 87) dX7_count_42 (by decide) (q := 45) rfl (fun c42 => ?_) (fun c42 => absurd (by decide) c42)
      refine pp_iload_n dX7_count_87 rfl (q := 88) rfl ?_
      refine ri_ret dX7_count_88 rfl rfl ?_
      exact ⟨rfl, rfl⟩
    · refine s_cnt h hI hx (by omega) (fun c h1 h2 => ?_)
      rw [sel_up1 (fun q => h1 (cnb_i.mp q)) (fun q => h2 (fun z => q (cnb_i.mpr z)))]
      exact ih (i + 1) (by omega) (by omega)
set_option maxRecDepth 20000 in
set_option maxHeartbeats 4000000 in
theorem m_count {ad : Nm → Nat} {g : Sg} {S : CS} {a b : Int32} (hR : RR g S) (hH : okH (sH S)) : PS mX7_count 0 (ent mX7_count [.ref (ad (40, 0, 0)), .int a, .int b]) [] ad g (MdQ g (anS S (qCount (runA (sH S)) a b))) := by
  have h := hR.1
  have hI := inv_run hH
  have hn := okH_len hH
  show PP mX7_count 0 [some (.ref (ad (40, 0, 0))), some (.int a), some (.int b), none, none] [] (Rel ad g) _
  refine pp_iload_n dX7_count_0 rfl (q := 1) rfl ?_
  refine ps_callSi dX7_count_1 lk_X7_121 (by rfl) m_isMem (by rfl) (by exact Nat.le_of_ble_eq_true rfl) (by decide) (by decide) (by exact Nat.le_of_ble_eq_true rfl) (q := 4) rfl (fun r1 g1 h1 => ?_)
  obtain ⟨hb1, rfl⟩ := And.intro h1.1 h1.2.symm
  refine pp_if_ne (tgt := 14) dX7_count_4 (by decide) (q := 7) rfl (fun c4 => ?_) (fun c4 => ?_)
  · obtain ⟨x, hx, rfl⟩ := isB_t hb1 c4
    refine pp_iload_n dX7_count_14 rfl (q := 15) rfl ?_
    refine pp_i2l dX7_count_15 (q := 16) rfl ?_
    refine pp_lconst (v := lN 0) dX7_count_16 rfl (q := 17) rfl ?_
    refine pp_ldc2 (v := lN 4) dX7_count_17 kc_X7_163 (q := 20) rfl ?_
    refine ps_callSi dX7_count_20 lk_X7_165 (by rfl) (m_isIn (x := b) (n := 5) (by omega) (by omega)) (by rfl) (by exact Nat.le_of_ble_eq_true rfl) (by decide) (by decide) (by exact Nat.le_of_ble_eq_true rfl) (q := 23) rfl (fun r20 g20 h20 => ?_)
    obtain ⟨hb20, rfl⟩ := And.intro h20.1 h20.2.symm
    refine pp_if_ne (tgt := 33) dX7_count_23 (by decide) (q := 26) rfl (fun c23 => ?_) (fun c23 => ?_)
    · have hb := isB_t hb20 c23
      refine pp_iconst dX7_count_33 ci_0 (q := 34) rfl ?_
      refine pp_istore_n dX7_count_34 (by decide) (ls1_3 (nl1 rfl)) (q := 35) rfl ?_
      refine pp_iconst dX7_count_35 ci_0 (q := 36) rfl ?_
      refine pp_istore dX7_count_36 (by decide) (ls1_4 (nl1 rfl)) (q := 38) rfl ?_
      exact wkQ (l_cnt h hI hx 65 0 (by omega) (by omega)) hR (by unfold qCount; rw [cIf_t ⟨x, hx, rfl⟩, cIf_t hb, cl_nI (by omega)])
    · have hi := isB_f hb20 c23
      refine pp_aload_n dX7_count_26 rfl isRf_r (q := 27) rfl ?_
      refine pp_bipush dX7_count_27 cb_m9 (q := 29) rfl ?_
      refine ps_callVi dX7_count_29 lk_X7_132 (by exact h.1) (by rfl) (by rfl) (by rfl) (m_no9 h.1) (by rfl) (by exact Nat.le_of_ble_eq_true rfl) (by decide) (by decide) (by exact Nat.le_of_ble_eq_true rfl) (q := 32) rfl (fun r29 g29 h29 => ?_)
      obtain ⟨rfl, rfl⟩ := And.intro h29.1.symm h29.2.symm
      refine ri_ret dX7_count_32 rfl rfl ?_
      exact mq_inl hR (by unfold isW; omega) (by unfold qCount; rw [cIf_t ⟨x, hx, rfl⟩, cIf_f hi])
  · have ha := isB_f hb1 c4
    refine pp_aload_n dX7_count_7 rfl isRf_r (q := 8) rfl ?_
    refine pp_bipush dX7_count_8 cb_m3 (q := 10) rfl ?_
    refine ps_callVi dX7_count_10 lk_X7_132 (by exact h.1) (by rfl) (by rfl) (by rfl) (m_no3 h.1) (by rfl) (by exact Nat.le_of_ble_eq_true rfl) (by decide) (by decide) (by exact Nat.le_of_ble_eq_true rfl) (q := 13) rfl (fun r10 g10 h10 => ?_)
    obtain ⟨rfl, rfl⟩ := And.intro h10.1.symm h10.2.symm
    refine ri_ret dX7_count_13 rfl rfl ?_
    exact mq_inl hR (by unfold isW; omega) (cIf_f ha)
