theorem wyLt {A : AW} {n v : Nat} {a b : Int32} (hv : v = 7 ∨ v = 8 ∨ v = 9) (h : whyA A n v a b = nI 0) : (∃ l, l < bL (aB A) ∧ a = nI l ∧ bl (aB A) l 5 = nI 0) ∧ bL (aB A) ≤ 1196 ∧ bP (aB A) ≤ 19800 := by
  have q := whyA_0 h
  have q1 : ¬ ¬ isLt A a := by rcases hv with rfl | rfl | rfl <;> exact q.1
  have q2 : ¬ ∃ l, l < bL (aB A) ∧ a = nI l ∧ ¬ bl (aB A) l 5 = 0 := by rcases hv with rfl | rfl | rfl <;> exact q.2.1
  obtain ⟨l, hl, e⟩ := Classical.not_not.mp q1
  exact ⟨⟨l, hl, e, Classical.not_not.mp (fun z => q2 ⟨l, hl, e, z⟩)⟩, q.2.2.2.2.1⟩
theorem RF_st {f : Nat → Int32} {sd : Nat → Int64} {A : AW} {B : Bk} {n l : Nat} {v : Int32} (h : RF f sd A n False) (hl : l < bL (aB A)) (e1 : B.1 = (aB A).1) (e2 : ∀ l' c, bl B l' c = if l' = l ∧ c = 5 then v else bl (aB A) l' c) (e3 : bp B = bp (aB A)) : RF (upd f (29120 + 8 * l + 6) v) sd (aBk A B) n False := by
  obtain ⟨h1, h2, ⟨h3, h4, h5, h6, h7⟩, h8, h9⟩ := h
  have eL : bL B = bL (aB A) := congrArg (fun z => z.1) e1
  have eP : bP B = bP (aB A) := congrArg (fun z => z.2) e1
  have eo : ∀ k, k < 29120 ∨ 38720 ≤ k → upd f (29120 + 8 * l + 6) v k = f k := fun k hk => upd_ne (by omega)
  refine ⟨h1.cg (fun k hk => eo k (by omega)), h2.cg (fun k _ hk => eo k (by omega)), ⟨?_, ?_, ?_, fun l' c hl' hc _ => ?_, fun q c hq hc => ?_⟩, h8.cg (fun k hk _ => eo k (by omega)), (eo _ (by omega)).trans h9⟩
  · show bL B ≤ 1200 ∧ bP B ≤ 20000
    rw [eL, eP]; exact h3
  · show _ = nI (bL B)
    rw [eL]; exact (eo _ (by omega)).trans h4
  · show _ = nI (bP B)
    rw [eP]; exact (eo _ (by omega)).trans h5
  · have hl'' : l' < bL (aB A) := eL ▸ hl'
    show _ = bl B l' (lcx c)
    rw [e2]
    by_cases q : l' = l ∧ c = 6
    · obtain ⟨rfl, rfl⟩ := q
      rw [if_pos ⟨rfl, rfl⟩]
      exact upd_eq
    · have hc5 : ¬ (l' = l ∧ lcx c = 5) := fun z => q ⟨z.1, by
        have : c = 0 ∨ c = 1 ∨ c = 2 ∨ c = 3 ∨ c = 4 ∨ c = 5 ∨ c = 6 ∨ c = 7 := by omega
        have z2 := z.2
        rcases this with rfl | rfl | rfl | rfl | rfl | rfl | rfl | rfl <;> first | rfl | exact absurd z2 (by decide)⟩
      rw [if_neg hc5, ← h6 l' c hl'' hc (fun q => q.elim)]
      exact upd_ne (by unfold ltx; omega)
  · show _ = bp B q c
    rw [e3, ← h7 q c (eP ▸ hq) hc]
    exact eo _ (by omega)
theorem sel3 {a b c : Nat → Bool} : ∀ n, (∀ i, i < n → (a i = true ∧ b i = false ∧ c i = false) ∨ (a i = false ∧ b i = true ∧ c i = false) ∨ (a i = false ∧ b i = false ∧ c i = true)) → (sel a n).length + (sel b n).length + (sel c n).length = n
  | 0, _ => rfl
  | n + 1, h => by
    have ih := sel3 n (fun i hi => h i (by omega))
    rw [sel_s, sel_s, sel_s]
    rcases h n (by omega) with ⟨h1, h2, h3⟩ | ⟨h1, h2, h3⟩ | ⟨h1, h2, h3⟩ <;> rw [h1, h2, h3] <;> simp <;> omega
theorem stN_sum {N : Nat} {B : Bk} (h : okB N B) : stN B 0 + stN B 1 + stN B 2 = bL B := by
  refine sel3 (bL B) (fun l hl => ?_)
  obtain ⟨-, -, -, -, -, -, -, h5, -⟩ := h.2.2.1 l hl
  rcases h5 with e | e | e
  · exact Or.inl ⟨decide_eq_true e, decide_eq_false (by rw [e]; decide), decide_eq_false (by rw [e]; decide)⟩
  · exact Or.inr (Or.inl ⟨decide_eq_false (by rw [e]; decide), decide_eq_true e, decide_eq_false (by rw [e]; decide)⟩)
  · exact Or.inr (Or.inr ⟨decide_eq_false (by rw [e]; decide), decide_eq_false (by rw [e]; decide), decide_eq_true e⟩)
theorem stN_un {N : Nat} {B : Bk} (h : okB N B) : nI (bL B) - nI (bD B) - nI (bX B) = nI (stN B 0) := by
  have q := stN_sum h
  rw [h.2.2.2.1, h.2.2.2.2, nI_sb (by omega), nI_sb (by omega)]
  congr 1
  omega
set_option maxRecDepth 20000 in
set_option maxHeartbeats 4000000 in
theorem s_wst {ad : Nm → Nat} {g : Sg} {A : AW} {n v : Nat} {i L : Nat} {Q : Option Value → PH → Prop} (h : RS g A n False) (hi : i < bL (aB A)) (hk : ∀ c, (bl (aB A) i 5 = nI v → c = L + 1) → (¬ bl (aB A) i 5 = nI v → c = L) → PP mX7_withState 4 [some (.ref (ad (40, 0, 0))), some (.int (nI v)), some (.int (nI c)), some (.int (nI (i + 1)))] [] (Rel ad g) Q) : PP mX7_withState 4 [some (.ref (ad (40, 0, 0))), some (.int (nI v)), some (.int (nI L)), some (.int (nI i))] [] (Rel ad g) Q := by
  refine pp_iload_n dX7_withState_4 rfl (q := 5) rfl ?_
  refine pp_aload_n dX7_withState_5 rfl isRf_r (q := 6) rfl ?_
  refine ps_get dX7_withState_6 fl_X7_8 h.1 rfl rfl (q := 9) rfl ?_
  refine pp_ldc (v := nI 118720) dX7_withState_9 kc_X7_51 (q := 11) rfl ?_
  refine ps_iald (j := 118720) dX7_withState_11 h.1 rfl rfl (by omega) (by decide) (q := 12) rfl ?_
  rw [h.2.2.2.1.2.1]
  refine pp_icmp_ge (tgt := 40) dX7_withState_12 (by decide) (q := 15) rfl (fun c12 => absurd c12 (nI_ge hi (by have := h.2.2.2.1.1; omega))) (fun c12 => ?_)
  refine pp_iload_n dX7_withState_15 rfl (q := 16) rfl ?_
  refine pp_aload_n dX7_withState_16 rfl isRf_r (q := 17) rfl ?_
  refine pp_iload_n dX7_withState_17 rfl (q := 18) rfl ?_
  refine pp_bipush dX7_withState_18 cb_6 (q := 20) rfl ?_
  refine ps_callVi dX7_withState_20 lk_X7_83 (by exact h.1) (by rfl) (by rfl) (by rfl) (m_lt (c := 6) h hi (by omega)) (by rfl) (by exact Nat.le_of_ble_eq_true rfl) (by decide) (by decide) (by exact Nat.le_of_ble_eq_true rfl) (q := 23) rfl (fun r20 g20 h20 => ?_)
  obtain ⟨rfl, rfl⟩ := And.intro h20.1.symm h20.2.symm
  refine pp_iload_n dX7_withState_23 rfl (q := 24) rfl ?_
  refine pp_icmp_ne (tgt := 31) dX7_withState_24 (by decide) (q := 27) rfl (fun c24 => ?_) (fun c24 => ?_)
  · refine pp_iconst dX7_withState_31 ci_0 (q := 32) rfl ?_
    refine pp_iadd dX7_withState_32 (q := 33) rfl ?_
    try rw [nI_add]
    refine pp_istore_n dX7_withState_33 (by decide) (ls1_2 (nl1 rfl)) (q := 34) rfl ?_
    refine pp_iinc dX7_withState_34 rfl (nI_1 _) (ls1_3 (nl1 rfl)) (q := 37) rfl ?_
    refine pp_goto (tgt := 4) dX7_withState_37 (by decide) ?_
    first | exact hk _ (fun q => absurd q c24) (fun _ => rfl) | exact hk _ (fun _ => rfl) (fun q => absurd c24 q)
  · refine pp_iconst dX7_withState_27 ci_1 (q := 28) rfl ?_
    refine pp_goto (tgt := 32) dX7_withState_28 (by decide) ?_
    refine pp_iadd dX7_withState_32 (q := 33) rfl ?_
    try rw [nI_add]
    refine pp_istore_n dX7_withState_33 (by decide) (ls1_2 (nl1 rfl)) (q := 34) rfl ?_
    refine pp_iinc dX7_withState_34 rfl (nI_1 _) (ls1_3 (nl1 rfl)) (q := 37) rfl ?_
    refine pp_goto (tgt := 4) dX7_withState_37 (by decide) ?_
    first | exact hk _ (fun q => absurd q c24) (fun _ => rfl) | exact hk _ (fun _ => rfl) (fun q => absurd c24 q)
theorem l_wst {ad : Nm → Nat} {g : Sg} {A : AW} {n v : Nat} (h : RS g A n False) : ∀ (j i : Nat), bL (aB A) - i < j → i ≤ bL (aB A) → PS mX7_withState 4 [some (.ref (ad (40, 0, 0))), some (.int (nI v)), some (.int (nI (sel (fun l => decide (bl (aB A) l 5 = nI v)) i).length)), some (.int (nI i))] [] ad g (Ri (fun r g' => r = nI (stN (aB A) v) ∧ g' = g)) := by
  intro j
  induction j with
  | zero => intro i h; omega
  | succ j ih =>
    intro i hij hik
    by_cases e : i = bL (aB A)
    · subst e
      refine pp_iload_n dX7_withState_4 rfl (q := 5) rfl ?_
      refine pp_aload_n dX7_withState_5 rfl isRf_r (q := 6) rfl ?_
      refine ps_get dX7_withState_6 fl_X7_8 h.1 rfl rfl (q := 9) rfl ?_
      refine pp_ldc (v := nI 118720) dX7_withState_9 kc_X7_51 (q := 11) rfl ?_
      refine ps_iald (j := 118720) dX7_withState_11 h.1 rfl rfl (by omega) (by decide) (q := 12) rfl ?_
      rw [h.2.2.2.1.2.1]
      refine pp_icmp_ge (tgt := 40) dX7_withState_12 (by decide) (q := 15) rfl (fun c12 => ?_) (fun c12 => absurd (Int32.le_refl _) c12)
      refine pp_iload_n dX7_withState_40 rfl (q := 41) rfl ?_
      refine ri_ret dX7_withState_41 rfl rfl ?_
      exact ⟨rfl, rfl⟩
    · refine s_wst h (by omega) (fun c h1 h2 => ?_)
      have ec : c = (sel (fun l => decide (bl (aB A) l 5 = nI v)) (i + 1)).length := by
        rw [sel_s]
        by_cases hd : bl (aB A) i 5 = nI v
        · rw [if_pos (decide_eq_true hd), List.length_append]; exact h1 hd
        · rw [if_neg (fun q => hd (of_decide_eq_true q))]; exact h2 hd
      rw [ec]
      exact ih (i + 1) (by omega) (by omega)
set_option maxRecDepth 20000 in
set_option maxHeartbeats 4000000 in
theorem m_with {ad : Nm → Nat} {g : Sg} {A : AW} {n v : Nat} (h : RS g A n False) : PS mX7_withState 0 (ent mX7_withState [.ref (ad (40, 0, 0)), .int (nI v)]) [] ad g (Ri (fun r g' => r = nI (stN (aB A) v) ∧ g' = g)) := by
  show PP mX7_withState 0 [some (.ref (ad (40, 0, 0))), some (.int (nI v)), none, none] [] (Rel ad g) _
  refine pp_iconst dX7_withState_0 ci_0 (q := 1) rfl ?_
  refine pp_istore_n dX7_withState_1 (by decide) (ls1_2 (nl1 rfl)) (q := 2) rfl ?_
  refine pp_iconst dX7_withState_2 ci_0 (q := 3) rfl ?_
  refine pp_istore_n dX7_withState_3 (by decide) (ls1_3 (nl1 rfl)) (q := 4) rfl ?_
  exact l_wst h (bL (aB A) + 1) 0 (by omega) (by omega)
set_option maxRecDepth 20000 in
set_option maxHeartbeats 4000000 in
theorem m_lose {ad : Nm → Nat} {g : Sg} {S : CS} {a : Int32} (hR : RR g S) (hH : okH (sH S)) : PS mX7_lose 0 (ent mX7_lose [.ref (ad (40, 0, 0)), .int a]) [] ad g (MdQ g (spAct 8 a (nI 0) (lN 0) S)) := by
  have h := hR.1
  have hI := inv_run hH
  have hn := okH_len hH
  show PP mX7_lose 0 [some (.ref (ad (40, 0, 0))), some (.int a), none] [] (Rel ad g) _
  refine pp_aload_n dX7_lose_0 rfl isRf_r (q := 1) rfl ?_
  refine pp_iload_n dX7_lose_1 rfl (q := 2) rfl ?_
  refine ps_callVi dX7_lose_2 lk_X7_150 (by exact (by first | exact h1.1 | exact h.1)) (by rfl) (by rfl) (by rfl) (m_whyL (b := nI 0) h (by omega)) (by rfl) (by exact Nat.le_of_ble_eq_true rfl) (by decide) (by decide) (by exact Nat.le_of_ble_eq_true rfl) (q := 5) rfl (fun r2 g2 h2 => ?_)
  obtain ⟨rfl, rfl⟩ := And.intro h2.1.symm h2.2.symm
  refine pp_istore_n dX7_lose_5 (by decide) (ls1_2 (nl1 rfl)) (q := 6) rfl ?_
  refine pp_iload_n dX7_lose_6 rfl (q := 7) rfl ?_
  refine pp_if_eq (tgt := 16) dX7_lose_7 (by decide) (q := 10) rfl (fun c7 => ?_) (fun c7 => ?_)
  · have hw : whyA (runA (sH S)) (sH S).length 8 a (nI 0) = nI 0 := c7
    obtain ⟨⟨l, hl, rfl, h05⟩, hlb, hpb⟩ := wyLt (by omega) hw
    obtain ⟨k, s, hp, ⟨fr, hfr, efr⟩, ⟨t, ht, et⟩, hab, -, -, hP⟩ := hI.1.2.2.1 l hl
    have es : stA (runA (sH S)) 8 (nI l) (nI 0) (lN 0) = (aBk (runA (sH S)) (exB (aB (runA (sH S))) l), nI (stN (exB (aB (runA (sH S))) l) 0)) := by
      show loA (runA (sH S)) (cl (nI l)) = _
      rw [cl_nI (by omega)]
      unfold loA
      rw [stN_un (okB_ex hI.1 hl h05)]
    refine pp_aload_n dX7_lose_16 rfl isRf_r (q := 17) rfl ?_
    refine ps_get dX7_lose_17 fl_X7_8 (by first | exact h1.1 | exact h.1) rfl rfl (q := 20) rfl ?_
    refine pp_sipush dX7_lose_20 cs_29120 (q := 23) rfl ?_
    refine pp_bipush dX7_lose_23 cb_8 (q := 25) rfl ?_
    refine pp_iload_n dX7_lose_25 rfl (q := 26) rfl ?_
    refine pp_imul dX7_lose_26 (q := 27) rfl ?_
    try rw [pk_mul]
    refine pp_iadd dX7_lose_27 (q := 28) rfl ?_
    try rw [nI_add]
    refine pp_bipush dX7_lose_28 cb_6 (q := 30) rfl ?_
    refine pp_iadd dX7_lose_30 (q := 31) rfl ?_
    try rw [nI_add]
    refine pp_iconst dX7_lose_31 ci_2 (q := 32) rfl ?_
    refine ps_iast (j := 29120 + 8 * l + 6) dX7_lose_32 (by first | exact h1.1 | exact h.1) (fun _ => rfl) rfl (by omega) (by decide) (q := 33) rfl ?_
    have h1 : RS (sA g (41, 0, 0) (upd (gA g (41, 0, 0)) (29120 + 8 * l + 6) (nI 2))) (aBk (runA (sH S)) (exB (aB (runA (sH S))) l)) (sH S).length False := ⟨h.1, RF_st h.2 hl rfl (fun _ _ => rfl) rfl⟩
    refine pp_aload_n dX7_lose_33 rfl isRf_r (q := 34) rfl ?_
    refine pp_aload_n dX7_lose_34 rfl isRf_r (q := 35) rfl ?_
    refine pp_iconst dX7_lose_35 ci_0 (q := 36) rfl ?_
    refine ps_callVi dX7_lose_36 lk_X7_156 (by exact (by first | exact h1.1 | exact h.1)) (by rfl) (by rfl) (by rfl) (m_with h1) (by rfl) (by exact Nat.le_of_ble_eq_true rfl) (by decide) (by decide) (by exact Nat.le_of_ble_eq_true rfl) (q := 39) rfl (fun r36 g36 h36 => ?_)
    obtain ⟨rfl, rfl⟩ := And.intro h36.1.symm h36.2.symm
    refine ps_callVi dX7_lose_39 lk_X7_138 (by exact (by first | exact h1.1 | exact h.1)) (by rfl) (by rfl) (by rfl) (m_dd (m := 0) h1) (by rfl) (by exact Nat.le_of_ble_eq_true rfl) (by decide) (by decide) (by exact Nat.le_of_ble_eq_true rfl) (q := 42) rfl (fun r39 g39 h39 => ?_)
    obtain ⟨rfl, hZ, hEZ⟩ := h39
    refine ri_ret dX7_lose_42 rfl rfl ?_
    have q := mq_ok (v := 8) (a := nI l) (b := nI 0) (sd := lN 0) hR (by omega) hw ((EqM.rf.sA ms41).tr hEZ) (by rw [es]; exact hZ)
    rw [es] at q
    exact q
  · obtain ⟨k, hk, ek⟩ := whyA_k (fun q => c7 q)
    rw [ek]
    refine pp_aload_n dX7_lose_10 rfl isRf_r (q := 11) rfl ?_
    refine pp_iload_n dX7_lose_11 rfl (q := 12) rfl ?_
    refine ps_callVi dX7_lose_12 lk_X7_132 (by exact (by first | exact h1.1 | exact h.1)) (by rfl) (by rfl) (by rfl) (m_no h.1 hk.1) (by rfl) (by exact Nat.le_of_ble_eq_true rfl) (by decide) (by decide) (by exact Nat.le_of_ble_eq_true rfl) (q := 15) rfl (fun r12 g12 h12 => ?_)
    obtain ⟨rfl, rfl⟩ := And.intro h12.1.symm h12.2.symm
    refine ri_ret dX7_lose_15 rfl rfl ?_
    exact mq_no hR hk (sp_no (show whyA (runA (sH S)) (sH S).length 8 a (nI 0) = - nI k from ek) hk.1)
set_option maxRecDepth 20000 in
set_option maxHeartbeats 4000000 in
theorem s_del1 {ad : Nm → Nat} {g : Sg} {A : AW} {N n l f t k s : Nat} {v2 : Int32} (h : RS g A n False) (hl : l < bL (aB A)) (hlb : bL (aB A) ≤ 1196) (hc : ¬ (upA A t ∧ ¬ tb (A.2.2.1 f) t)) : PS mX7_deliver 69 [some (.ref (ad (40, 0, 0))), some (.int (nI l)), some (.int v2), some (.int (nI f)), some (.int (nI t)), some (.int (nI 1))] [] ad g (Ri (fun v g' => v = (brA A l f t k s).2 ∧ RS g' (brA A l f t k s).1 (n + 1) False ∧ EqM g g')) := by
  refine pp_aload_n dX7_deliver_69 rfl isRf_r (q := 70) rfl ?_
  refine ps_get dX7_deliver_70 fl_X7_8 (by first | exact h1.1 | exact h.1) rfl rfl (q := 73) rfl ?_
  refine pp_sipush dX7_deliver_73 cs_29120 (q := 76) rfl ?_
  refine pp_bipush dX7_deliver_76 cb_8 (q := 78) rfl ?_
  refine pp_iload_n dX7_deliver_78 rfl (q := 79) rfl ?_
  refine pp_imul dX7_deliver_79 (q := 80) rfl ?_
  try rw [pk_mul]
  refine pp_iadd dX7_deliver_80 (q := 81) rfl ?_
  try rw [nI_add]
  refine pp_bipush dX7_deliver_81 cb_6 (q := 83) rfl ?_
  refine pp_iadd dX7_deliver_83 (q := 84) rfl ?_
  try rw [nI_add]
  refine pp_iload dX7_deliver_84 rfl (q := 86) rfl ?_
  refine pp_if_eq (tgt := 93) dX7_deliver_86 (by decide) (q := 89) rfl (fun c86 => absurd c86 (by decide)) (fun c86 => ?_)
  refine pp_iconst dX7_deliver_89 ci_2 (q := 90) rfl ?_
  refine pp_goto (tgt := 94) dX7_deliver_90 (by decide) ?_
  refine ps_iast (j := 29120 + 8 * l + 6) dX7_deliver_94 (by first | exact h1.1 | exact h.1) (fun _ => rfl) rfl (by omega) (by decide) (q := 95) rfl ?_
  have h1 : RS (sA g (41, 0, 0) (upd (gA g (41, 0, 0)) (29120 + 8 * l + 6) (nI 2))) (aBk A (exB (aB A) l)) n False := ⟨h.1, RF_st h.2 hl rfl (fun _ _ => rfl) rfl⟩
  refine pp_aload_n dX7_deliver_95 rfl isRf_r (q := 96) rfl ?_
  refine pp_iload dX7_deliver_96 rfl (q := 98) rfl ?_
  refine pp_if_eq (tgt := 105) dX7_deliver_98 (by decide) (q := 101) rfl (fun c98 => absurd c98 (by decide)) (fun c98 => ?_)
  refine pp_iconst dX7_deliver_101 ci_m1 (q := 102) rfl ?_
  refine pp_goto (tgt := 110) dX7_deliver_102 (by decide) ?_
  refine ps_callVi dX7_deliver_110 lk_X7_138 (by exact (by first | exact h1.1 | exact h.1)) (by rfl) (by rfl) (by rfl) (m_dd (m := 0) h1) (by rfl) (by exact Nat.le_of_ble_eq_true rfl) (by decide) (by decide) (by exact Nat.le_of_ble_eq_true rfl) (q := 113) rfl (fun r110 g110 h110 => ?_)
  obtain ⟨rfl, hZ, hEZ⟩ := h110
  refine ri_ret dX7_deliver_113 rfl rfl ?_
  unfold brA
  rw [cIf_f hc]
  exact ⟨rfl, hZ, (EqM.rf.sA ms41).tr hEZ⟩
set_option maxRecDepth 20000 in
set_option maxHeartbeats 4000000 in
theorem s_del0 {ad : Nm → Nat} {g : Sg} {A : AW} {N n l f t k s : Nat} {v2 : Int32} (h : RS g A n False) (hI : INV N N A) (hl : l < bL (aB A)) (h05 : bl (aB A) l 5 = nI 0) (hp : pOk (aB A) l k s) (ht : t < 64) (et : bl (aB A) l 2 = nI t) (hlb : bL (aB A) ≤ 1196) (hpb : bP (aB A) ≤ 19800) (hc : upA A t ∧ ¬ tb (A.2.2.1 f) t) : PS mX7_deliver 69 [some (.ref (ad (40, 0, 0))), some (.int (nI l)), some (.int v2), some (.int (nI f)), some (.int (nI t)), some (.int (nI 0))] [] ad g (Ri (fun v g' => v = (brA A l f t k s).2 ∧ RS g' (brA A l f t k s).1 (n + 1) False ∧ EqM g g')) := by
  refine pp_aload_n dX7_deliver_69 rfl isRf_r (q := 70) rfl ?_
  refine ps_get dX7_deliver_70 fl_X7_8 (by first | exact h2.1 | exact h1.1 | exact h.1) rfl rfl (q := 73) rfl ?_
  refine pp_sipush dX7_deliver_73 cs_29120 (q := 76) rfl ?_
  refine pp_bipush dX7_deliver_76 cb_8 (q := 78) rfl ?_
  refine pp_iload_n dX7_deliver_78 rfl (q := 79) rfl ?_
  refine pp_imul dX7_deliver_79 (q := 80) rfl ?_
  try rw [pk_mul]
  refine pp_iadd dX7_deliver_80 (q := 81) rfl ?_
  try rw [nI_add]
  refine pp_bipush dX7_deliver_81 cb_6 (q := 83) rfl ?_
  refine pp_iadd dX7_deliver_83 (q := 84) rfl ?_
  try rw [nI_add]
  refine pp_iload dX7_deliver_84 rfl (q := 86) rfl ?_
  refine pp_if_eq (tgt := 93) dX7_deliver_86 (by decide) (q := 89) rfl (fun c86 => ?_) (fun c86 => absurd rfl c86)
  refine pp_iconst dX7_deliver_93 ci_1 (q := 94) rfl ?_
  refine ps_iast (j := 29120 + 8 * l + 6) dX7_deliver_94 (by first | exact h2.1 | exact h1.1 | exact h.1) (fun _ => rfl) rfl (by omega) (by decide) (q := 95) rfl ?_
  have h1 : RS (sA g (41, 0, 0) (upd (gA g (41, 0, 0)) (29120 + 8 * l + 6) (nI 1))) (aBk A (edB (aB A) l)) n False := ⟨h.1, RF_st h.2 hl rfl (fun _ _ => rfl) rfl⟩
  have hed := okB_ed hI.1 hl h05
  have hI1 : INV N (N + 1) (aBk A (edB (aB A) l)) := (hI.bk hed (Nat.le_refl _) (fun _ _ _ q => hasQ_ed q)).up (by omega)
  obtain ⟨k', s', q1, -, -, q4, -, -, q7⟩ := hed.2.2.1 l hl
  obtain ⟨rfl, rfl⟩ := pOk_uni (show bP (edB (aB A) l) ≤ 20000 from hI.1.2.1) (pOk_ed hp) q1
  refine pp_aload_n dX7_deliver_95 rfl isRf_r (q := 96) rfl ?_
  refine pp_iload dX7_deliver_96 rfl (q := 98) rfl ?_
  refine pp_if_eq (tgt := 105) dX7_deliver_98 (by decide) (q := 101) rfl (fun c98 => ?_) (fun c98 => absurd rfl c98)
  refine pp_aload_n dX7_deliver_105 rfl isRf_r (q := 106) rfl ?_
  refine pp_iload_n dX7_deliver_106 rfl (q := 107) rfl ?_
  refine ps_callVi dX7_deliver_107 lk_X7_153 (by exact (by first | exact h2.1 | exact h1.1 | exact h.1)) (by rfl) (by rfl) (by rfl) (m_comes (m := t) h1 hI1 ht hc.1.1 q1 q7 q4 (show bl (edB (aB A) l) l 2 = nI t from (if_neg (fun q => by cases q.2)).trans et) (show bL (aB A) + 1 ≤ 1200 by omega) (show bP (aB A) + 64 ≤ 20000 by omega)) (by rfl) (by exact Nat.le_of_ble_eq_true rfl) (by decide) (by decide) (by exact Nat.le_of_ble_eq_true rfl) (q := 110) rfl (fun r107 g107 h107 => ?_)
  obtain ⟨rfl, h2, hE2⟩ := h107
  refine ps_callVi dX7_deliver_110 lk_X7_138 (by exact (by first | exact h2.1 | exact h1.1 | exact h.1)) (by rfl) (by rfl) (by rfl) (m_dd (m := 0) h2) (by rfl) (by exact Nat.le_of_ble_eq_true rfl) (by decide) (by decide) (by exact Nat.le_of_ble_eq_true rfl) (q := 113) rfl (fun r110 g110 h110 => ?_)
  obtain ⟨rfl, hZ, hEZ⟩ := h110
  refine ri_ret dX7_deliver_113 rfl rfl ?_
  unfold brA
  rw [cIf_t hc]
  exact ⟨rfl, hZ, ((EqM.rf.sA ms41).tr hE2).tr hEZ⟩
theorem wkD {ad : Nm → Nat} {g : Sg} {M : MI} {pc l : Nat} {L : PLoc} {S : CS} {R : AW × Int32} (h : PS M pc L [] ad g (Ri (fun v g' => v = R.2 ∧ RS g' R.1 ((sH S).length + 1) False ∧ EqM g g'))) (hR : RR g S) (es : stA (runA (sH S)) 7 (nI l) (nI 0) (lN 0) = R) (hw : whyA (runA (sH S)) (sH S).length 7 (nI l) (nI 0) = nI 0) : PS M pc L [] ad g (MdQ g (spAct 7 (nI l) (nI 0) (lN 0) S)) := by
  refine h.weak (fun v G hG => ?_)
  obtain ⟨g1, k1, r, k2, k3, k4, k5⟩ := hG
  refine ⟨g1, k1, r, k2, ?_⟩
  subst k3
  have q := mq_ok (v := 7) (a := nI l) (b := nI 0) (sd := lN 0) hR (by omega) hw (k5) (by rw [es]; exact k4)
  rw [es] at q
  exact q
set_option maxRecDepth 20000 in
set_option maxHeartbeats 4000000 in
theorem m_deliver {ad : Nm → Nat} {g : Sg} {S : CS} {a : Int32} (hR : RR g S) (hH : okH (sH S)) : PS mX7_deliver 0 (ent mX7_deliver [.ref (ad (40, 0, 0)), .int a]) [] ad g (MdQ g (spAct 7 a (nI 0) (lN 0) S)) := by
  have h := hR.1
  have hI := inv_run hH
  have hn := okH_len hH
  show PP mX7_deliver 0 [some (.ref (ad (40, 0, 0))), some (.int a), none, none, none, none] [] (Rel ad g) _
  refine pp_aload_n dX7_deliver_0 rfl isRf_r (q := 1) rfl ?_
  refine pp_iload_n dX7_deliver_1 rfl (q := 2) rfl ?_
  refine ps_callVi dX7_deliver_2 lk_X7_150 (by exact (by first | exact h1.1 | exact h.1)) (by rfl) (by rfl) (by rfl) (m_whyL (b := nI 0) h (by omega)) (by rfl) (by exact Nat.le_of_ble_eq_true rfl) (by decide) (by decide) (by exact Nat.le_of_ble_eq_true rfl) (q := 5) rfl (fun r2 g2 h2 => ?_)
  obtain ⟨rfl, rfl⟩ := And.intro h2.1.symm h2.2.symm
  refine pp_istore_n dX7_deliver_5 (by decide) (ls1_2 (nl1 rfl)) (q := 6) rfl ?_
  refine pp_iload_n dX7_deliver_6 rfl (q := 7) rfl ?_
  refine pp_if_eq (tgt := 16) dX7_deliver_7 (by decide) (q := 10) rfl (fun c7 => ?_) (fun c7 => ?_)
  · have hw : whyA (runA (sH S)) (sH S).length 7 a (nI 0) = nI 0 := c7
    obtain ⟨⟨l, hl, rfl, h05⟩, hlb, hpb⟩ := wyLt (by omega) hw
    obtain ⟨k, s, hp, ⟨fr, hfr, efr⟩, ⟨t, ht, et⟩, hab, -, -, hP⟩ := hI.1.2.2.1 l hl
    have es : stA (runA (sH S)) 7 (nI l) (nI 0) (lN 0) = brA (runA (sH S)) l fr t k s := by
      show brA (runA (sH S)) (cl (nI l)) (cl (bl (aB (runA (sH S))) (cl (nI l)) 1)) (cl (bl (aB (runA (sH S))) (cl (nI l)) 2)) (cl (bl (aB (runA (sH S))) (cl (nI l)) 4)) (cl (bl (aB (runA (sH S))) (cl (nI l)) 7)) = _
      have hz := hI.1.2.1
      have hz2 := hp.2.2.2
      rw [cl_nI (n := l) (by omega), efr, et, hp.2.1, hp.2.2.1, cl_nI (by omega), cl_nI (by omega), cl_nI (by omega), cl_nI (by omega)]
    refine pp_aload_n dX7_deliver_16 rfl isRf_r (q := 17) rfl ?_
    refine pp_iload_n dX7_deliver_17 rfl (q := 18) rfl ?_
    refine pp_iconst dX7_deliver_18 ci_1 (q := 19) rfl ?_
    refine ps_callVi dX7_deliver_19 lk_X7_83 (by exact (by first | exact h1.1 | exact h.1)) (by rfl) (by rfl) (by rfl) (m_lt (c := 1) h hl (by omega)) (by rfl) (by exact Nat.le_of_ble_eq_true rfl) (by decide) (by decide) (by exact Nat.le_of_ble_eq_true rfl) (q := 22) rfl (fun r19 g19 h19 => ?_)
    obtain ⟨rfl, rfl⟩ := And.intro h19.1.symm h19.2.symm
    rw [show bl (aB (runA (sH S))) l (lcx 1) = nI fr from efr]
    refine pp_istore_n dX7_deliver_22 (by decide) (ls1_3 (nl1 rfl)) (q := 23) rfl ?_
    refine pp_aload_n dX7_deliver_23 rfl isRf_r (q := 24) rfl ?_
    refine pp_iload_n dX7_deliver_24 rfl (q := 25) rfl ?_
    refine pp_iconst dX7_deliver_25 ci_2 (q := 26) rfl ?_
    refine ps_callVi dX7_deliver_26 lk_X7_83 (by exact (by first | exact h1.1 | exact h.1)) (by rfl) (by rfl) (by rfl) (m_lt (c := 2) h hl (by omega)) (by rfl) (by exact Nat.le_of_ble_eq_true rfl) (by decide) (by decide) (by exact Nat.le_of_ble_eq_true rfl) (q := 29) rfl (fun r26 g26 h26 => ?_)
    obtain ⟨rfl, rfl⟩ := And.intro h26.1.symm h26.2.symm
    rw [show bl (aB (runA (sH S))) l (lcx 2) = nI t from et]
    refine pp_istore dX7_deliver_29 (by decide) (ls1_4 (nl1 rfl)) (q := 31) rfl ?_
    refine pp_aload_n dX7_deliver_31 rfl isRf_r (q := 32) rfl ?_
    refine ps_get dX7_deliver_32 fl_X7_8 (by first | exact h1.1 | exact h.1) rfl rfl (q := 35) rfl ?_
    refine pp_sipush dX7_deliver_35 cs_25024 (q := 38) rfl ?_
    refine pp_bipush dX7_deliver_38 cb_64 (q := 40) rfl ?_
    refine pp_iload_n dX7_deliver_40 rfl (q := 41) rfl ?_
    refine pp_imul dX7_deliver_41 (q := 42) rfl ?_
    try rw [pk_mul]
    refine pp_iadd dX7_deliver_42 (q := 43) rfl ?_
    try rw [nI_add]
    refine pp_iload dX7_deliver_43 rfl (q := 45) rfl ?_
    refine pp_iadd dX7_deliver_45 (q := 46) rfl ?_
    try rw [nI_add]
    refine ps_iald (j := 25024 + 64 * fr + t) dX7_deliver_46 (by first | exact h1.1 | exact h.1) rfl rfl (by omega) (by decide) (q := 47) rfl ?_
    refine pp_iconst dX7_deliver_47 ci_1 (q := 48) rfl ?_
    refine pp_icmp_eq (tgt := 62) dX7_deliver_48 (by decide) (q := 51) rfl (fun c48 => ?_) (fun c48 => ?_)
    · have hc : ¬ (upA (runA (sH S)) t ∧ ¬ tb ((runA (sH S)).2.2.1 fr) t) := fun q => absurd (((h.2.2.1 fr t hfr ht).2 q.2).symm.trans c48) (by decide)
      refine pp_iconst dX7_deliver_62 ci_1 (q := 63) rfl ?_
      refine pp_goto (tgt := 67) dX7_deliver_63 (by decide) ?_
      refine pp_istore dX7_deliver_67 (by decide) (ls1_5 (nl1 rfl)) (q := 69) rfl ?_
      first
        | exact wkD (s_del1 (N := 0) (k := k) (s := s) h hl hlb hc) hR es hw
        | exact wkD (s_del0 h hI hl h05 hp ht et hlb hpb hc) hR es hw
    · have hx : ¬ tb ((runA (sH S)).2.2.1 fr) t := fun q => c48 ((h.2.2.1 fr t hfr ht).1 q)
      refine pp_aload_n dX7_deliver_51 rfl isRf_r (q := 52) rfl ?_
      refine pp_iload dX7_deliver_52 rfl (q := 54) rfl ?_
      refine pp_iconst dX7_deliver_54 ci_0 (q := 55) rfl ?_
      refine ps_callVi dX7_deliver_55 lk_X7_48 (by exact (by first | exact h1.1 | exact h.1)) (by rfl) (by rfl) (by rfl) (m_of h.1 ht (by omega)) (by rfl) (by exact Nat.le_of_ble_eq_true rfl) (by decide) (by decide) (by exact Nat.le_of_ble_eq_true rfl) (q := 58) rfl (fun r55 g55 h55 => ?_)
      obtain ⟨rfl, rfl⟩ := And.intro h55.1.symm h55.2.symm
      rw [Nat.add_zero]
      refine pp_iconst dX7_deliver_58 ci_1 (q := 59) rfl ?_
      refine pp_icmp_eq (tgt := 66) dX7_deliver_59 (by decide) (q := 62) rfl (fun c59 => ?_) (fun c59 => ?_)
      · have hc : upA (runA (sH S)) t ∧ ¬ tb ((runA (sH S)).2.2.1 fr) t := ⟨(h.2.st hI ht).2.mp c59, hx⟩
        refine pp_iconst dX7_deliver_66 ci_0 (q := 67) rfl ?_
        refine pp_istore dX7_deliver_67 (by decide) (ls1_5 (nl1 rfl)) (q := 69) rfl ?_
        first
          | exact wkD (s_del1 (N := 0) (k := k) (s := s) h hl hlb hc) hR es hw
          | exact wkD (s_del0 h hI hl h05 hp ht et hlb hpb hc) hR es hw
      · have hc : ¬ (upA (runA (sH S)) t ∧ ¬ tb ((runA (sH S)).2.2.1 fr) t) := fun q => c59 ((h.2.st hI ht).2.mpr q.1)
        refine pp_iconst dX7_deliver_62 ci_1 (q := 63) rfl ?_
        refine pp_goto (tgt := 67) dX7_deliver_63 (by decide) ?_
        refine pp_istore dX7_deliver_67 (by decide) (ls1_5 (nl1 rfl)) (q := 69) rfl ?_
        first
          | exact wkD (s_del1 (N := 0) (k := k) (s := s) h hl hlb hc) hR es hw
          | exact wkD (s_del0 h hI hl h05 hp ht et hlb hpb hc) hR es hw
  · obtain ⟨k, hk, ek⟩ := whyA_k (fun q => c7 q)
    rw [ek]
    refine pp_aload_n dX7_deliver_10 rfl isRf_r (q := 11) rfl ?_
    refine pp_iload_n dX7_deliver_11 rfl (q := 12) rfl ?_
    refine ps_callVi dX7_deliver_12 lk_X7_132 (by exact (by first | exact h1.1 | exact h.1)) (by rfl) (by rfl) (by rfl) (m_no h.1 hk.1) (by rfl) (by exact Nat.le_of_ble_eq_true rfl) (by decide) (by decide) (by exact Nat.le_of_ble_eq_true rfl) (q := 15) rfl (fun r12 g12 h12 => ?_)
    obtain ⟨rfl, rfl⟩ := And.intro h12.1.symm h12.2.symm
    refine ri_ret dX7_deliver_15 rfl rfl ?_
    exact mq_no hR hk (sp_no (show whyA (runA (sH S)) (sH S).length 7 a (nI 0) = - nI k from ek) hk.1)
