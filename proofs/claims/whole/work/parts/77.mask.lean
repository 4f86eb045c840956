theorem mq_inl {g : Sg} {S : CS} {k : Nat} {q : Nat ⊕ Int32} (hR : RR g S) (hk : isW k ∧ k ≠ 7) (e : q = .inl k) : - nI k = (anS S q).1 ∧ RR (noG g k) (anS S q).2 ∧ EqX mdS g (noG g k) := by
  subst e
  exact mq_no hR hk rfl
theorem mq_inr {g : Sg} {S : CS} {x : Int32} {q : Nat ⊕ Int32} (hR : RR g S) (e : q = .inr x) : x = (anS S q).1 ∧ RR g (anS S q).2 ∧ EqX mdS g g := by
  subst e
  exact ⟨rfl, hR, EqX.rf⟩
theorem mq_inrE {g g' : Sg} {S : CS} {x : Int32} {q : Nat ⊕ Int32} (hR : RR g S) (hE : EqM g g') (hS : RS g' (runA (sH S)) (sH S).length False) (e : q = .inr x) : x = (anS S q).1 ∧ RR g' (anS S q).2 ∧ EqX mdS g g' := by
  subst e
  exact ⟨rfl, RR_m hR hE rfl hS, hE.d⟩
set_option maxRecDepth 20000 in
set_option maxHeartbeats 4000000 in
theorem m_isInG {ad : Nm → Nat} {g : Sg} {x lo hi : Int64} : PS mX7_isIn 0 (ent mX7_isIn [.long x, .long lo, .long hi]) [] ad g (Ri (fun v g' => isB v (¬ x < lo ∧ ¬ hi < x) ∧ g' = g)) := by
  show PP mX7_isIn 0 [some (.long x), none, some (.long lo), none, some (.long hi), none] [] (Rel ad g) _
  refine pp_lload_n dX7_isIn_0 rfl (q := 1) rfl ?_
  refine pp_lload_n dX7_isIn_1 rfl (q := 2) rfl ?_
  refine pp_lcmp dX7_isIn_2 (q := 3) rfl ?_
  refine pp_if_lt (tgt := 17) dX7_isIn_3 (by decide) (q := 6) rfl (fun c3 => ?_) (fun c3 => ?_)
  · have hn : ¬ (¬ x < lo ∧ ¬ hi < x) := fun q => q.1 (cmp_lt.mp c3)
    refine pp_iconst dX7_isIn_17 ci_0 (q := 18) rfl ?_
    refine ri_ret dX7_isIn_18 rfl (by decide) ?_
    first | exact ⟨isB_0 hn, rfl⟩ | exact ⟨isB_1 hy, rfl⟩
  · have h0 : ¬ x < lo := fun q => c3 (cmp_lt.mpr q)
    refine pp_lload_n dX7_isIn_6 rfl (q := 7) rfl ?_
    refine pp_lload dX7_isIn_7 rfl (q := 9) rfl ?_
    refine pp_lcmp dX7_isIn_9 (q := 10) rfl ?_
    refine pp_if_gt (tgt := 17) dX7_isIn_10 (by decide) (q := 13) rfl (fun c10 => ?_) (fun c10 => ?_)
    · have hn : ¬ (¬ x < lo ∧ ¬ hi < x) := fun q => q.2 (cmp_gt.mp c10)
      refine pp_iconst dX7_isIn_17 ci_0 (q := 18) rfl ?_
      refine ri_ret dX7_isIn_18 rfl (by decide) ?_
      first | exact ⟨isB_0 hn, rfl⟩ | exact ⟨isB_1 hy, rfl⟩
    · have hy : ¬ x < lo ∧ ¬ hi < x := ⟨h0, fun q => c10 (cmp_gt.mpr q)⟩
      refine pp_iconst dX7_isIn_13 ci_1 (q := 14) rfl ?_
      refine pp_goto (tgt := 18) dX7_isIn_14 (by decide) ?_
      refine ri_ret dX7_isIn_18 rfl (by decide) ?_
      first | exact ⟨isB_0 hn, rfl⟩ | exact ⟨isB_1 hy, rfl⟩
theorem isB_cg {v : Int32} {b b' : Prop} (h : isB v b) (e : b ↔ b') : isB v b' := by
  unfold isB at h ⊢
  rw [← e]
  exact h
theorem i2l_lt {x y : Int32} : x.toInt64 < y.toInt64 ↔ x < y := by
  rw [Int64.lt_iff_toInt_lt, Int32.toInt_toInt64, Int32.toInt_toInt64, Int32.lt_iff_toInt_lt]
theorem m_isInN {ad : Nm → Nat} {g : Sg} {x : Int32} {n : Nat} (hnb : n < 2 ^ 31 - 1) : PS mX7_isIn 0 (ent mX7_isIn [.long x.toInt64, .long (lN 0), .long (nI n - nI 1).toInt64]) [] ad g (Ri (fun v g' => isB v (inR x n) ∧ g' = g)) := by
  by_cases h : 1 ≤ n
  · rw [nI_sb h, show (nI (n - 1)).toInt64 = lN (n - 1) from nI_l (by omega)]
    exact m_isIn h hnb
  · have e : n = 0 := by omega
    subst e
    refine m_isInG.weak (fun v G hG => ?_)
    obtain ⟨g', h1, r, h2, h3, h4⟩ := hG
    refine ⟨g', h1, r, h2, isB_cg h3 ⟨fun q => ?_, fun q => ?_⟩, h4⟩
    · have q1 : ¬ x < 0 := fun z => q.1 ((i2l_le (b := 0)).mpr z)
      have q2 := Int32.not_lt.mp (fun z => q.2 (i2l_lt.mpr z))
      exact absurd (Int32.lt_of_le_of_lt q2 (by decide)) q1
    · obtain ⟨v, hv, -⟩ := q
      omega
theorem m_isInW {ad : Nm → Nat} {g : Sg} {x : Int32} : PS mX7_isIn 0 (ent mX7_isIn [.long x.toInt64, .long (-10), .long (-2)]) [] ad g (Ri (fun v g' => isB v (∃ k, isW k ∧ x = - nI k) ∧ g' = g)) := by
  refine m_isInG.weak (fun v G hG => ?_)
  obtain ⟨g', h1, r, h2, h3, h4⟩ := hG
  have e1 : x.toInt64 < -10 ↔ x < -10 := by
    rw [show (-10 : Int64) = (-10 : Int32).toInt64 from by decide]
    exact i2l_lt
  have e2 : -2 < x.toInt64 ↔ (-2 : Int32) < x := by
    rw [show (-2 : Int64) = (-2 : Int32).toInt64 from by decide]
    exact i2l_lt
  rw [e1, e2] at h3
  refine ⟨g', h1, r, h2, isB_cg h3 ⟨fun q => ngk q.2 (Int32.not_lt.mp q.1), fun q => ?_⟩, h4⟩
  refine Classical.byContradiction (fun z => ?_)
  refine ngk_no (x := x) ?_ q
  by_cases c : (-2 : Int32) < x
  · exact Or.inl c
  · exact Or.inr (fun d => z ⟨Int32.not_lt.mpr d, c⟩)
theorem m_isIn1 {ad : Nm → Nat} {g : Sg} {x : Int32} : PS mX7_isIn 0 (ent mX7_isIn [.long x.toInt64, .long (lN 1), .long (lN 4)]) [] ad g (Ri (fun v g' => isB v (inR x 5 ∧ ¬ x = 0) ∧ g' = g)) := by
  refine m_isInG.weak (fun v G hG => ?_)
  obtain ⟨g', h1, r, h2, h3, h4⟩ := hG
  have e1 : x.toInt64 < lN 1 ↔ x < nI 1 := by
    rw [show lN 1 = (nI 1).toInt64 from (nI_l (by omega)).symm]
    exact i2l_lt
  have e2 : lN 4 < x.toInt64 ↔ nI 4 < x := i2l_gt (by omega)
  rw [e1, e2] at h3
  refine ⟨g', h1, r, h2, isB_cg h3 ⟨fun q => ?_, fun q => ?_⟩, h4⟩
  · have q1 := Int32.not_lt.mp q.1
    refine ⟨inR_yes (by omega) (Int32.not_lt.mpr (Int32.le_trans (by decide) q1)) (lt_of_le (by omega) (Int32.not_lt.mp q.2)), fun z => ?_⟩
    subst z
    exact absurd q1 (by decide)
  · obtain ⟨⟨v, hv, rfl⟩, hz⟩ := q
    have : v = 0 ∨ v = 1 ∨ v = 2 ∨ v = 3 ∨ v = 4 := by omega
    rcases this with rfl | rfl | rfl | rfl | rfl
    · exact absurd rfl hz
    all_goals decide
set_option maxRecDepth 20000 in
set_option maxHeartbeats 4000000 in
theorem m_letters {ad : Nm → Nat} {g : Sg} {S : CS} {a : Int32} (hR : RR g S) (hH : okH (sH S)) : PS mX7_letters 0 (ent mX7_letters [.ref (ad (40, 0, 0)), .int a]) [] ad g (MdQ g (anS S (qLetters (aB (runA (sH S))) a))) := by
  have h := hR.1
  have hI := inv_run hH
  have hn := okH_len hH
  show PP mX7_letters 0 [some (.ref (ad (40, 0, 0))), some (.int a)] [] (Rel ad g) _
  refine pp_iload_n dX7_letters_0 rfl (q := 1) rfl ?_
  refine pp_i2l dX7_letters_1 (q := 2) rfl ?_
  refine pp_lconst (v := lN 0) dX7_letters_2 rfl (q := 3) rfl ?_
  refine pp_ldc2 (v := lN 4) dX7_letters_3 kc_X7_163 (q := 6) rfl ?_
  refine ps_callSi dX7_letters_6 lk_X7_165 (by rfl) (m_isIn (x := a) (n := 5) (by omega) (by omega)) (by rfl) (by exact Nat.le_of_ble_eq_true rfl) (by decide) (by decide) (by exact Nat.le_of_ble_eq_true rfl) (q := 9) rfl (fun r6 g6 h6 => ?_)
  obtain ⟨hb6, rfl⟩ := And.intro h6.1 h6.2.symm
  refine pp_if_ne (tgt := 19) dX7_letters_9 (by decide) (q := 12) rfl (fun c9 => ?_) (fun c9 => ?_)
  · obtain ⟨v, hv, rfl⟩ := isB_t hb6 c9
    have hq : qLetters (aB (runA (sH S))) (nI v) = .inr (ltV (aB (runA (sH S))) v) := by unfold qLetters; rw [cIf_t ⟨v, hv, rfl⟩, cl_nI (by omega)]
    refine pp_iload_n dX7_letters_19 rfl (q := 20) rfl ?_
    refine pp_if_ne (tgt := 33) dX7_letters_20 (by decide) (q := 23) rfl (fun c20 => ?_) (fun c20 => ?_)
    · have h0 : ¬ v = 0 := fun q => c20 (by rw [q]; rfl)
      refine pp_iload_n dX7_letters_33 rfl (q := 34) rfl ?_
      refine pp_iconst dX7_letters_34 ci_4 (q := 35) rfl ?_
      refine pp_icmp_ne (tgt := 48) dX7_letters_35 (by decide) (q := 38) rfl (fun c35 => ?_) (fun c35 => ?_)
      · have h4 : ¬ v = 4 := fun q => c35 (by rw [q])
        refine pp_aload_n dX7_letters_48 rfl isRf_r (q := 49) rfl ?_
        refine pp_iload_n dX7_letters_49 rfl (q := 50) rfl ?_
        refine pp_iconst dX7_letters_50 ci_1 (q := 51) rfl ?_
        refine pp_isub dX7_letters_51 (q := 52) rfl ?_
        rw [nI_sb (by omega)]
        refine ps_callVi dX7_letters_52 lk_X7_156 (by exact h.1) (by rfl) (by rfl) (by rfl) (m_with h) (by rfl) (by exact Nat.le_of_ble_eq_true rfl) (by decide) (by decide) (by exact Nat.le_of_ble_eq_true rfl) (q := 55) rfl (fun r52 g52 h52 => ?_)
        obtain ⟨rfl, rfl⟩ := And.intro h52.1.symm h52.2.symm
        refine ri_ret dX7_letters_55 rfl rfl ?_
        first
          | exact mq_inr hR hq
          | (have hv : v = 1 ∨ v = 2 ∨ v = 3 := by omega
             have hs := stN_un hI.1
             rcases hv with rfl | rfl | rfl
             · rw [show 1 - 1 = 0 from rfl, ← hs]; exact mq_inr hR hq
             · rw [show 2 - 1 = 1 from rfl, ← hI.1.2.2.2.1]; exact mq_inr hR hq
             · rw [show 3 - 1 = 2 from rfl, ← hI.1.2.2.2.2]; exact mq_inr hR hq)
      · have h4 : v = 4 := eqT c35 (by omega) (by omega)
        subst h4
        refine pp_aload_n dX7_letters_38 rfl isRf_r (q := 39) rfl ?_
        refine ps_get dX7_letters_39 fl_X7_8 h.1 rfl rfl (q := 42) rfl ?_
        refine pp_ldc (v := nI 118721) dX7_letters_42 kc_X7_52 (q := 44) rfl ?_
        refine ps_iald (j := 118721) dX7_letters_44 h.1 rfl rfl (by omega) (by decide) (q := 45) rfl ?_
        rw [h.2.2.2.1.2.2.1]
        refine pp_goto (tgt := 55) dX7_letters_45 (by decide) ?_
        refine ri_ret dX7_letters_55 rfl rfl ?_
        first
          | exact mq_inr hR hq
          | (have hv : v = 1 ∨ v = 2 ∨ v = 3 := by omega
             have hs := stN_un hI.1
             rcases hv with rfl | rfl | rfl
             · rw [show 1 - 1 = 0 from rfl, ← hs]; exact mq_inr hR hq
             · rw [show 2 - 1 = 1 from rfl, ← hI.1.2.2.2.1]; exact mq_inr hR hq
             · rw [show 3 - 1 = 2 from rfl, ← hI.1.2.2.2.2]; exact mq_inr hR hq)
    · have h0 : v = 0 := eqT (b := 0) c20 (by omega) (by omega)
      subst h0
      refine pp_aload_n dX7_letters_23 rfl isRf_r (q := 24) rfl ?_
      refine ps_get dX7_letters_24 fl_X7_8 h.1 rfl rfl (q := 27) rfl ?_
      refine pp_ldc (v := nI 118720) dX7_letters_27 kc_X7_51 (q := 29) rfl ?_
      refine ps_iald (j := 118720) dX7_letters_29 h.1 rfl rfl (by omega) (by decide) (q := 30) rfl ?_
      rw [h.2.2.2.1.2.1]
      refine pp_goto (tgt := 55) dX7_letters_30 (by decide) ?_
      refine ri_ret dX7_letters_55 rfl rfl ?_
      first
        | exact mq_inr hR hq
        | (have hv : v = 1 ∨ v = 2 ∨ v = 3 := by omega
           have hs := stN_un hI.1
           rcases hv with rfl | rfl | rfl
           · rw [show 1 - 1 = 0 from rfl, ← hs]; exact mq_inr hR hq
           · rw [show 2 - 1 = 1 from rfl, ← hI.1.2.2.2.1]; exact mq_inr hR hq
           · rw [show 3 - 1 = 2 from rfl, ← hI.1.2.2.2.2]; exact mq_inr hR hq)
  · have hi := isB_f hb6 c9
    refine pp_aload_n dX7_letters_12 rfl isRf_r (q := 13) rfl ?_
    refine pp_bipush dX7_letters_13 cb_m9 (q := 15) rfl ?_
    refine ps_callVi dX7_letters_15 lk_X7_132 (by exact h.1) (by rfl) (by rfl) (by rfl) (m_no9 h.1) (by rfl) (by exact Nat.le_of_ble_eq_true rfl) (by decide) (by decide) (by exact Nat.le_of_ble_eq_true rfl) (q := 18) rfl (fun r15 g15 h15 => ?_)
    obtain ⟨rfl, rfl⟩ := And.intro h15.1.symm h15.2.symm
    refine ri_ret dX7_letters_18 rfl rfl ?_
    exact mq_inl hR (by unfold isW; omega) (cIf_f hi)
set_option maxRecDepth 20000 in
set_option maxHeartbeats 4000000 in
theorem m_letter {ad : Nm → Nat} {g : Sg} {S : CS} {a b : Int32} (hR : RR g S) (hH : okH (sH S)) : PS mX7_letter 0 (ent mX7_letter [.ref (ad (40, 0, 0)), .int a, .int b]) [] ad g (MdQ g (anS S (qLetter (aB (runA (sH S))) a b))) := by
  have h := hR.1
  have hI := inv_run hH
  have hn := okH_len hH
  show PP mX7_letter 0 [some (.ref (ad (40, 0, 0))), some (.int a), some (.int b)] [] (Rel ad g) _
  refine pp_aload_n dX7_letter_0 rfl isRf_r (q := 1) rfl ?_
  refine pp_iload_n dX7_letter_1 rfl (q := 2) rfl ?_
  refine ps_callVi dX7_letter_2 lk_X7_147 (by exact h.1) (by rfl) (by rfl) (by rfl) (m_isLetter h.1 h.2.2.2.1.2.1 (by have := h.2.2.2.1.1; omega)) (by rfl) (by exact Nat.le_of_ble_eq_true rfl) (by decide) (by decide) (by exact Nat.le_of_ble_eq_true rfl) (q := 5) rfl (fun r2 g2 h2 => ?_)
  obtain ⟨hb2, rfl⟩ := And.intro h2.1 h2.2.symm
  refine pp_if_ne (tgt := 15) dX7_letter_5 (by decide) (q := 8) rfl (fun c5 => ?_) (fun c5 => ?_)
  · obtain ⟨l, hl, rfl⟩ := isB_t hb2 c5
    refine pp_iload_n dX7_letter_15 rfl (q := 16) rfl ?_
    refine pp_i2l dX7_letter_16 (q := 17) rfl ?_
    refine pp_lconst (v := lN 0) dX7_letter_17 rfl (q := 18) rfl ?_
    refine pp_ldc2 (v := lN 6) dX7_letter_18 kc_X7_169 (q := 21) rfl ?_
    refine ps_callSi dX7_letter_21 lk_X7_165 (by rfl) (m_isIn (x := b) (n := 7) (by omega) (by omega)) (by rfl) (by exact Nat.le_of_ble_eq_true rfl) (by decide) (by decide) (by exact Nat.le_of_ble_eq_true rfl) (q := 24) rfl (fun r21 g21 h21 => ?_)
    obtain ⟨hb21, rfl⟩ := And.intro h21.1 h21.2.symm
    refine pp_if_ne (tgt := 34) dX7_letter_24 (by decide) (q := 27) rfl (fun c24 => ?_) (fun c24 => ?_)
    · obtain ⟨v, hv, rfl⟩ := isB_t hb21 c24
      refine pp_aload_n dX7_letter_34 rfl isRf_r (q := 35) rfl ?_
      refine pp_iload_n dX7_letter_35 rfl (q := 36) rfl ?_
      refine pp_iload_n dX7_letter_36 rfl (q := 37) rfl ?_
      refine pp_iconst dX7_letter_37 ci_4 (q := 38) rfl ?_
      refine pp_icmp_ge (tgt := 45) dX7_letter_38 (by decide) (q := 41) rfl (fun c38 => ?_) (fun c38 => ?_)
      · have h4 : 4 ≤ v := leT c38 (by omega) (by omega)
        refine pp_iload_n dX7_letter_45 rfl (q := 46) rfl ?_
        refine pp_iconst dX7_letter_46 ci_1 (q := 47) rfl ?_
        refine pp_iadd dX7_letter_47 (q := 48) rfl ?_
        try rw [nI_add]
        refine ps_callVi dX7_letter_48 lk_X7_83 (by exact h.1) (by rfl) (by rfl) (by rfl) (m_lt h hl (by omega)) (by rfl) (by exact Nat.le_of_ble_eq_true rfl) (by decide) (by decide) (by exact Nat.le_of_ble_eq_true rfl) (q := 51) rfl (fun r48 g48 h48 => ?_)
        obtain ⟨rfl, rfl⟩ := And.intro h48.1.symm h48.2.symm
        refine ri_ret dX7_letter_51 rfl rfl ?_
        have hq : qLetter (aB (runA (sH S))) (nI l) (nI v) = .inr (bl (aB (runA (sH S))) l v) := by unfold qLetter; rw [cIf_t ⟨l, hl, rfl⟩, cIf_t ⟨v, hv, rfl⟩, cl_nI (by have := h.2.2.2.1.1; omega), cl_nI (by omega)]
        first
          | (have e : lcx v = v := by
               have : v = 0 ∨ v = 1 ∨ v = 2 ∨ v = 3 := by omega
               rcases this with rfl | rfl | rfl | rfl <;> rfl
             rw [e]
             exact mq_inr hR hq)
          | (have e : lcx (v + 1) = v := by
               have : v = 4 ∨ v = 5 ∨ v = 6 := by omega
               rcases this with rfl | rfl | rfl <;> rfl
             rw [e]
             exact mq_inr hR hq)
      · have h4 : v < 4 := ltT (Int32.not_le.mp c38) (by omega) (by omega)
        refine pp_iload_n dX7_letter_41 rfl (q := 42) rfl ?_
        refine pp_goto (tgt := 48) dX7_letter_42 (by decide) ?_
        refine ps_callVi dX7_letter_48 lk_X7_83 (by exact h.1) (by rfl) (by rfl) (by rfl) (m_lt h hl (by omega)) (by rfl) (by exact Nat.le_of_ble_eq_true rfl) (by decide) (by decide) (by exact Nat.le_of_ble_eq_true rfl) (q := 51) rfl (fun r48 g48 h48 => ?_)
        obtain ⟨rfl, rfl⟩ := And.intro h48.1.symm h48.2.symm
        refine ri_ret dX7_letter_51 rfl rfl ?_
        have hq : qLetter (aB (runA (sH S))) (nI l) (nI v) = .inr (bl (aB (runA (sH S))) l v) := by unfold qLetter; rw [cIf_t ⟨l, hl, rfl⟩, cIf_t ⟨v, hv, rfl⟩, cl_nI (by have := h.2.2.2.1.1; omega), cl_nI (by omega)]
        first
          | (have e : lcx v = v := by
               have : v = 0 ∨ v = 1 ∨ v = 2 ∨ v = 3 := by omega
               rcases this with rfl | rfl | rfl | rfl <;> rfl
             rw [e]
             exact mq_inr hR hq)
          | (have e : lcx (v + 1) = v := by
               have : v = 4 ∨ v = 5 ∨ v = 6 := by omega
               rcases this with rfl | rfl | rfl <;> rfl
             rw [e]
             exact mq_inr hR hq)
    · have hi := isB_f hb21 c24
      refine pp_aload_n dX7_letter_27 rfl isRf_r (q := 28) rfl ?_
      refine pp_bipush dX7_letter_28 cb_m9 (q := 30) rfl ?_
      refine ps_callVi dX7_letter_30 lk_X7_132 (by exact h.1) (by rfl) (by rfl) (by rfl) (m_no9 h.1) (by rfl) (by exact Nat.le_of_ble_eq_true rfl) (by decide) (by decide) (by exact Nat.le_of_ble_eq_true rfl) (q := 33) rfl (fun r30 g30 h30 => ?_)
      obtain ⟨rfl, rfl⟩ := And.intro h30.1.symm h30.2.symm
      refine ri_ret dX7_letter_33 rfl rfl ?_
      exact mq_inl hR (by unfold isW; omega) (by unfold qLetter; rw [cIf_t ⟨l, hl, rfl⟩, cIf_f hi])
  · have hi := isB_f hb2 c5
    refine pp_aload_n dX7_letter_8 rfl isRf_r (q := 9) rfl ?_
    refine pp_bipush dX7_letter_9 cb_m3 (q := 11) rfl ?_
    refine ps_callVi dX7_letter_11 lk_X7_132 (by exact h.1) (by rfl) (by rfl) (by rfl) (m_no3 h.1) (by rfl) (by exact Nat.le_of_ble_eq_true rfl) (by decide) (by decide) (by exact Nat.le_of_ble_eq_true rfl) (q := 14) rfl (fun r11 g11 h11 => ?_)
    obtain ⟨rfl, rfl⟩ := And.intro h11.1.symm h11.2.symm
    refine ri_ret dX7_letter_14 rfl rfl ?_
    exact mq_inl hR (by unfold isW; omega) (cIf_f hi)
set_option maxRecDepth 20000 in
set_option maxHeartbeats 4000000 in
theorem m_table {ad : Nm → Nat} {g : Sg} {S : CS} {a : Int32} (hR : RR g S) (hH : okH (sH S)) : PS mX7_table 0 (ent mX7_table [.ref (ad (40, 0, 0)), .int a]) [] ad g (MdQ g (anS S (qTable (sT S) a))) := by
  have h := hR.1
  have hI := inv_run hH
  have hn := okH_len hH
  show PP mX7_table 0 [some (.ref (ad (40, 0, 0))), some (.int a)] [] (Rel ad g) _
  refine pp_iload_n dX7_table_0 rfl (q := 1) rfl ?_
  refine pp_i2l dX7_table_1 (q := 2) rfl ?_
  refine pp_lconst (v := lN 0) dX7_table_2 rfl (q := 3) rfl ?_
  refine pp_ldc2 (v := lN 15) dX7_table_3 kc_X7_180 (q := 6) rfl ?_
  refine ps_callSi dX7_table_6 lk_X7_165 (by rfl) (m_isIn (x := a) (n := 16) (by omega) (by omega)) (by rfl) (by exact Nat.le_of_ble_eq_true rfl) (by decide) (by decide) (by exact Nat.le_of_ble_eq_true rfl) (q := 9) rfl (fun r6 g6 h6 => ?_)
  obtain ⟨hb6, rfl⟩ := And.intro h6.1 h6.2.symm
  refine pp_if_eq (tgt := 21) dX7_table_9 (by decide) (q := 12) rfl (fun c9 => ?_) (fun c9 => ?_)
  · have hi := isB_f hb6 c9
    refine pp_aload_n dX7_table_21 rfl isRf_r (q := 22) rfl ?_
    refine pp_bipush dX7_table_22 cb_m3 (q := 24) rfl ?_
    refine ps_callVi dX7_table_24 lk_X7_132 (by exact h.1) (by rfl) (by rfl) (by rfl) (m_no3 h.1) (by rfl) (by exact Nat.le_of_ble_eq_true rfl) (by decide) (by decide) (by exact Nat.le_of_ble_eq_true rfl) (q := 27) rfl (fun r24 g24 h24 => ?_)
    obtain ⟨rfl, rfl⟩ := And.intro h24.1.symm h24.2.symm
    refine ri_ret dX7_table_27 rfl rfl ?_
    first | exact mq_inl hR (by unfold isW; omega) (cIf_f hi) | exact mq_inr hR (by unfold qTable; rw [cIf_t ⟨v, hv, rfl⟩, cl_nI (by omega)])
  · obtain ⟨v, hv, rfl⟩ := isB_t hb6 c9
    refine pp_aload_n dX7_table_12 rfl isRf_r (q := 13) rfl ?_
    refine ps_get dX7_table_13 fl_X7_24 h.1 rfl rfl (q := 16) rfl ?_
    refine pp_iload_n dX7_table_16 rfl (q := 17) rfl ?_
    refine ps_iald (j := v) dX7_table_17 h.1 rfl rfl hv (by decide) (q := 18) rfl ?_
    rw [hR.2.2.2.2.2 v hv]
    refine pp_goto (tgt := 27) dX7_table_18 (by decide) ?_
    refine ri_ret dX7_table_27 rfl rfl ?_
    first | exact mq_inl hR (by unfold isW; omega) (cIf_f hi) | exact mq_inr hR (by unfold qTable; rw [cIf_t ⟨v, hv, rfl⟩, cl_nI (by omega)])
set_option maxRecDepth 20000 in
set_option maxHeartbeats 4000000 in
theorem m_trace {ad : Nm → Nat} {g : Sg} {S : CS} {a : Int32} (hR : RR g S) (hH : okH (sH S)) : PS mX7_trace 0 (ent mX7_trace [.ref (ad (40, 0, 0)), .int a]) [] ad g (MdQ g (anS S (qTrace (runA (sH S)) a))) := by
  have h := hR.1
  have hI := inv_run hH
  have hn := okH_len hH
  show PP mX7_trace 0 [some (.ref (ad (40, 0, 0))), some (.int a)] [] (Rel ad g) _
  refine pp_iload_n dX7_trace_0 rfl (q := 1) rfl ?_
  refine pp_i2l dX7_trace_1 (q := 2) rfl ?_
  refine pp_lconst (v := lN 0) dX7_trace_2 rfl (q := 3) rfl ?_
  refine pp_ldc2 (v := lN 11) dX7_trace_3 kc_X7_173 (q := 6) rfl ?_
  refine ps_callSi dX7_trace_6 lk_X7_165 (by rfl) (m_isIn (x := a) (n := 12) (by omega) (by omega)) (by rfl) (by exact Nat.le_of_ble_eq_true rfl) (by decide) (by decide) (by exact Nat.le_of_ble_eq_true rfl) (q := 9) rfl (fun r6 g6 h6 => ?_)
  obtain ⟨hb6, rfl⟩ := And.intro h6.1 h6.2.symm
  refine pp_if_eq (tgt := 24) dX7_trace_9 (by decide) (q := 12) rfl (fun c9 => ?_) (fun c9 => ?_)
  · have hi := isB_f hb6 c9
    refine pp_aload_n dX7_trace_24 rfl isRf_r (q := 25) rfl ?_
    refine pp_bipush dX7_trace_25 cb_m9 (q := 27) rfl ?_
    refine ps_callVi dX7_trace_27 lk_X7_132 (by exact h.1) (by rfl) (by rfl) (by rfl) (m_no9 h.1) (by rfl) (by exact Nat.le_of_ble_eq_true rfl) (by decide) (by decide) (by exact Nat.le_of_ble_eq_true rfl) (q := 30) rfl (fun r27 g27 h27 => ?_)
    obtain ⟨rfl, rfl⟩ := And.intro h27.1.symm h27.2.symm
    refine ri_ret dX7_trace_30 rfl rfl ?_
    first | exact mq_inl hR (by unfold isW; omega) (cIf_f hi) | exact mq_inr hR (by unfold qTrace; rw [cIf_t ⟨v, hv, rfl⟩, cl_nI (by omega)])
  · obtain ⟨v, hv, rfl⟩ := isB_t hb6 c9
    refine pp_aload_n dX7_trace_12 rfl isRf_r (q := 13) rfl ?_
    refine ps_get dX7_trace_13 fl_X7_8 h.1 rfl rfl (q := 16) rfl ?_
    refine pp_ldc (v := nI 118723) dX7_trace_16 kc_X7_54 (q := 18) rfl ?_
    refine pp_iload_n dX7_trace_18 rfl (q := 19) rfl ?_
    refine pp_iadd dX7_trace_19 (q := 20) rfl ?_
    try rw [nI_add]
    refine ps_iald (j := 118723 + v) dX7_trace_20 h.1 rfl rfl (by omega) (by decide) (q := 21) rfl ?_
    rw [h.2.2.2.2.1 v hv]
    refine pp_goto (tgt := 30) dX7_trace_21 (by decide) ?_
    refine ri_ret dX7_trace_30 rfl rfl ?_
    first | exact mq_inl hR (by unfold isW; omega) (cIf_f hi) | exact mq_inr hR (by unfold qTrace; rw [cIf_t ⟨v, hv, rfl⟩, cl_nI (by omega)])
set_option maxRecDepth 20000 in
set_option maxHeartbeats 4000000 in
theorem m_status {ad : Nm → Nat} {g : Sg} {S : CS} {a : Int32} (hR : RR g S) (hH : okH (sH S)) : PS mX7_status 0 (ent mX7_status [.ref (ad (40, 0, 0)), .int a]) [] ad g (MdQ g (anS S (qStatus (sH S).length (sC S) a))) := by
  have h := hR.1
  have hI := inv_run hH
  have hn := okH_len hH
  show PP mX7_status 0 [some (.ref (ad (40, 0, 0))), some (.int a)] [] (Rel ad g) _
  refine pp_iload_n dX7_status_0 rfl (q := 1) rfl ?_
  refine pp_if_ne (tgt := 12) dX7_status_1 (by decide) (q := 4) rfl (fun c1 => ?_) (fun c1 => ?_)
  · skip
    refine pp_iload_n dX7_status_12 rfl (q := 13) rfl ?_
    refine pp_i2l dX7_status_13 (q := 14) rfl ?_
    refine pp_ldc2 (v := (-10)) dX7_status_14 kc_X7_217 (q := 17) rfl ?_
    refine pp_ldc2 (v := (-2)) dX7_status_17 kc_X7_219 (q := 20) rfl ?_
    refine ps_callSi dX7_status_20 lk_X7_165 (by rfl) m_isInW (by rfl) (by exact Nat.le_of_ble_eq_true rfl) (by decide) (by decide) (by exact Nat.le_of_ble_eq_true rfl) (q := 23) rfl (fun r20 g20 h20 => ?_)
    obtain ⟨hb20, rfl⟩ := And.intro h20.1 h20.2.symm
    refine pp_if_eq (tgt := 36) dX7_status_23 (by decide) (q := 26) rfl (fun c23 => ?_) (fun c23 => ?_)
    · have hi := isB_f hb20 c23
      refine pp_aload_n dX7_status_36 rfl isRf_r (q := 37) rfl ?_
      refine pp_bipush dX7_status_37 cb_m9 (q := 39) rfl ?_
      refine ps_callVi dX7_status_39 lk_X7_132 (by exact h.1) (by rfl) (by rfl) (by rfl) (m_no9 h.1) (by rfl) (by exact Nat.le_of_ble_eq_true rfl) (by decide) (by decide) (by exact Nat.le_of_ble_eq_true rfl) (q := 42) rfl (fun r39 g39 h39 => ?_)
      obtain ⟨rfl, rfl⟩ := And.intro h39.1.symm h39.2.symm
      refine ri_ret dX7_status_42 rfl rfl ?_
      first | exact mq_inl hR (by unfold isW; omega) (by unfold qStatus; rw [cIf_f c1, cIf_f hi]) | exact mq_inr hR (by unfold qStatus; rw [cIf_f c1, cIf_t ⟨k, hk, rfl⟩, neg_cl hk])
    · obtain ⟨k, hk, rfl⟩ := isB_t hb20 c23
      have hkb := hk.2
      refine pp_aload_n dX7_status_26 rfl isRf_r (q := 27) rfl ?_
      refine ps_get dX7_status_27 fl_X7_30 h.1 rfl rfl (q := 30) rfl ?_
      refine pp_iload_n dX7_status_30 rfl (q := 31) rfl ?_
      refine pp_ineg dX7_status_31 (q := 32) rfl ?_
      rw [(neg_k ⟨k, by omega⟩).1]
      refine ps_iald (j := k) dX7_status_32 h.1 rfl rfl (by show k < 11; omega) (by decide) (q := 33) rfl ?_
      rw [hR.2.2.1 k (by omega)]
      refine pp_goto (tgt := 42) dX7_status_33 (by decide) ?_
      refine ri_ret dX7_status_42 rfl rfl ?_
      first | exact mq_inl hR (by unfold isW; omega) (by unfold qStatus; rw [cIf_f c1, cIf_f hi]) | exact mq_inr hR (by unfold qStatus; rw [cIf_f c1, cIf_t ⟨k, hk, rfl⟩, neg_cl hk])
  · skip
    refine pp_aload_n dX7_status_4 rfl isRf_r (q := 5) rfl ?_
    refine ps_get dX7_status_5 fl_X7_8 h.1 rfl rfl (q := 8) rfl ?_
    refine pp_ldc (v := nI 118722) dX7_status_8 kc_X7_53 (q := 10) rfl ?_
    refine ps_iald (j := 118722) dX7_status_10 h.1 rfl rfl (by omega) (by decide) (q := 11) rfl ?_
    rw [h.2.2.2.2.2]
    refine ri_ret dX7_status_11 rfl rfl ?_
    exact mq_inr hR (cIf_t c1)
set_option maxRecDepth 20000 in
set_option maxHeartbeats 4000000 in
theorem m_replay {ad : Nm → Nat} {g : Sg} {S : CS} (hR : RR g S) (hH : okH (sH S)) : PS mX7_replay 0 (ent mX7_replay [.ref (ad (40, 0, 0))]) [] ad g (MdQ g (spReplay S)) := by
  have h := hR.1
  have hI := inv_run hH
  have hn := okH_len hH
  show PP mX7_replay 0 [some (.ref (ad (40, 0, 0)))] [] (Rel ad g) _
  refine pp_iconst dX7_replay_0 ci_1 (q := 1) rfl ?_
  refine ri_ret dX7_replay_1 rfl rfl ?_
  exact ⟨rfl, hR, EqX.rf⟩
set_option maxRecDepth 20000 in
set_option maxHeartbeats 4000000 in
theorem m_again {ad : Nm → Nat} {g : Sg} {S : CS} (hR : RR g S) (hH : okH (sH S)) : PS mX7_again 0 (ent mX7_again [.ref (ad (40, 0, 0))]) [] ad g (MdQ g (spAgain S)) := by
  have h := hR.1
  have hI := inv_run hH
  have hn := okH_len hH
  show PP mX7_again 0 [some (.ref (ad (40, 0, 0))), none] [] (Rel ad g) _
  refine pp_aload_n dX7_again_0 rfl isRf_r (q := 1) rfl ?_
  refine ps_get dX7_again_1 fl_X7_40 h.1 rfl rfl (q := 4) rfl ?_
  rw [hR.2.2.2.1.1]
  refine pp_if_ne (tgt := 10) dX7_again_4 (by decide) (q := 7) rfl (fun c4 => ?_) (fun c4 => ?_)
  · skip
    refine pp_aload_n dX7_again_10 rfl isRf_r (q := 11) rfl ?_
    refine ps_get dX7_again_11 fl_X7_40 h.1 rfl rfl (q := 14) rfl ?_
    rw [hR.2.2.2.1.1]
    refine pp_istore_n dX7_again_14 (by decide) (ls1_1 (nl1 rfl)) (q := 15) rfl ?_
    refine pp_aload_n dX7_again_15 rfl isRf_r (q := 16) rfl ?_
    refine pp_iconst dX7_again_16 ci_0 (q := 17) rfl ?_
    refine ps_puti dX7_again_17 fl_X7_40 h.1 rfl (by exact Nat.le_of_ble_eq_true rfl) rfl rfl rfl (q := 20) rfl ?_
    refine pp_iload_n dX7_again_20 rfl (q := 21) rfl ?_
    refine ri_ret dX7_again_21 rfl rfl ?_
    have e7 : ¬ sLt S = -7 := fun q => c4 (by unfold rLt; rw [if_pos q]; rfl)
    obtain ⟨r1, r2, r3, r4, r5, r8⟩ := hR
    have hI : ∀ j, j ≠ 10 → gI (sI g (40, 0, 0) 10 (nI 0)) (40, 0, 0) j = gI g (40, 0, 0) j := fun j hj => by rw [gI_sI, if_neg (fun q => hj q.2)]
    refine ⟨if_neg e7, ⟨r1, ?_, r3, ⟨?_, (by show ¬ (-7 : Int32) = 0; decide)⟩, ⟨(hI 9 (by omega)).trans r5.1, r5.2⟩, r8⟩, EqX.rf.sI ⟨by show 40 ≤ 40; omega, by show 40 ≤ 49; omega⟩⟩
    · show RK _ (sK S)
      unfold RK at r2 ⊢
      revert r2
      cases sK S with
      | none => intro r2; exact (hI 4 (by omega)).trans r2
      | some K => intro r2; exact ⟨(hI 4 (by omega)).trans r2.1, r2.2⟩
    · rw [gI_sI, if_pos ⟨rfl, rfl⟩]; rfl
  · skip
    refine pp_bipush dX7_again_7 cb_m7 (q := 9) rfl ?_
    refine ri_ret dX7_again_9 rfl rfl ?_
    have e7 : sLt S = -7 := by
      have c : rLt (sLt S) = 0 := c4
      unfold rLt at c
      split at c
      · assumption
      · exact absurd c hR.2.2.2.1.2
    exact ⟨e7.symm, by rw [show (spAgain S).2 = S from by unfold spAgain; obtain ⟨a, b, c, d, e⟩ := S; exact congrArg (fun z => (a, b, c, z, e)) e7.symm]; exact hR, EqX.rf⟩
