/-! the reference: its leaves. S = the array s -/
theorem gA_41 {g : Sg} {f : Nat → Int32} : gA (sA g (41, 0, 0) f) (41, 0, 0) = f := rfl
theorem gB_43 {g : Sg} {f : Nat → Int64} : gB (sB g (43, 0, 0) f) (43, 0, 0) = f := rfl
def nw (m x : Nat) : Nat := 448 + 5 * (64 * m + x)
def ltx (l c : Nat) : Nat := 29120 + 8 * l + c
theorem i2l_le {x : Int32} {b : Nat} : x.toInt64 < lN 0 ↔ x < 0 := by
  rw [Int64.lt_iff_toInt_lt, Int32.toInt_toInt64, Int32.lt_iff_toInt_lt]
  rfl
theorem i2l_gt {x : Int32} {b : Nat} (hb : b < 2 ^ 31) : lN b < x.toInt64 ↔ nI b < x := by
  rw [Int64.lt_iff_toInt_lt, Int32.toInt_toInt64, lN_toInt hb, Int32.lt_iff_toInt_lt, nI_toInt hb]
theorem cmp_lt {x y : Int64} : lg_cmp x y < 0 ↔ x < y := by
  unfold lg_cmp
  by_cases h : x > y
  · rw [if_pos h]
    exact ⟨fun q => absurd q (by decide), fun q => absurd (Int64.lt_trans q h) Int64.lt_irrefl⟩
  · rw [if_neg h]
    by_cases e : x = y
    · rw [if_pos e]
      exact ⟨fun q => absurd q (by decide), fun q => absurd (e ▸ q) Int64.lt_irrefl⟩
    · rw [if_neg e]
      refine ⟨fun _ => ?_, fun _ => by decide⟩
      rcases Int64.lt_or_le x y with q | q
      · exact q
      · exact absurd (Int64.lt_of_le_of_ne q (Ne.symm e)) h
theorem cmp_gt {x y : Int64} : 0 < lg_cmp x y ↔ y < x := by
  unfold lg_cmp
  by_cases h : x > y
  · rw [if_pos h]
    exact ⟨fun _ => h, fun _ => by decide⟩
  · rw [if_neg h]
    split
    · exact ⟨fun q => absurd q (by decide), fun q => absurd q h⟩
    · exact ⟨fun q => absurd q (by decide), fun q => absurd q h⟩
set_option maxRecDepth 20000 in
set_option maxHeartbeats 4000000 in
theorem m_isIn {ad : Nm → Nat} {g : Sg} {x : Int32} {n : Nat} (hn1 : 1 ≤ n) (hnb : n < 2 ^ 31 - 1) : PS mX7_isIn 0 (ent mX7_isIn [.long x.toInt64, .long (lN 0), .long (lN (n - 1))]) [] ad g (Ri (fun v g' => isB v (inR x n) ∧ g' = g)) := by
  show PP mX7_isIn 0 [some (.long x.toInt64), none, some (.long (lN 0)), none, some (.long (lN (n - 1))), none] [] (Rel ad g) _
  refine pp_lload_n dX7_isIn_0 rfl (q := 1) rfl ?_
  refine pp_lload_n dX7_isIn_1 rfl (q := 2) rfl ?_
  refine pp_lcmp dX7_isIn_2 (q := 3) rfl ?_
  refine pp_if_lt (tgt := 17) dX7_isIn_3 (by decide) (q := 6) rfl (fun c3 => ?_) (fun c3 => ?_)
  · have hn : ¬ inR x n := inR_no (by omega) (Or.inl ((i2l_le (b := 0)).mp (cmp_lt.mp c3)))
    refine pp_iconst dX7_isIn_17 ci_0 (q := 18) rfl ?_
    refine ri_ret dX7_isIn_18 rfl (by decide) ?_
    first | exact ⟨isB_0 hn, rfl⟩ | exact ⟨isB_1 hy, rfl⟩
  · have h0 : ¬ x < 0 := fun q => c3 (cmp_lt.mpr ((i2l_le (b := 0)).mpr q))
    refine pp_lload_n dX7_isIn_6 rfl (q := 7) rfl ?_
    refine pp_lload dX7_isIn_7 rfl (q := 9) rfl ?_
    refine pp_lcmp dX7_isIn_9 (q := 10) rfl ?_
    refine pp_if_gt (tgt := 17) dX7_isIn_10 (by decide) (q := 13) rfl (fun c10 => ?_) (fun c10 => ?_)
    · have hn : ¬ inR x n := inR_no (by omega) (Or.inr (by have := (i2l_gt (by omega)).mp (cmp_gt.mp c10); have h2 := not_le_n (x := x) (n := n - 1) (by omega) (Int32.not_le.mpr this); rw [Nat.sub_add_cancel hn1] at h2; exact h2))
      refine pp_iconst dX7_isIn_17 ci_0 (q := 18) rfl ?_
      refine ri_ret dX7_isIn_18 rfl (by decide) ?_
      first | exact ⟨isB_0 hn, rfl⟩ | exact ⟨isB_1 hy, rfl⟩
    · have hy : inR x n := inR_yes (by omega) h0 (by have h2 := lt_of_le (x := x) (n := n - 1) (by omega) (Int32.not_lt.mp (fun q => c10 (cmp_gt.mpr ((i2l_gt (by omega)).mpr q)))); rw [Nat.sub_add_cancel hn1] at h2; exact h2)
      refine pp_iconst dX7_isIn_13 ci_1 (q := 14) rfl ?_
      refine pp_goto (tgt := 18) dX7_isIn_14 (by decide) ?_
      refine ri_ret dX7_isIn_18 rfl (by decide) ?_
      first | exact ⟨isB_0 hn, rfl⟩ | exact ⟨isB_1 hy, rfl⟩
set_option maxRecDepth 20000 in
set_option maxHeartbeats 4000000 in
theorem m_of {ad : Nm → Nat} {g : Sg} {m k : Nat} (hm : al g (40, 0, 0)) (hmb : m < 64) (hk : k < 7) : PS mX7_of 0 (ent mX7_of [.ref (ad (40, 0, 0)), .int (nI m), .int (nI k)]) [] ad g (Ri (fun v g' => v = gA g (41, 0, 0) (7 * m + k) ∧ g' = g)) := by
  show PP mX7_of 0 [some (.ref (ad (40, 0, 0))), some (.int (nI m)), some (.int (nI k))] [] (Rel ad g) _
  refine pp_aload_n dX7_of_0 rfl isRf_r (q := 1) rfl ?_
  refine ps_get dX7_of_1 fl_X7_8 hm rfl rfl (q := 4) rfl ?_
  refine pp_bipush dX7_of_4 cb_7 (q := 6) rfl ?_
  refine pp_iload_n dX7_of_6 rfl (q := 7) rfl ?_
  refine pp_imul dX7_of_7 (q := 8) rfl ?_
  try rw [pk_mul]
  refine pp_iload_n dX7_of_8 rfl (q := 9) rfl ?_
  refine pp_iadd dX7_of_9 (q := 10) rfl ?_
  try rw [nI_add]
  refine ps_iald dX7_of_10 hm rfl rfl (by omega) (by decide) (q := 11) rfl ?_
  refine ri_ret dX7_of_11 rfl rfl ?_
  exact ⟨rfl, rfl⟩
set_option maxRecDepth 20000 in
set_option maxHeartbeats 4000000 in
theorem m_to {ad : Nm → Nat} {g : Sg} {m k : Nat} {v : Int32} (hm : al g (40, 0, 0)) (hmb : m < 64) (hk : k < 7) : PS mX7_to 0 (ent mX7_to [.ref (ad (40, 0, 0)), .int (nI m), .int (nI k), .int v]) [] ad g (Rv (fun g' => g' = sA g (41, 0, 0) (upd (gA g (41, 0, 0)) (7 * m + k) v))) := by
  show PP mX7_to 0 [some (.ref (ad (40, 0, 0))), some (.int (nI m)), some (.int (nI k)), some (.int v)] [] (Rel ad g) _
  refine pp_aload_n dX7_to_0 rfl isRf_r (q := 1) rfl ?_
  refine ps_get dX7_to_1 fl_X7_8 hm rfl rfl (q := 4) rfl ?_
  refine pp_bipush dX7_to_4 cb_7 (q := 6) rfl ?_
  refine pp_iload_n dX7_to_6 rfl (q := 7) rfl ?_
  refine pp_imul dX7_to_7 (q := 8) rfl ?_
  try rw [pk_mul]
  refine pp_iload_n dX7_to_8 rfl (q := 9) rfl ?_
  refine pp_iadd dX7_to_9 (q := 10) rfl ?_
  try rw [nI_add]
  refine pp_iload_n dX7_to_10 rfl (q := 11) rfl ?_
  refine ps_iast dX7_to_11 hm (fun _ => rfl) rfl (by omega) (by decide) (q := 12) rfl ?_
  refine rv_ret dX7_to_12 rfl ?_
  exact rfl
set_option maxRecDepth 20000 in
set_option maxHeartbeats 4000000 in
theorem m_newsAt {ad : Nm → Nat} {g : Sg} {m x : Nat}  : PS mX7_newsAt 0 (ent mX7_newsAt [.int (nI m), .int (nI x)]) [] ad g (Ri (fun v g' => v = nI (nw m x) ∧ g' = g)) := by
  show PP mX7_newsAt 0 [some (.int (nI m)), some (.int (nI x))] [] (Rel ad g) _
  refine pp_sipush dX7_newsAt_0 cs_448 (q := 3) rfl ?_
  refine pp_iconst dX7_newsAt_3 ci_5 (q := 4) rfl ?_
  refine pp_bipush dX7_newsAt_4 cb_64 (q := 6) rfl ?_
  refine pp_iload_n dX7_newsAt_6 rfl (q := 7) rfl ?_
  refine pp_imul dX7_newsAt_7 (q := 8) rfl ?_
  try rw [pk_mul]
  refine pp_iload_n dX7_newsAt_8 rfl (q := 9) rfl ?_
  refine pp_iadd dX7_newsAt_9 (q := 10) rfl ?_
  try rw [nI_add]
  refine pp_imul dX7_newsAt_10 (q := 11) rfl ?_
  try rw [pk_mul]
  refine pp_iadd dX7_newsAt_11 (q := 12) rfl ?_
  try rw [nI_add]
  refine ri_ret dX7_newsAt_12 rfl rfl ?_
  exact ⟨rfl, rfl⟩
set_option maxRecDepth 20000 in
set_option maxHeartbeats 4000000 in
theorem m_kindOf {ad : Nm → Nat} {g : Sg} {m x : Nat} (hm : al g (40, 0, 0)) (hmb : m < 64) (hx : x < 64) : PS mX7_kindOf 0 (ent mX7_kindOf [.ref (ad (40, 0, 0)), .int (nI m), .int (nI x)]) [] ad g (Ri (fun v g' => v = gA g (41, 0, 0) (nw m x) ∧ g' = g)) := by
  show PP mX7_kindOf 0 [some (.ref (ad (40, 0, 0))), some (.int (nI m)), some (.int (nI x))] [] (Rel ad g) _
  refine pp_aload_n dX7_kindOf_0 rfl isRf_r (q := 1) rfl ?_
  refine ps_get dX7_kindOf_1 fl_X7_8 hm rfl rfl (q := 4) rfl ?_
  refine pp_iload_n dX7_kindOf_4 rfl (q := 5) rfl ?_
  refine pp_iload_n dX7_kindOf_5 rfl (q := 6) rfl ?_
  refine ps_callSi dX7_kindOf_6 lk_X7_44 (by rfl) m_newsAt (by rfl) (by exact Nat.le_of_ble_eq_true rfl) (by decide) (by decide) (by exact Nat.le_of_ble_eq_true rfl) (q := 9) rfl (fun r6 g6 h6 => ?_)
  obtain ⟨rfl, rfl⟩ := And.intro h6.1.symm h6.2.symm
  refine ps_iald dX7_kindOf_9 hm rfl rfl (by unfold nw; omega) (by decide) (q := 10) rfl ?_
  refine ri_ret dX7_kindOf_10 rfl rfl ?_
  exact ⟨rfl, rfl⟩
set_option maxRecDepth 20000 in
set_option maxHeartbeats 4000000 in
theorem m_isMem {ad : Nm → Nat} {g : Sg} {x : Int32} : PS mX7_isMember 0 (ent mX7_isMember [.int x]) [] ad g (Ri (fun v g' => isB v (isM x) ∧ g' = g)) := by
  show PP mX7_isMember 0 [some (.int x)] [] (Rel ad g) _
  refine pp_iload_n dX7_isMember_0 rfl (q := 1) rfl ?_
  refine pp_if_lt (tgt := 14) dX7_isMember_1 (by decide) (q := 4) rfl (fun c1 => ?_) (fun c1 => ?_)
  · have hn := isM_no (Or.inl c1)
    refine pp_iconst dX7_isMember_14 ci_0 (q := 15) rfl ?_
    refine ri_ret dX7_isMember_15 rfl (by decide) ?_
    first | exact ⟨isB_0 hn, rfl⟩ | exact ⟨isB_1 hy, rfl⟩
  · refine pp_iload_n dX7_isMember_4 rfl (q := 5) rfl ?_
    refine pp_bipush dX7_isMember_5 cb_64 (q := 7) rfl ?_
    refine pp_icmp_ge (tgt := 14) dX7_isMember_7 (by decide) (q := 10) rfl (fun c7 => ?_) (fun c7 => ?_)
    · have hn := isM_no (Or.inr c7)
      refine pp_iconst dX7_isMember_14 ci_0 (q := 15) rfl ?_
      refine ri_ret dX7_isMember_15 rfl (by decide) ?_
      first | exact ⟨isB_0 hn, rfl⟩ | exact ⟨isB_1 hy, rfl⟩
    · have hy : isM x := nI_ex c1 (Int32.not_le.mp c7) (by decide)
      refine pp_iconst dX7_isMember_10 ci_1 (q := 11) rfl ?_
      refine pp_goto (tgt := 15) dX7_isMember_11 (by decide) ?_
      refine ri_ret dX7_isMember_15 rfl (by decide) ?_
      first | exact ⟨isB_0 hn, rfl⟩ | exact ⟨isB_1 hy, rfl⟩
set_option maxRecDepth 20000 in
set_option maxHeartbeats 4000000 in
theorem m_isMade {ad : Nm → Nat} {g : Sg} {m : Nat} (hm : al g (40, 0, 0)) (hmb : m < 64) : PS mX7_isMade 0 (ent mX7_isMade [.ref (ad (40, 0, 0)), .int (nI m)]) [] ad g (Ri (fun v g' => isB v (¬ gA g (41, 0, 0) (7 * m) = 0) ∧ g' = g)) := by
  show PP mX7_isMade 0 [some (.ref (ad (40, 0, 0))), some (.int (nI m))] [] (Rel ad g) _
  refine pp_aload_n dX7_isMade_0 rfl isRf_r (q := 1) rfl ?_
  refine pp_iload_n dX7_isMade_1 rfl (q := 2) rfl ?_
  refine pp_iconst dX7_isMade_2 ci_0 (q := 3) rfl ?_
  refine ps_callVi dX7_isMade_3 lk_X7_48 (by exact hm) (by rfl) (by rfl) (by rfl) (m_of hm hmb (by omega)) (by rfl) (by exact Nat.le_of_ble_eq_true rfl) (by decide) (by decide) (by exact Nat.le_of_ble_eq_true rfl) (q := 6) rfl (fun r3 g3 h3 => ?_)
  obtain ⟨rfl, rfl⟩ := And.intro h3.1.symm h3.2.symm
  rw [Nat.add_zero]
  refine pp_if_eq (tgt := 13) dX7_isMade_6 (by decide) (q := 9) rfl (fun c6 => ?_) (fun c6 => ?_)
  · refine pp_iconst dX7_isMade_13 ci_0 (q := 14) rfl ?_
    refine ri_ret dX7_isMade_14 rfl (by decide) ?_
    first | exact ⟨isB_1 c6, rfl⟩ | exact ⟨isB_0 (fun q => q c6), rfl⟩
  · refine pp_iconst dX7_isMade_9 ci_1 (q := 10) rfl ?_
    refine pp_goto (tgt := 14) dX7_isMade_10 (by decide) ?_
    refine ri_ret dX7_isMade_14 rfl (by decide) ?_
    first | exact ⟨isB_1 c6, rfl⟩ | exact ⟨isB_0 (fun q => q c6), rfl⟩
set_option maxRecDepth 20000 in
set_option maxHeartbeats 4000000 in
theorem m_isLetter {ad : Nm → Nat} {g : Sg} {x : Int32} {n : Nat} (hm : al g (40, 0, 0)) (hL : gA g (41, 0, 0) 118720 = nI n) (hn : n < 2 ^ 31) : PS mX7_isLetter 0 (ent mX7_isLetter [.ref (ad (40, 0, 0)), .int x]) [] ad g (Ri (fun v g' => isB v (inR x n) ∧ g' = g)) := by
  show PP mX7_isLetter 0 [some (.ref (ad (40, 0, 0))), some (.int x)] [] (Rel ad g) _
  refine pp_iload_n dX7_isLetter_0 rfl (q := 1) rfl ?_
  refine pp_if_lt (tgt := 19) dX7_isLetter_1 (by decide) (q := 4) rfl (fun c1 => ?_) (fun c1 => ?_)
  · have ho := inR_no (n := n) hn (Or.inl c1)
    refine pp_iconst dX7_isLetter_19 ci_0 (q := 20) rfl ?_
    refine ri_ret dX7_isLetter_20 rfl (by decide) ?_
    first | exact ⟨isB_0 ho, rfl⟩ | exact ⟨isB_1 hy, rfl⟩
  · refine pp_iload_n dX7_isLetter_4 rfl (q := 5) rfl ?_
    refine pp_aload_n dX7_isLetter_5 rfl isRf_r (q := 6) rfl ?_
    refine ps_get dX7_isLetter_6 fl_X7_8 hm rfl rfl (q := 9) rfl ?_
    refine pp_ldc (v := nI 118720) dX7_isLetter_9 kc_X7_51 (q := 11) rfl ?_
    refine ps_iald dX7_isLetter_11 hm rfl rfl (by omega) (by decide) (q := 12) rfl ?_
    rw [hL]
    refine pp_icmp_ge (tgt := 19) dX7_isLetter_12 (by decide) (q := 15) rfl (fun c12 => ?_) (fun c12 => ?_)
    · have ho := inR_no hn (Or.inr c12)
      refine pp_iconst dX7_isLetter_19 ci_0 (q := 20) rfl ?_
      refine ri_ret dX7_isLetter_20 rfl (by decide) ?_
      first | exact ⟨isB_0 ho, rfl⟩ | exact ⟨isB_1 hy, rfl⟩
    · have hy := inR_yes hn c1 (Int32.not_le.mp c12)
      refine pp_iconst dX7_isLetter_15 ci_1 (q := 16) rfl ?_
      refine pp_goto (tgt := 20) dX7_isLetter_16 (by decide) ?_
      refine ri_ret dX7_isLetter_20 rfl (by decide) ?_
      first | exact ⟨isB_0 ho, rfl⟩ | exact ⟨isB_1 hy, rfl⟩
set_option maxRecDepth 20000 in
set_option maxHeartbeats 4000000 in
theorem m_letterOf {ad : Nm → Nat} {g : Sg} {l c : Nat} (hm : al g (40, 0, 0)) (hl : l < 1200) (hc : c < 8) : PS mX7_letterOf 0 (ent mX7_letterOf [.ref (ad (40, 0, 0)), .int (nI l), .int (nI c)]) [] ad g (Ri (fun v g' => v = gA g (41, 0, 0) (ltx l c) ∧ g' = g)) := by
  show PP mX7_letterOf 0 [some (.ref (ad (40, 0, 0))), some (.int (nI l)), some (.int (nI c))] [] (Rel ad g) _
  refine pp_aload_n dX7_letterOf_0 rfl isRf_r (q := 1) rfl ?_
  refine ps_get dX7_letterOf_1 fl_X7_8 hm rfl rfl (q := 4) rfl ?_
  refine pp_sipush dX7_letterOf_4 cs_29120 (q := 7) rfl ?_
  refine pp_bipush dX7_letterOf_7 cb_8 (q := 9) rfl ?_
  refine pp_iload_n dX7_letterOf_9 rfl (q := 10) rfl ?_
  refine pp_imul dX7_letterOf_10 (q := 11) rfl ?_
  try rw [pk_mul]
  refine pp_iadd dX7_letterOf_11 (q := 12) rfl ?_
  try rw [nI_add]
  refine pp_iload_n dX7_letterOf_12 rfl (q := 13) rfl ?_
  refine pp_iadd dX7_letterOf_13 (q := 14) rfl ?_
  try rw [nI_add]
  refine ps_iald dX7_letterOf_14 hm rfl rfl (by omega) (by decide) (q := 15) rfl ?_
  refine ri_ret dX7_letterOf_15 rfl rfl ?_
  exact ⟨rfl, rfl⟩
set_option maxRecDepth 20000 in
set_option maxHeartbeats 4000000 in
theorem m_isFull {ad : Nm → Nat} {g : Sg} {a b n : Nat} (hm : al g (40, 0, 0)) (ha : gA g (41, 0, 0) 118720 = nI a) (hb : gA g (41, 0, 0) 118721 = nI b) (hn : gA g (41, 0, 0) 118722 = nI n) (hB : a < 2 ^ 31 ∧ b < 2 ^ 31 ∧ n < 2 ^ 31) : PS mX7_isFull 0 (ent mX7_isFull [.ref (ad (40, 0, 0))]) [] ad g (Ri (fun v g' => isB v (¬ ((a ≤ 1196 ∧ b ≤ 19800) ∧ n < 4000)) ∧ g' = g)) := by
  show PP mX7_isFull 0 [some (.ref (ad (40, 0, 0)))] [] (Rel ad g) _
  refine pp_aload_n dX7_isFull_0 rfl isRf_r (q := 1) rfl ?_
  refine ps_get dX7_isFull_1 fl_X7_8 hm rfl rfl (q := 4) rfl ?_
  refine pp_ldc (v := nI 118720) dX7_isFull_4 kc_X7_51 (q := 6) rfl ?_
  refine ps_iald dX7_isFull_6 hm rfl rfl (by omega) (by decide) (q := 7) rfl ?_
  rw [ha]
  refine pp_sipush dX7_isFull_7 cs_1196 (q := 10) rfl ?_
  refine pp_icmp_gt (tgt := 39) dX7_isFull_10 (by decide) (q := 13) rfl (fun c10 => ?_) (fun c10 => ?_)
  · replace c10 := ltT c10 (by omega) (by omega)
    refine pp_iconst dX7_isFull_39 ci_1 (q := 40) rfl ?_
    refine pp_goto (tgt := 44) dX7_isFull_40 (by decide) ?_
    refine ri_ret dX7_isFull_44 rfl (by decide) ?_
    first | exact ⟨isB_1 (by omega), rfl⟩ | exact ⟨isB_0 (by omega), rfl⟩
  · replace c10 := ltF c10 (by omega) (by omega)
    refine pp_aload_n dX7_isFull_13 rfl isRf_r (q := 14) rfl ?_
    refine ps_get dX7_isFull_14 fl_X7_8 hm rfl rfl (q := 17) rfl ?_
    refine pp_ldc (v := nI 118721) dX7_isFull_17 kc_X7_52 (q := 19) rfl ?_
    refine ps_iald dX7_isFull_19 hm rfl rfl (by omega) (by decide) (q := 20) rfl ?_
    rw [hb]
    refine pp_sipush dX7_isFull_20 cs_19800 (q := 23) rfl ?_
    refine pp_icmp_gt (tgt := 39) dX7_isFull_23 (by decide) (q := 26) rfl (fun c23 => ?_) (fun c23 => ?_)
    · replace c23 := ltT c23 (by omega) (by omega)
      refine pp_iconst dX7_isFull_39 ci_1 (q := 40) rfl ?_
      refine pp_goto (tgt := 44) dX7_isFull_40 (by decide) ?_
      refine ri_ret dX7_isFull_44 rfl (by decide) ?_
      first | exact ⟨isB_1 (by omega), rfl⟩ | exact ⟨isB_0 (by omega), rfl⟩
    · replace c23 := ltF c23 (by omega) (by omega)
      refine pp_aload_n dX7_isFull_26 rfl isRf_r (q := 27) rfl ?_
      refine ps_get dX7_isFull_27 fl_X7_8 hm rfl rfl (q := 30) rfl ?_
      refine pp_ldc (v := nI 118722) dX7_isFull_30 kc_X7_53 (q := 32) rfl ?_
      refine ps_iald dX7_isFull_32 hm rfl rfl (by omega) (by decide) (q := 33) rfl ?_
      rw [hn]
      refine pp_sipush dX7_isFull_33 cs_4000 (q := 36) rfl ?_
      refine pp_icmp_lt (tgt := 43) dX7_isFull_36 (by decide) (q := 39) rfl (fun c36 => ?_) (fun c36 => ?_)
      · replace c36 := ltT c36 (by omega) (by omega)
        refine pp_iconst dX7_isFull_43 ci_0 (q := 44) rfl ?_
        refine ri_ret dX7_isFull_44 rfl (by decide) ?_
        first | exact ⟨isB_1 (by omega), rfl⟩ | exact ⟨isB_0 (by omega), rfl⟩
      · replace c36 := ltF c36 (by omega) (by omega)
        refine pp_iconst dX7_isFull_39 ci_1 (q := 40) rfl ?_
        refine pp_goto (tgt := 44) dX7_isFull_40 (by decide) ?_
        refine ri_ret dX7_isFull_44 rfl (by decide) ?_
        first | exact ⟨isB_1 (by omega), rfl⟩ | exact ⟨isB_0 (by omega), rfl⟩
set_option maxRecDepth 20000 in
set_option maxHeartbeats 4000000 in
theorem m_ran {ad : Nm → Nat} {g : Sg} {k : Nat} (hm : al g (40, 0, 0)) (hk : k < 12) : PS mX7_ran 0 (ent mX7_ran [.ref (ad (40, 0, 0)), .int (nI k)]) [] ad g (Rv (fun g' => g' = sA g (41, 0, 0) (upd (gA g (41, 0, 0)) (118723 + k) (gA g (41, 0, 0) (118723 + k) + nI 1)))) := by
  show PP mX7_ran 0 [some (.ref (ad (40, 0, 0))), some (.int (nI k))] [] (Rel ad g) _
  refine pp_aload_n dX7_ran_0 rfl isRf_r (q := 1) rfl ?_
  refine ps_get dX7_ran_1 fl_X7_8 hm rfl rfl (q := 4) rfl ?_
  refine pp_ldc (v := nI 118723) dX7_ran_4 kc_X7_54 (q := 6) rfl ?_
  refine pp_iload_n dX7_ran_6 rfl (q := 7) rfl ?_
  refine pp_iadd dX7_ran_7 (q := 8) rfl ?_
  try rw [nI_add]
  refine pp_dup2 dX7_ran_8 rfl rfl (q := 9) rfl ?_
  refine ps_iald dX7_ran_9 hm rfl rfl (by omega) (by decide) (q := 10) rfl ?_
  refine pp_iconst dX7_ran_10 ci_1 (q := 11) rfl ?_
  refine pp_iadd dX7_ran_11 (q := 12) rfl ?_
  skip
  refine ps_iast dX7_ran_12 hm (fun _ => rfl) rfl (by omega) (by decide) (q := 13) rfl ?_
  refine rv_ret dX7_ran_13 rfl ?_
  exact rfl
set_option maxRecDepth 20000 in
set_option maxHeartbeats 4000000 in
theorem m_did {ad : Nm → Nat} {g : Sg} {v : Int32} (hm : al g (40, 0, 0))  : PS mX7_did 0 (ent mX7_did [.ref (ad (40, 0, 0)), .int v]) [] ad g (Ri (fun r g' => r = v ∧ g' = sA g (41, 0, 0) (upd (gA g (41, 0, 0)) 118722 (gA g (41, 0, 0) 118722 + nI 1)))) := by
  show PP mX7_did 0 [some (.ref (ad (40, 0, 0))), some (.int v)] [] (Rel ad g) _
  refine pp_aload_n dX7_did_0 rfl isRf_r (q := 1) rfl ?_
  refine ps_get dX7_did_1 fl_X7_8 hm rfl rfl (q := 4) rfl ?_
  refine pp_ldc (v := nI 118722) dX7_did_4 kc_X7_53 (q := 6) rfl ?_
  refine pp_dup2 dX7_did_6 rfl rfl (q := 7) rfl ?_
  refine ps_iald dX7_did_7 hm rfl rfl (by omega) (by decide) (q := 8) rfl ?_
  refine pp_iconst dX7_did_8 ci_1 (q := 9) rfl ?_
  refine pp_iadd dX7_did_9 (q := 10) rfl ?_
  skip
  refine ps_iast dX7_did_10 hm (fun _ => rfl) rfl (by omega) (by decide) (q := 11) rfl ?_
  refine pp_iload_n dX7_did_11 rfl (q := 12) rfl ?_
  refine ri_ret dX7_did_12 rfl rfl ?_
  exact ⟨rfl, rfl⟩
set_option maxRecDepth 20000 in
set_option maxHeartbeats 4000000 in
theorem m_draw {ad : Nm → Nat} {g : Sg} {m n : Nat} (hm : al g (40, 0, 0)) (hmb : m < 64) (hn : 1 ≤ n) (hb : n < 2 ^ 31) : PS mX7_draw 0 (ent mX7_draw [.ref (ad (40, 0, 0)), .int (nI m), .int (nI n)]) [] ad g (Ri (fun v g' => v = nI (drN (stir (gB g (43, 0, 0) m)) n) ∧ g' = sB g (43, 0, 0) (vp_updL (gB g (43, 0, 0)) m (stir (gB g (43, 0, 0) m))))) := by
  show PP mX7_draw 0 [some (.ref (ad (40, 0, 0))), some (.int (nI m)), some (.int (nI n))] [] (Rel ad g) _
  refine pp_aload_n dX7_draw_0 rfl isRf_r (q := 1) rfl ?_
  refine ps_get dX7_draw_1 fl_X7_17 hm rfl rfl (q := 4) rfl ?_
  refine pp_iload_n dX7_draw_4 rfl (q := 5) rfl ?_
  refine pp_aload_n dX7_draw_5 rfl isRf_r (q := 6) rfl ?_
  refine ps_get dX7_draw_6 fl_X7_17 hm rfl rfl (q := 9) rfl ?_
  refine pp_iload_n dX7_draw_9 rfl (q := 10) rfl ?_
  refine ps_lald dX7_draw_10 hm rfl rfl hmb (by decide) (q := 11) rfl ?_
  refine pp_ldc2 (v := (6364136223846793005)) dX7_draw_11 kc_X7_55 (q := 14) rfl ?_
  refine pp_lmul dX7_draw_14 (q := 15) rfl ?_
  refine pp_ldc2 (v := (1442695040888963407)) dX7_draw_15 kc_X7_57 (q := 18) rfl ?_
  refine pp_ladd dX7_draw_18 (q := 19) rfl ?_
  refine ps_last dX7_draw_19 hm (fun _ => rfl) rfl hmb (by decide) (q := 20) rfl ?_
  refine pp_aload_n dX7_draw_20 rfl isRf_r (q := 21) rfl ?_
  refine ps_get dX7_draw_21 fl_X7_17 hm rfl rfl (q := 24) rfl ?_
  refine pp_iload_n dX7_draw_24 rfl (q := 25) rfl ?_
  refine ps_lald dX7_draw_25 hm rfl rfl hmb (by decide) (q := 26) rfl ?_
  rw [gB_43, show vp_updL (gB g (43, 0, 0)) m (gB g (43, 0, 0) m * 6364136223846793005 + 1442695040888963407) m = stir (gB g (43, 0, 0) m) from if_pos rfl]
  refine pp_bipush dX7_draw_26 cb_33 (q := 28) rfl ?_
  refine pp_lushr dX7_draw_28 (q := 29) rfl ?_
  refine pp_iload_n dX7_draw_29 rfl (q := 30) rfl ?_
  refine pp_i2l dX7_draw_30 (q := 31) rfl ?_
  refine pp_lrem dX7_draw_31 (by intro q; have := congrArg Int64.toInt q; rw [Int32.toInt_toInt64, nI_toInt hb] at this; have e0 : (0 : Int64).toInt = 0 := rfl; omega) (q := 32) rfl ?_
  refine pp_l2i dX7_draw_32 (q := 33) rfl ?_
  refine ri_ret dX7_draw_33 rfl rfl ?_
  refine ⟨?_, rfl⟩
  rw [← drw_eq _ hn hb]
  unfold drw
  rw [show (nI n).toInt64 = lN n from nI_l hb]
set_option maxRecDepth 20000 in
set_option maxHeartbeats 4000000 in
theorem m_writes {ad : Nm → Nat} {g : Sg} {m x : Nat} {kind t l : Int32} (hm : al g (40, 0, 0)) (hmb : m < 64) (hx : x < 64) : PS mX7_writes 0 (ent mX7_writes [.ref (ad (40, 0, 0)), .int (nI m), .int (nI x), .int kind, .int t, .int l]) [] ad g (Rv (fun g' => g' = sA g (41, 0, 0) (upd (upd (upd (upd (upd (gA g (41, 0, 0)) (nw m x) kind) (nw m x + 1) t) (nw m x + 2) (nI 0)) (nw m x + 3) (gA g (41, 0, 0) (7 * m + 2))) (nw m x + 4) l))) := by
  show PP mX7_writes 0 [some (.ref (ad (40, 0, 0))), some (.int (nI m)), some (.int (nI x)), some (.int kind), some (.int t), some (.int l), none] [] (Rel ad g) _
  refine pp_iload_n dX7_writes_0 rfl (q := 1) rfl ?_
  refine pp_iload_n dX7_writes_1 rfl (q := 2) rfl ?_
  refine ps_callSi dX7_writes_2 lk_X7_44 (by rfl) m_newsAt (by rfl) (by exact Nat.le_of_ble_eq_true rfl) (by decide) (by decide) (by exact Nat.le_of_ble_eq_true rfl) (q := 5) rfl (fun r2 g2 h2 => ?_)
  obtain ⟨rfl, rfl⟩ := And.intro h2.1.symm h2.2.symm
  refine pp_istore dX7_writes_5 (by decide) (ls1_6 (nl1 rfl)) (q := 7) rfl ?_
  refine pp_aload_n dX7_writes_7 rfl isRf_r (q := 8) rfl ?_
  refine ps_get dX7_writes_8 fl_X7_8 hm rfl rfl (q := 11) rfl ?_
  refine pp_iload dX7_writes_11 rfl (q := 13) rfl ?_
  refine pp_iconst dX7_writes_13 ci_0 (q := 14) rfl ?_
  refine pp_iadd dX7_writes_14 (q := 15) rfl ?_
  try rw [nI_add]
  refine pp_iload_n dX7_writes_15 rfl (q := 16) rfl ?_
  refine ps_iast (j := nw m x) dX7_writes_16 hm (fun _ => rfl) (by rw [Nat.add_zero]) (by unfold nw; omega) (by decide) (q := 17) rfl ?_
  refine pp_aload_n dX7_writes_17 rfl isRf_r (q := 18) rfl ?_
  refine ps_get dX7_writes_18 fl_X7_8 hm rfl rfl (q := 21) rfl ?_
  refine pp_iload dX7_writes_21 rfl (q := 23) rfl ?_
  refine pp_iconst dX7_writes_23 ci_1 (q := 24) rfl ?_
  refine pp_iadd dX7_writes_24 (q := 25) rfl ?_
  try rw [nI_add]
  refine pp_iload dX7_writes_25 rfl (q := 27) rfl ?_
  refine ps_iast dX7_writes_27 hm (fun _ => rfl) rfl (by unfold nw; omega) (by decide) (q := 28) rfl ?_
  rw [sA_sA, gA_41]
  refine pp_aload_n dX7_writes_28 rfl isRf_r (q := 29) rfl ?_
  refine ps_get dX7_writes_29 fl_X7_8 hm rfl rfl (q := 32) rfl ?_
  refine pp_iload dX7_writes_32 rfl (q := 34) rfl ?_
  refine pp_iconst dX7_writes_34 ci_2 (q := 35) rfl ?_
  refine pp_iadd dX7_writes_35 (q := 36) rfl ?_
  try rw [nI_add]
  refine pp_iconst dX7_writes_36 ci_0 (q := 37) rfl ?_
  refine ps_iast dX7_writes_37 hm (fun _ => rfl) rfl (by unfold nw; omega) (by decide) (q := 38) rfl ?_
  rw [sA_sA, gA_41]
  refine pp_aload_n dX7_writes_38 rfl isRf_r (q := 39) rfl ?_
  refine ps_get dX7_writes_39 fl_X7_8 hm rfl rfl (q := 42) rfl ?_
  refine pp_iload dX7_writes_42 rfl (q := 44) rfl ?_
  refine pp_iconst dX7_writes_44 ci_3 (q := 45) rfl ?_
  refine pp_iadd dX7_writes_45 (q := 46) rfl ?_
  try rw [nI_add]
  refine pp_aload_n dX7_writes_46 rfl isRf_r (q := 47) rfl ?_
  refine pp_iload_n dX7_writes_47 rfl (q := 48) rfl ?_
  refine pp_iconst dX7_writes_48 ci_2 (q := 49) rfl ?_
  refine ps_callVi dX7_writes_49 lk_X7_48 (by exact hm) (by rfl) (by rfl) (by rfl) (m_of (by exact hm) hmb (by omega)) (by rfl) (by exact Nat.le_of_ble_eq_true rfl) (by decide) (by decide) (by exact Nat.le_of_ble_eq_true rfl) (q := 52) rfl (fun r49 g49 h49 => ?_)
  obtain ⟨rfl, rfl⟩ := And.intro h49.1.symm h49.2.symm
  rw [show gA (sA g (41, 0, 0) (upd (upd (upd (gA g (41, 0, 0)) (nw m x) kind) (nw m x + 1) t) (nw m x + 2) (nI 0))) (41, 0, 0) (7 * m + 2) = gA g (41, 0, 0) (7 * m + 2) from by show upd (upd (upd (gA g (41, 0, 0)) (nw m x) kind) (nw m x + 1) t) (nw m x + 2) (nI 0) (7 * m + 2) = _; unfold upd nw; rw [if_neg (by omega), if_neg (by omega), if_neg (by omega)]]
  refine ps_iast dX7_writes_52 hm (fun _ => rfl) rfl (by unfold nw; omega) (by decide) (q := 53) rfl ?_
  rw [sA_sA, gA_41]
  refine pp_aload_n dX7_writes_53 rfl isRf_r (q := 54) rfl ?_
  refine ps_get dX7_writes_54 fl_X7_8 hm rfl rfl (q := 57) rfl ?_
  refine pp_iload dX7_writes_57 rfl (q := 59) rfl ?_
  refine pp_iconst dX7_writes_59 ci_4 (q := 60) rfl ?_
  refine pp_iadd dX7_writes_60 (q := 61) rfl ?_
  try rw [nI_add]
  refine pp_iload dX7_writes_61 rfl (q := 63) rfl ?_
  refine ps_iast dX7_writes_63 hm (fun _ => rfl) rfl (by unfold nw; omega) (by decide) (q := 64) rfl ?_
  rw [sA_sA, gA_41]
  refine rv_ret dX7_writes_64 rfl ?_
  exact rfl
set_option maxRecDepth 20000 in
set_option maxHeartbeats 4000000 in
theorem m_goesQuiet {ad : Nm → Nat} {g : Sg} {m : Nat} (hm : al g (40, 0, 0)) (hmb : m < 64) : PS mX7_goesQuiet 0 (ent mX7_goesQuiet [.ref (ad (40, 0, 0)), .int (nI m)]) [] ad g (Rv (fun g' => g' = sA g (41, 0, 0) (upd (upd (upd (upd (gA g (41, 0, 0)) (7 * m + 3) (-1)) (7 * m + 4) (-1)) (7 * m + 5) (nI 0)) (7 * m + 6) (nI 0)))) := by
  show PP mX7_goesQuiet 0 [some (.ref (ad (40, 0, 0))), some (.int (nI m))] [] (Rel ad g) _
  refine pp_aload_n dX7_goesQuiet_0 rfl isRf_r (q := 1) rfl ?_
  refine pp_iload_n dX7_goesQuiet_1 rfl (q := 2) rfl ?_
  refine pp_iconst dX7_goesQuiet_2 ci_3 (q := 3) rfl ?_
  refine pp_iconst dX7_goesQuiet_3 ci_m1 (q := 4) rfl ?_
  refine ps_callVv dX7_goesQuiet_4 lk_X7_63 (by exact hm) (by rfl) (by rfl) (by rfl) (m_to hm hmb (by omega)) (by rfl) (by exact Nat.le_of_ble_eq_true rfl) (by decide) (by decide) (by exact Nat.le_of_ble_eq_true rfl) (q := 7) rfl (fun g4 h4 => ?_)
  have h4 := h4.symm
  subst h4
  refine pp_aload_n dX7_goesQuiet_7 rfl isRf_r (q := 8) rfl ?_
  refine pp_iload_n dX7_goesQuiet_8 rfl (q := 9) rfl ?_
  refine pp_iconst dX7_goesQuiet_9 ci_4 (q := 10) rfl ?_
  refine pp_iconst dX7_goesQuiet_10 ci_m1 (q := 11) rfl ?_
  refine ps_callVv dX7_goesQuiet_11 lk_X7_63 (by exact hm) (by rfl) (by rfl) (by rfl) (m_to (by exact hm) hmb (by omega)) (by rfl) (by exact Nat.le_of_ble_eq_true rfl) (by decide) (by decide) (by exact Nat.le_of_ble_eq_true rfl) (q := 14) rfl (fun g11 h11 => ?_)
  subst h11
  rw [sA_sA, gA_41]
  refine pp_aload_n dX7_goesQuiet_14 rfl isRf_r (q := 15) rfl ?_
  refine pp_iload_n dX7_goesQuiet_15 rfl (q := 16) rfl ?_
  refine pp_iconst dX7_goesQuiet_16 ci_5 (q := 17) rfl ?_
  refine pp_iconst dX7_goesQuiet_17 ci_0 (q := 18) rfl ?_
  refine ps_callVv dX7_goesQuiet_18 lk_X7_63 (by exact hm) (by rfl) (by rfl) (by rfl) (m_to (by exact hm) hmb (by omega)) (by rfl) (by exact Nat.le_of_ble_eq_true rfl) (by decide) (by decide) (by exact Nat.le_of_ble_eq_true rfl) (q := 21) rfl (fun g18 h18 => ?_)
  subst h18
  rw [sA_sA, gA_41]
  refine pp_aload_n dX7_goesQuiet_21 rfl isRf_r (q := 22) rfl ?_
  refine pp_iload_n dX7_goesQuiet_22 rfl (q := 23) rfl ?_
  refine pp_bipush dX7_goesQuiet_23 cb_6 (q := 25) rfl ?_
  refine pp_iconst dX7_goesQuiet_25 ci_0 (q := 26) rfl ?_
  refine ps_callVv dX7_goesQuiet_26 lk_X7_63 (by exact hm) (by rfl) (by rfl) (by rfl) (m_to (by exact hm) hmb (by omega)) (by rfl) (by exact Nat.le_of_ble_eq_true rfl) (by decide) (by decide) (by exact Nat.le_of_ble_eq_true rfl) (q := 29) rfl (fun g26 h26 => ?_)
  subst h26
  rw [sA_sA, gA_41]
  refine rv_ret dX7_goesQuiet_29 rfl ?_
  exact rfl
set_option maxRecDepth 20000 in
set_option maxHeartbeats 4000000 in
theorem m_isAround {ad : Nm → Nat} {g : Sg} {m x : Nat} (hm : al g (40, 0, 0)) (hmb : m < 64) (hx : x < 64) : PS mX7_isAround 0 (ent mX7_isAround [.ref (ad (40, 0, 0)), .int (nI m), .int (nI x)]) [] ad g (Ri (fun v g' => isB v (x ≠ m ∧ (gA g (41, 0, 0) (nw m x) = nI 1 ∨ gA g (41, 0, 0) (nw m x) = nI 2)) ∧ g' = g)) := by
  show PP mX7_isAround 0 [some (.ref (ad (40, 0, 0))), some (.int (nI m)), some (.int (nI x))] [] (Rel ad g) _
  refine pp_iload_n dX7_isAround_0 rfl (q := 1) rfl ?_
  refine pp_iload_n dX7_isAround_1 rfl (q := 2) rfl ?_
  refine pp_icmp_eq (tgt := 29) dX7_isAround_2 (by decide) (q := 5) rfl (fun c2 => ?_) (fun c2 => ?_)
  · replace c2 := eqT c2 (by omega) (by omega)
    refine pp_iconst dX7_isAround_29 ci_0 (q := 30) rfl ?_
    refine ri_ret dX7_isAround_30 rfl (by decide) ?_
    first | exact ⟨isB_1 ⟨c2, Or.inl c12⟩, rfl⟩ | exact ⟨isB_1 ⟨c2, Or.inr c22⟩, rfl⟩ | exact ⟨isB_0 (fun q => q.1 c2), rfl⟩ | exact ⟨isB_0 (fun q => q.2.elim c12 c22), rfl⟩
  · replace c2 := eqF c2
    refine pp_aload_n dX7_isAround_5 rfl isRf_r (q := 6) rfl ?_
    refine pp_iload_n dX7_isAround_6 rfl (q := 7) rfl ?_
    refine pp_iload_n dX7_isAround_7 rfl (q := 8) rfl ?_
    refine ps_callVi dX7_isAround_8 lk_X7_72 (by exact hm) (by rfl) (by rfl) (by rfl) (m_kindOf hm hmb hx) (by rfl) (by exact Nat.le_of_ble_eq_true rfl) (by decide) (by decide) (by exact Nat.le_of_ble_eq_true rfl) (q := 11) rfl (fun r8 g8 h8 => ?_)
    obtain ⟨rfl, rfl⟩ := And.intro h8.1.symm h8.2.symm
    refine pp_iconst dX7_isAround_11 ci_1 (q := 12) rfl ?_
    refine pp_icmp_eq (tgt := 25) dX7_isAround_12 (by decide) (q := 15) rfl (fun c12 => ?_) (fun c12 => ?_)
    · refine pp_iconst dX7_isAround_25 ci_1 (q := 26) rfl ?_
      refine pp_goto (tgt := 30) dX7_isAround_26 (by decide) ?_
      refine ri_ret dX7_isAround_30 rfl (by decide) ?_
      first | exact ⟨isB_1 ⟨c2, Or.inl c12⟩, rfl⟩ | exact ⟨isB_1 ⟨c2, Or.inr c22⟩, rfl⟩ | exact ⟨isB_0 (fun q => q.1 c2), rfl⟩ | exact ⟨isB_0 (fun q => q.2.elim c12 c22), rfl⟩
    · refine pp_aload_n dX7_isAround_15 rfl isRf_r (q := 16) rfl ?_
      refine pp_iload_n dX7_isAround_16 rfl (q := 17) rfl ?_
      refine pp_iload_n dX7_isAround_17 rfl (q := 18) rfl ?_
      refine ps_callVi dX7_isAround_18 lk_X7_72 (by exact hm) (by rfl) (by rfl) (by rfl) (m_kindOf hm hmb hx) (by rfl) (by exact Nat.le_of_ble_eq_true rfl) (by decide) (by decide) (by exact Nat.le_of_ble_eq_true rfl) (q := 21) rfl (fun r18 g18 h18 => ?_)
      obtain ⟨rfl, rfl⟩ := And.intro h18.1.symm h18.2.symm
      refine pp_iconst dX7_isAround_21 ci_2 (q := 22) rfl ?_
      refine pp_icmp_ne (tgt := 29) dX7_isAround_22 (by decide) (q := 25) rfl (fun c22 => ?_) (fun c22 => ?_)
      · refine pp_iconst dX7_isAround_29 ci_0 (q := 30) rfl ?_
        refine ri_ret dX7_isAround_30 rfl (by decide) ?_
        first | exact ⟨isB_1 ⟨c2, Or.inl c12⟩, rfl⟩ | exact ⟨isB_1 ⟨c2, Or.inr c22⟩, rfl⟩ | exact ⟨isB_0 (fun q => q.1 c2), rfl⟩ | exact ⟨isB_0 (fun q => q.2.elim c12 c22), rfl⟩
      · refine pp_iconst dX7_isAround_25 ci_1 (q := 26) rfl ?_
        refine pp_goto (tgt := 30) dX7_isAround_26 (by decide) ?_
        refine ri_ret dX7_isAround_30 rfl (by decide) ?_
        first | exact ⟨isB_1 ⟨c2, Or.inl c12⟩, rfl⟩ | exact ⟨isB_1 ⟨c2, Or.inr c22⟩, rfl⟩ | exact ⟨isB_0 (fun q => q.1 c2), rfl⟩ | exact ⟨isB_0 (fun q => q.2.elim c12 c22), rfl⟩
def noG (g : Sg) (k : Nat) : Sg := sI (sA g (47, 0, 0) (upd (gA g (47, 0, 0)) k (gA g (47, 0, 0) k + nI 1))) (40, 0, 0) 10 (- nI k)
set_option maxRecDepth 20000 in
set_option maxHeartbeats 4000000 in
theorem m_no {ad : Nm → Nat} {g : Sg} {k : Nat} (hm : al g (40, 0, 0)) (hk : isW k) : PS mX7_no 0 (ent mX7_no [.ref (ad (40, 0, 0)), .int (- nI k)]) [] ad g (Ri (fun v g' => v = - nI k ∧ g' = noG g k)) := by
  have e3 := (neg_k ⟨k, by have := hk.2; omega⟩).1
  dsimp only at e3
  show PP mX7_no 0 [some (.ref (ad (40, 0, 0))), some (.int (- nI k))] [] (Rel ad g) _
  refine pp_aload_n dX7_no_0 rfl isRf_r (q := 1) rfl ?_
  refine ps_get dX7_no_1 fl_X7_30 hm rfl rfl (q := 4) rfl ?_
  refine pp_iload_n dX7_no_4 rfl (q := 5) rfl ?_
  refine pp_ineg dX7_no_5 (q := 6) rfl ?_
  rw [e3]
  refine pp_dup2 dX7_no_6 rfl rfl (q := 7) rfl ?_
  refine ps_iald (j := k) dX7_no_7 hm rfl rfl (by have := hk.2; omega) (by decide) (q := 8) rfl ?_
  refine pp_iconst dX7_no_8 ci_1 (q := 9) rfl ?_
  refine pp_iadd dX7_no_9 (q := 10) rfl ?_
  skip
  refine ps_iast (j := k) dX7_no_10 hm (fun _ => rfl) rfl (by have := hk.2; omega) (by decide) (q := 11) rfl ?_
  refine pp_aload_n dX7_no_11 rfl isRf_r (q := 12) rfl ?_
  refine pp_iload_n dX7_no_12 rfl (q := 13) rfl ?_
  refine ps_puti dX7_no_13 fl_X7_40 hm rfl (by exact Nat.le_of_ble_eq_true rfl) rfl rfl rfl (q := 16) rfl ?_
  refine pp_iload_n dX7_no_16 rfl (q := 17) rfl ?_
  refine ri_ret dX7_no_17 rfl rfl ?_
  exact ⟨rfl, rfl⟩
theorem m_no2 {ad : Nm → Nat} {g : Sg} (hm : al g (40, 0, 0)) : PS mX7_no 0 (ent mX7_no [.ref (ad (40, 0, 0)), .int (-2)]) [] ad g (Ri (fun v g' => v = - nI 2 ∧ g' = noG g 2)) := m_no (k := 2) hm ⟨by omega, by omega⟩
theorem m_no3 {ad : Nm → Nat} {g : Sg} (hm : al g (40, 0, 0)) : PS mX7_no 0 (ent mX7_no [.ref (ad (40, 0, 0)), .int (-3)]) [] ad g (Ri (fun v g' => v = - nI 3 ∧ g' = noG g 3)) := m_no (k := 3) hm ⟨by omega, by omega⟩
theorem m_no4 {ad : Nm → Nat} {g : Sg} (hm : al g (40, 0, 0)) : PS mX7_no 0 (ent mX7_no [.ref (ad (40, 0, 0)), .int (-4)]) [] ad g (Ri (fun v g' => v = - nI 4 ∧ g' = noG g 4)) := m_no (k := 4) hm ⟨by omega, by omega⟩
theorem m_no5 {ad : Nm → Nat} {g : Sg} (hm : al g (40, 0, 0)) : PS mX7_no 0 (ent mX7_no [.ref (ad (40, 0, 0)), .int (-5)]) [] ad g (Ri (fun v g' => v = - nI 5 ∧ g' = noG g 5)) := m_no (k := 5) hm ⟨by omega, by omega⟩
theorem m_no6 {ad : Nm → Nat} {g : Sg} (hm : al g (40, 0, 0)) : PS mX7_no 0 (ent mX7_no [.ref (ad (40, 0, 0)), .int (-6)]) [] ad g (Ri (fun v g' => v = - nI 6 ∧ g' = noG g 6)) := m_no (k := 6) hm ⟨by omega, by omega⟩
theorem m_no8 {ad : Nm → Nat} {g : Sg} (hm : al g (40, 0, 0)) : PS mX7_no 0 (ent mX7_no [.ref (ad (40, 0, 0)), .int (-8)]) [] ad g (Ri (fun v g' => v = - nI 8 ∧ g' = noG g 8)) := m_no (k := 8) hm ⟨by omega, by omega⟩
theorem m_no9 {ad : Nm → Nat} {g : Sg} (hm : al g (40, 0, 0)) : PS mX7_no 0 (ent mX7_no [.ref (ad (40, 0, 0)), .int (-9)]) [] ad g (Ri (fun v g' => v = - nI 9 ∧ g' = noG g 9)) := m_no (k := 9) hm ⟨by omega, by omega⟩
theorem m_no10 {ad : Nm → Nat} {g : Sg} (hm : al g (40, 0, 0)) : PS mX7_no 0 (ent mX7_no [.ref (ad (40, 0, 0)), .int (-10)]) [] ad g (Ri (fun v g' => v = - nI 10 ∧ g' = noG g 10)) := m_no (k := 10) hm ⟨by omega, by omega⟩
