def sttV (M : Me) (v : Nat) : Int32 := match v with
  | 0 => M.1 2
  | 1 => M.1 4
  | 2 => M.1 5
  | 3 => nI 64 - nI (cnt (M.2.2 31) (nI 0) 64)
  | 4 => nI (cnt (M.2.2 31) (nI 1) 64)
  | 5 => nI (cnt (M.2.2 31) (nI 2) 64)
  | 6 => nI (cnt (M.2.2 31) (nI 3) 64)
  | 7 => nI (cnt (M.2.2 31) (nI 4) 64)
  | 8 => M.1 6
  | 9 => M.1 7
  | 10 => M.1 14
  | _ => M.1 15
/-- as a member's number goes -/
noncomputable def qM (A : AW) (m : Int32) (q : Nat ⊕ Int32) : Nat ⊕ Int32 := cIf (isM m) (cIf (mdX A m) q (.inl 2)) (.inl 3)
noncomputable def qN (A : AW) (m x : Int32) (q : Nat ⊕ Int32) : Nat ⊕ Int32 := cIf (isM m ∧ isM x) (cIf (mdX A m ∧ ¬ (A.1 (cl m)).2.2 31 (cl x) = 0) q (.inl 2)) (.inl 3)
noncomputable def qState (A : AW) (m what : Int32) : Nat ⊕ Int32 := qM A m (cIf (inR what 12) (.inr (sttV (A.1 (cl m)) (cl what))) (.inl 9))
noncomputable def qNews (A : AW) (m x what : Int32) : Nat ⊕ Int32 := qN A m x (cIf (inR what 5) (.inr ((A.1 (cl m)).2.2 (31 + cl what) (cl x))) (.inl 9))
noncomputable def qAs (A : AW) (m x kind : Int32) : Nat ⊕ Int32 := qN A m x (cIf (inR kind 5 ∧ ¬ kind = 0) (cIf ((A.1 (cl m)).2.2 31 (cl x) < kind) (.inl 5) (.inr ((A.1 (cl m)).2.2 32 (cl x)))) (.inl 9))
noncomputable def qRound (A : AW) (m i : Int32) : Nat ⊕ Int32 := qM A m (cIf (inR i (cl ((A.1 (cl m)).1 14))) (.inr ((A.1 (cl m)).2.2 36 (cl i))) (.inl 3))
noncomputable def qNext (A : AW) (m : Int32) : Nat ⊕ Int32 := qM A m (cIf ((A.1 (cl m)).1 2 = 0) (.inr (woA (cl m) (A.1 (cl m)))) (.inl 8))
theorem qM_ok {A : AW} {i : Nat} {q : Nat ⊕ Int32} (hi : i < 64) (hd : mdA A i) : qM A (nI i) q = q := by
  unfold qM
  rw [cIf_t ⟨i, hi, rfl⟩, cIf_t ⟨i, hi, rfl, hd⟩]
theorem qN_ok {A : AW} {i x : Nat} {q : Nat ⊕ Int32} (hi : i < 64) (hx : x < 64) (hd : mdA A i) (hk : ¬ (A.1 i).2.2 31 x = 0) : qN A (nI i) (nI x) q = q := by
  unfold qN
  rw [cIf_t ⟨⟨i, hi, rfl⟩, ⟨x, hx, rfl⟩⟩, cIf_t ⟨⟨i, hi, rfl, hd⟩, by rw [cl_nI (by omega), cl_nI (by omega)]; exact hk⟩]
theorem c_memY {ad : Nm → Nat} {g : Sg} {w : Nat} {A : AW} {x : Int32} (hA : RW g w A) : PS mX5_memberAt 0 (ent mX5_memberAt [.ref (ad (10, w, 0)), .int x]) [] ad g (Rr (fun _ g' => g' = g)) := by
  refine (c_memB hA).weak (fun v G hG => ?_)
  obtain ⟨g', h1, r, h2, h3, h4⟩ := hG
  exact ⟨g', h1, r, h2, h4⟩
/-- why there is no member -/
theorem whM {A : AW} (x : Int32) : (∃ i, i < 64 ∧ x = nI i ∧ mdA A i) ∨ ∃ k, (isW k ∧ k ≠ 7) ∧ (∀ q, qM A x q = .inl k) ∧ ∀ {ad : Nm → Nat} {g : Sg}, RW g 0 A → PS mX5_whyNoMember 0 (ent mX5_whyNoMember [.ref (ad (10, 0, 0)), .int x]) [] ad g (Ri (fun v g' => v = - nI k ∧ g' = g)) := by
  rcases mem_cases x with ⟨i, hi, rfl⟩ | h
  · by_cases hd : mdA A i
    · exact Or.inl ⟨i, hi, rfl, hd⟩
    · refine Or.inr ⟨2, ⟨⟨by omega, by omega⟩, by omega⟩, fun q => ?_, fun hA => c_whyM_m hA hi hd⟩
      unfold qM
      rw [cIf_t ⟨i, hi, rfl⟩, cIf_f (fun h => hd (mdX_i hi h))]
  · refine Or.inr ⟨3, ⟨⟨by omega, by omega⟩, by omega⟩, fun q => ?_, fun hA => c_whyM_b hA h⟩
    unfold qM
    rw [cIf_f (isM_no h)]
theorem whN {A : AW} (m x : Int32) : (∃ i j, i < 64 ∧ j < 64 ∧ m = nI i ∧ x = nI j ∧ mdA A i ∧ ¬ (A.1 i).2.2 31 j = 0) ∨ ∃ k, (isW k ∧ k ≠ 7) ∧ (∀ q, qN A m x q = .inl k) ∧ ∀ {ad : Nm → Nat} {g : Sg}, RW g 0 A → PS mX5_whyNoNews 0 (ent mX5_whyNoNews [.ref (ad (10, 0, 0)), .int m, .int x]) [] ad g (Ri (fun v g' => v = - nI k ∧ g' = g)) := by
  rcases mem_cases m with ⟨i, hi, rfl⟩ | h
  · rcases mem_cases x with ⟨j, hj, rfl⟩ | h
    · by_cases hd : mdA A i
      · by_cases hk : (A.1 i).2.2 31 j = 0
        · refine Or.inr ⟨2, ⟨⟨by omega, by omega⟩, by omega⟩, fun q => ?_, fun hA => ?_⟩
          · unfold qN
            rw [cIf_t ⟨⟨i, hi, rfl⟩, ⟨j, hj, rfl⟩⟩, cIf_f (fun h => by have := h.2; rw [cl_nI (by omega), cl_nI (by omega)] at this; exact this hk)]
          · refine (c_whyN hA hi hj hd).weak (fun v G hG => ?_)
            obtain ⟨g', h1, r, h2, h3, h4⟩ := hG
            rcases h3 with ⟨h3, -⟩ | ⟨-, h3⟩
            · exact absurd hk h3
            · exact ⟨g', h1, r, h2, h3, h4⟩
        · exact Or.inl ⟨i, j, hi, hj, rfl, rfl, hd, hk⟩
      · refine Or.inr ⟨2, ⟨⟨by omega, by omega⟩, by omega⟩, fun q => ?_, fun hA => c_whyN_m hA hi hj hd⟩
        unfold qN
        rw [cIf_t ⟨⟨i, hi, rfl⟩, ⟨j, hj, rfl⟩⟩, cIf_f (fun h => hd (mdX_i hi h.1))]
    · refine Or.inr ⟨3, ⟨⟨by omega, by omega⟩, by omega⟩, fun q => ?_, fun hA => c_whyN_b2 hA hi h⟩
      unfold qN
      rw [cIf_f (fun q => isM_no h q.2)]
  · refine Or.inr ⟨3, ⟨⟨by omega, by omega⟩, by omega⟩, fun q => ?_, fun hA => c_whyN_b1 hA h⟩
    unfold qN
    rw [cIf_f (fun q => isM_no h q.1)]
theorem c_whyN0 {ad : Nm → Nat} {g : Sg} {w : Nat} {A : AW} {i x : Nat} (hA : RW g w A) (hi : i < 64) (hx : x < 64) (hd : mdA A i) (hk : ¬ (A.1 i).2.2 31 x = 0) : PS mX5_whyNoNews 0 (ent mX5_whyNoNews [.ref (ad (10, w, 0)), .int (nI i), .int (nI x)]) [] ad g (Ri (fun v g' => v = nI 0 ∧ g' = g)) := by
  refine (c_whyN hA hi hx hd).weak (fun v G hG => ?_)
  obtain ⟨g', h1, r, h2, h3, h4⟩ := hG
  rcases h3 with ⟨-, h3⟩ | ⟨h3, -⟩
  · exact ⟨g', h1, r, h2, h3, h4⟩
  · exact absurd hk h3
theorem ngk_ne {k : Nat} (hk : isW k) : ¬ - nI k = 0 := by
  have e : ∀ k : Fin 11, k.val < 2 ∨ ¬ - nI k.val = 0 := by decide
  exact (e ⟨k, by have := hk.2; omega⟩).resolve_left (fun q => by have : k < 2 := q; have := hk.1; omega)
set_option maxRecDepth 20000 in
set_option maxHeartbeats 4000000 in
theorem c_state_no {ad : Nm → Nat} {g : Sg} {A : AW} {k : Nat} {m what : Int32} (hr : al g (0, 0, 0)) (hA : RW g 0 A) (hk : isW k ∧ k ≠ 7) (hwhy : PS mX5_whyNoMember 0 (ent mX5_whyNoMember [.ref (ad (10, 0, 0)), .int m]) [] ad g (Ri (fun v g' => v = - nI k ∧ g' = g))) : PS mX6_state 0 (ent mX6_state [.ref (ad (0, 0, 0)), .int m, .int what]) [] ad g (Ri (fun v g' => v = - nI k ∧ g' = keG g k (- nI k))) := by
  have hW := hA.1
  show PP mX6_state 0 [some (.ref (ad (0, 0, 0))), some (.int m), some (.int what), none, none] [] (Rel ad g) _
  refine pp_aload_n dX6_state_0 rfl isRf_r (q := 1) rfl ?_
  refine ps_get dX6_state_1 fl_X6_10 hr rfl rfl (q := 4) rfl ?_
  refine pp_iload_n dX6_state_4 rfl (q := 5) rfl ?_
  refine ps_callVi dX6_state_5 lk_X6_104 (by exact hW) (by rfl) (by rfl) (by rfl) hwhy (by rfl) (by exact Nat.le_of_ble_eq_true rfl) (by decide) (by decide) (by exact Nat.le_of_ble_eq_true rfl) (q := 8) rfl (fun r5 g5 h5 => ?_)
  obtain ⟨rfl, rfl⟩ := And.intro h5.1.symm h5.2.symm
  refine pp_istore_n dX6_state_8 (by decide) (ls1_3 (nl1 rfl)) (q := 9) rfl ?_
  refine pp_aload_n dX6_state_9 rfl isRf_r (q := 10) rfl ?_
  refine ps_get dX6_state_10 fl_X6_10 hr rfl rfl (q := 13) rfl ?_
  refine pp_iload_n dX6_state_13 rfl (q := 14) rfl ?_
  refine ps_callVr dX6_state_14 lk_X6_107 (by exact hW) (by rfl) (by rfl) (by rfl) (c_memY hA) (by rfl) (by exact Nat.le_of_ble_eq_true rfl) (by decide) (by decide) (by exact Nat.le_of_ble_eq_true rfl) (q := 17) rfl (fun r14 g14 h14 => ?_)
  subst h14
  refine pp_astore dX6_state_17 (by first | exact isRf_r | exact isRf_va | exact isRf_n) (by decide) (ls1_4 (nl1 rfl)) (q := 19) rfl ?_
  refine pp_iload_n dX6_state_19 rfl (q := 20) rfl ?_
  refine pp_if_ne (tgt := 28) dX6_state_20 (by decide) (q := 23) rfl (fun c20 => ?_) (fun c20 => absurd c20 (ngk_ne hk.1))
  refine pp_aload_n dX6_state_28 rfl isRf_r (q := 29) rfl ?_
  refine pp_iload_n dX6_state_29 rfl (q := 30) rfl ?_
  refine ps_callVi dX6_state_30 lk_X6_86 (by exact hr) (by rfl) (by rfl) (by rfl) (c_refused (by exact hr) hk.1) (by rfl) (by exact Nat.le_of_ble_eq_true rfl) (by decide) (by decide) (by exact Nat.le_of_ble_eq_true rfl) (q := 33) rfl (fun r30 g30 h30 => ?_)
  obtain ⟨rfl, rfl⟩ := And.intro h30.1.symm h30.2.symm
  refine ri_ret dX6_state_33 rfl rfl ?_
  exact ⟨rfl, rfl⟩
set_option maxRecDepth 20000 in
set_option maxHeartbeats 4000000 in
theorem c_state_ok {ad : Nm → Nat} {g : Sg} {A : AW} {i : Nat} {what : Int32} (hr : al g (0, 0, 0)) (hA : RW g 0 A) (hi : i < 64) (hd : mdA A i)  : PS mX6_state 0 (ent mX6_state [.ref (ad (0, 0, 0)), .int (nI i), .int what]) [] ad g (Ri (fun v g' => QR g (qState A (nI i) what) v g')) := by
  have hW := hA.1
  have hM := hA.m hi hd
  show PP mX6_state 0 [some (.ref (ad (0, 0, 0))), some (.int (nI i)), some (.int what), none, none] [] (Rel ad g) _
  refine pp_aload_n dX6_state_0 rfl isRf_r (q := 1) rfl ?_
  refine ps_get dX6_state_1 fl_X6_10 hr rfl rfl (q := 4) rfl ?_
  refine pp_iload_n dX6_state_4 rfl (q := 5) rfl ?_
  refine ps_callVi dX6_state_5 lk_X6_104 (by exact hW) (by rfl) (by rfl) (by rfl) (c_whyM hA hi hd) (by rfl) (by exact Nat.le_of_ble_eq_true rfl) (by decide) (by decide) (by exact Nat.le_of_ble_eq_true rfl) (q := 8) rfl (fun r5 g5 h5 => ?_)
  obtain ⟨rfl, rfl⟩ := And.intro h5.1.symm h5.2.symm
  refine pp_istore_n dX6_state_8 (by decide) (ls1_3 (nl1 rfl)) (q := 9) rfl ?_
  refine pp_aload_n dX6_state_9 rfl isRf_r (q := 10) rfl ?_
  refine ps_get dX6_state_10 fl_X6_10 hr rfl rfl (q := 13) rfl ?_
  refine pp_iload_n dX6_state_13 rfl (q := 14) rfl ?_
  refine ps_callVr dX6_state_14 lk_X6_107 (by exact hW) (by rfl) (by rfl) (by rfl) (c_memAt hA hi hd) (by rfl) (by exact Nat.le_of_ble_eq_true rfl) (by decide) (by decide) (by exact Nat.le_of_ble_eq_true rfl) (q := 17) rfl (fun r14 g14 h14 => ?_)
  obtain ⟨rfl, rfl⟩ := And.intro h14.1.symm h14.2.symm
  change PP mX6_state 17 _ [Value.ref (ad (30, 0, i))] _ _
  refine pp_astore dX6_state_17 isRf_r (by decide) (ls1_4 (nl1 rfl)) (q := 19) rfl ?_
  refine pp_iload_n dX6_state_19 rfl (q := 20) rfl ?_
  refine pp_if_ne (tgt := 28) dX6_state_20 (by decide) (q := 23) rfl (fun c20 => absurd rfl c20) (fun c20 => ?_)
  refine pp_aload dX6_state_23 rfl isRf_r (q := 25) rfl ?_
  refine pp_ifnonnull_r (tgt := 34) dX6_state_25 (by decide) ?_
  refine pp_iload_n dX6_state_34 rfl (q := 35) rfl ?_
  rcases sw_cases what 0 11 (by decide) with ⟨v35, hv35a, hv35b, hv35⟩ | hv35
  · obtain rfl | rfl | rfl | rfl | rfl | rfl | rfl | rfl | rfl | rfl | rfl | rfl : v35 = 0 ∨ v35 = 1 ∨ v35 = 2 ∨ v35 = 3 ∨ v35 = 4 ∨ v35 = 5 ∨ v35 = 6 ∨ v35 = 7 ∨ v35 = 8 ∨ v35 = 9 ∨ v35 = 10 ∨ v35 = 11 := by omega
    · refine pp_tswK (v := 0) (tgt := 96) dX6_state_35 hv35 (by decide) (by decide) (by decide) rfl (by decide) ?_
      refine pp_aload dX6_state_96 rfl isRf_r (q := 98) rfl ?_
      refine ps_get dX6_state_98 fl_X6_111 (hA.m hi hd).1 rfl rfl (q := 101) rfl ?_
      refine ri_ret dX6_state_101 rfl rfl ?_
      refine QR.yes (x := sttV (A.1 i) 0) ?_ (by exact hM.sc sl2) rfl
      unfold qState
      rw [qM_ok hi hd, cl_nI (by omega : i < 2 ^ 31)]
      rw [hv35, cIf_t ⟨0, by omega, rfl⟩, cl_nI (by omega)]
    · refine pp_tswK (v := 1) (tgt := 102) dX6_state_35 hv35 (by decide) (by decide) (by decide) rfl (by decide) ?_
      refine pp_aload dX6_state_102 rfl isRf_r (q := 104) rfl ?_
      refine ps_get dX6_state_104 fl_X6_116 (hA.m hi hd).1 rfl rfl (q := 107) rfl ?_
      refine ri_ret dX6_state_107 rfl rfl ?_
      refine QR.yes (x := sttV (A.1 i) 1) ?_ (by exact hM.sc sl4) rfl
      unfold qState
      rw [qM_ok hi hd, cl_nI (by omega : i < 2 ^ 31)]
      rw [hv35, cIf_t ⟨1, by omega, rfl⟩, cl_nI (by omega)]
    · refine pp_tswK (v := 2) (tgt := 108) dX6_state_35 hv35 (by decide) (by decide) (by decide) rfl (by decide) ?_
      refine pp_aload dX6_state_108 rfl isRf_r (q := 110) rfl ?_
      refine ps_get dX6_state_110 fl_X6_119 (hA.m hi hd).1 rfl rfl (q := 113) rfl ?_
      refine ri_ret dX6_state_113 rfl rfl ?_
      refine QR.yes (x := sttV (A.1 i) 2) ?_ (by exact hM.sc sl5) rfl
      unfold qState
      rw [qM_ok hi hd, cl_nI (by omega : i < 2 ^ 31)]
      rw [hv35, cIf_t ⟨2, by omega, rfl⟩, cl_nI (by omega)]
    · refine pp_tswK (v := 3) (tgt := 114) dX6_state_35 hv35 (by decide) (by decide) (by decide) rfl (by decide) ?_
      refine pp_bipush dX6_state_114 cb_64 (q := 116) rfl ?_
      refine pp_aload dX6_state_116 rfl isRf_r (q := 118) rfl ?_
      refine pp_iconst dX6_state_118 ci_0 (q := 119) rfl ?_
      refine ps_callVi dX6_state_119 lk_X6_122 (by exact (hA.m hi hd).1) (by rfl) (by rfl) (by rfl) (c_countKind hM.1) (by rfl) (by exact Nat.le_of_ble_eq_true rfl) (by decide) (by decide) (by exact Nat.le_of_ble_eq_true rfl) (q := 122) rfl (fun r119 g119 h119 => ?_)
      obtain ⟨rfl, rfl⟩ := And.intro h119.1.symm h119.2.symm
      rw [hM.ar (k := 31) (by omega) (by omega)]
      refine pp_isub dX6_state_122 (q := 123) rfl ?_
      refine ri_ret dX6_state_123 rfl rfl ?_
      refine QR.yes (x := sttV (A.1 i) 3) ?_ (by rfl) rfl
      unfold qState
      rw [qM_ok hi hd, cl_nI (by omega : i < 2 ^ 31)]
      rw [hv35, cIf_t ⟨3, by omega, rfl⟩, cl_nI (by omega)]
    · refine pp_tswK (v := 4) (tgt := 124) dX6_state_35 hv35 (by decide) (by decide) (by decide) rfl (by decide) ?_
      refine pp_aload dX6_state_124 rfl isRf_r (q := 126) rfl ?_
      refine pp_iconst dX6_state_126 ci_1 (q := 127) rfl ?_
      refine ps_callVi dX6_state_127 lk_X6_122 (by exact (hA.m hi hd).1) (by rfl) (by rfl) (by rfl) (c_countKind hM.1) (by rfl) (by exact Nat.le_of_ble_eq_true rfl) (by decide) (by decide) (by exact Nat.le_of_ble_eq_true rfl) (q := 130) rfl (fun r127 g127 h127 => ?_)
      obtain ⟨rfl, rfl⟩ := And.intro h127.1.symm h127.2.symm
      rw [hM.ar (k := 31) (by omega) (by omega)]
      refine ri_ret dX6_state_130 rfl rfl ?_
      refine QR.yes (x := sttV (A.1 i) 4) ?_ (by rfl) rfl
      unfold qState
      rw [qM_ok hi hd, cl_nI (by omega : i < 2 ^ 31)]
      rw [hv35, cIf_t ⟨4, by omega, rfl⟩, cl_nI (by omega)]
    · refine pp_tswK (v := 5) (tgt := 131) dX6_state_35 hv35 (by decide) (by decide) (by decide) rfl (by decide) ?_
      refine pp_aload dX6_state_131 rfl isRf_r (q := 133) rfl ?_
      refine pp_iconst dX6_state_133 ci_2 (q := 134) rfl ?_
      refine ps_callVi dX6_state_134 lk_X6_122 (by exact (hA.m hi hd).1) (by rfl) (by rfl) (by rfl) (c_countKind hM.1) (by rfl) (by exact Nat.le_of_ble_eq_true rfl) (by decide) (by decide) (by exact Nat.le_of_ble_eq_true rfl) (q := 137) rfl (fun r134 g134 h134 => ?_)
      obtain ⟨rfl, rfl⟩ := And.intro h134.1.symm h134.2.symm
      rw [hM.ar (k := 31) (by omega) (by omega)]
      refine ri_ret dX6_state_137 rfl rfl ?_
      refine QR.yes (x := sttV (A.1 i) 5) ?_ (by rfl) rfl
      unfold qState
      rw [qM_ok hi hd, cl_nI (by omega : i < 2 ^ 31)]
      rw [hv35, cIf_t ⟨5, by omega, rfl⟩, cl_nI (by omega)]
    · refine pp_tswK (v := 6) (tgt := 138) dX6_state_35 hv35 (by decide) (by decide) (by decide) rfl (by decide) ?_
      refine pp_aload dX6_state_138 rfl isRf_r (q := 140) rfl ?_
      refine pp_iconst dX6_state_140 ci_3 (q := 141) rfl ?_
      refine ps_callVi dX6_state_141 lk_X6_122 (by exact (hA.m hi hd).1) (by rfl) (by rfl) (by rfl) (c_countKind hM.1) (by rfl) (by exact Nat.le_of_ble_eq_true rfl) (by decide) (by decide) (by exact Nat.le_of_ble_eq_true rfl) (q := 144) rfl (fun r141 g141 h141 => ?_)
      obtain ⟨rfl, rfl⟩ := And.intro h141.1.symm h141.2.symm
      rw [hM.ar (k := 31) (by omega) (by omega)]
      refine ri_ret dX6_state_144 rfl rfl ?_
      refine QR.yes (x := sttV (A.1 i) 6) ?_ (by rfl) rfl
      unfold qState
      rw [qM_ok hi hd, cl_nI (by omega : i < 2 ^ 31)]
      rw [hv35, cIf_t ⟨6, by omega, rfl⟩, cl_nI (by omega)]
    · refine pp_tswK (v := 7) (tgt := 145) dX6_state_35 hv35 (by decide) (by decide) (by decide) rfl (by decide) ?_
      refine pp_aload dX6_state_145 rfl isRf_r (q := 147) rfl ?_
      refine pp_iconst dX6_state_147 ci_4 (q := 148) rfl ?_
      refine ps_callVi dX6_state_148 lk_X6_122 (by exact (hA.m hi hd).1) (by rfl) (by rfl) (by rfl) (c_countKind hM.1) (by rfl) (by exact Nat.le_of_ble_eq_true rfl) (by decide) (by decide) (by exact Nat.le_of_ble_eq_true rfl) (q := 151) rfl (fun r148 g148 h148 => ?_)
      obtain ⟨rfl, rfl⟩ := And.intro h148.1.symm h148.2.symm
      rw [hM.ar (k := 31) (by omega) (by omega)]
      refine ri_ret dX6_state_151 rfl rfl ?_
      refine QR.yes (x := sttV (A.1 i) 7) ?_ (by rfl) rfl
      unfold qState
      rw [qM_ok hi hd, cl_nI (by omega : i < 2 ^ 31)]
      rw [hv35, cIf_t ⟨7, by omega, rfl⟩, cl_nI (by omega)]
    · refine pp_tswK (v := 8) (tgt := 152) dX6_state_35 hv35 (by decide) (by decide) (by decide) rfl (by decide) ?_
      refine pp_aload dX6_state_152 rfl isRf_r (q := 154) rfl ?_
      refine ps_get dX6_state_154 fl_X6_125 (hA.m hi hd).1 rfl rfl (q := 157) rfl ?_
      refine ri_ret dX6_state_157 rfl rfl ?_
      refine QR.yes (x := sttV (A.1 i) 8) ?_ (by exact hM.sc sl6) rfl
      unfold qState
      rw [qM_ok hi hd, cl_nI (by omega : i < 2 ^ 31)]
      rw [hv35, cIf_t ⟨8, by omega, rfl⟩, cl_nI (by omega)]
    · refine pp_tswK (v := 9) (tgt := 158) dX6_state_35 hv35 (by decide) (by decide) (by decide) rfl (by decide) ?_
      refine pp_aload dX6_state_158 rfl isRf_r (q := 160) rfl ?_
      refine ps_get dX6_state_160 fl_X6_128 (hA.m hi hd).1 rfl rfl (q := 163) rfl ?_
      refine ri_ret dX6_state_163 rfl rfl ?_
      refine QR.yes (x := sttV (A.1 i) 9) ?_ (by exact hM.sc sl7) rfl
      unfold qState
      rw [qM_ok hi hd, cl_nI (by omega : i < 2 ^ 31)]
      rw [hv35, cIf_t ⟨9, by omega, rfl⟩, cl_nI (by omega)]
    · refine pp_tswK (v := 10) (tgt := 164) dX6_state_35 hv35 (by decide) (by decide) (by decide) rfl (by decide) ?_
      refine pp_aload dX6_state_164 rfl isRf_r (q := 166) rfl ?_
      refine ps_get dX6_state_166 fl_X6_131 (hA.m hi hd).1 rfl rfl (q := 169) rfl ?_
      refine ri_ret dX6_state_169 rfl rfl ?_
      refine QR.yes (x := sttV (A.1 i) 10) ?_ (by exact hM.sc sl14) rfl
      unfold qState
      rw [qM_ok hi hd, cl_nI (by omega : i < 2 ^ 31)]
      rw [hv35, cIf_t ⟨10, by omega, rfl⟩, cl_nI (by omega)]
    · refine pp_tswK (v := 11) (tgt := 170) dX6_state_35 hv35 (by decide) (by decide) (by decide) rfl (by decide) ?_
      refine pp_aload dX6_state_170 rfl isRf_r (q := 172) rfl ?_
      refine ps_get dX6_state_172 fl_X6_134 (hA.m hi hd).1 rfl rfl (q := 175) rfl ?_
      refine ri_ret dX6_state_175 rfl rfl ?_
      refine QR.yes (x := sttV (A.1 i) 11) ?_ (by exact hM.sc sl15) rfl
      unfold qState
      rw [qM_ok hi hd, cl_nI (by omega : i < 2 ^ 31)]
      rw [hv35, cIf_t ⟨11, by omega, rfl⟩, cl_nI (by omega)]
  · refine pp_tswOut (tgt := 176) dX6_state_35 hv35 (by decide) ?_
    refine pp_aload_n dX6_state_176 rfl isRf_r (q := 177) rfl ?_
    refine pp_bipush dX6_state_177 cb_m9 (q := 179) rfl ?_
    refine ps_callVi dX6_state_179 lk_X6_86 (by exact hr) (by rfl) (by rfl) (by rfl) (c_rf9 (by exact hr)) (by rfl) (by exact Nat.le_of_ble_eq_true rfl) (by decide) (by decide) (by exact Nat.le_of_ble_eq_true rfl) (q := 182) rfl (fun r179 g179 h179 => ?_)
    obtain ⟨rfl, rfl⟩ := And.intro h179.1.symm h179.2.symm
    refine ri_ret dX6_state_182 rfl rfl ?_
    exact QR.no (k := 9) (by unfold qState; rw [qM_ok hi hd, cl_nI (by omega : i < 2 ^ 31)]; exact cIf_f (inR_out (by omega) hv35)) ⟨⟨by omega, by omega⟩, by omega⟩ rfl rfl
theorem c_state {ad : Nm → Nat} {g : Sg} {A : AW} {m what : Int32} (hr : al g (0, 0, 0)) (hA : RW g 0 A)  : PS mX6_state 0 (ent mX6_state [.ref (ad (0, 0, 0)), .int m, .int what]) [] ad g (Ri (fun v g' => QR g (qState A m what) v g')) := by
  rcases whM (A := A) m with ⟨i, hi, rfl, hd⟩ | ⟨k, hk, hq, hwhy⟩
  · exact c_state_ok hr hA hi hd 
  · refine (c_state_no hr hA hk (hwhy hA)).weak (fun v G hG => ?_)
    obtain ⟨g', h1, r, h2, h3, h4⟩ := hG
    exact ⟨g', h1, r, h2, QR.no (hq _) hk h3 h4⟩
set_option maxRecDepth 20000 in
set_option maxHeartbeats 4000000 in
theorem c_news_no {ad : Nm → Nat} {g : Sg} {A : AW} {k : Nat} {m x what : Int32} (hr : al g (0, 0, 0)) (hA : RW g 0 A) (hk : isW k ∧ k ≠ 7) (hwhy : PS mX5_whyNoNews 0 (ent mX5_whyNoNews [.ref (ad (10, 0, 0)), .int m, .int x]) [] ad g (Ri (fun v g' => v = - nI k ∧ g' = g))) : PS mX6_news 0 (ent mX6_news [.ref (ad (0, 0, 0)), .int m, .int x, .int what]) [] ad g (Ri (fun v g' => v = - nI k ∧ g' = keG g k (- nI k))) := by
  have hW := hA.1
  show PP mX6_news 0 [some (.ref (ad (0, 0, 0))), some (.int m), some (.int x), some (.int what), none, none] [] (Rel ad g) _
  refine pp_aload_n dX6_news_0 rfl isRf_r (q := 1) rfl ?_
  refine ps_get dX6_news_1 fl_X6_10 hr rfl rfl (q := 4) rfl ?_
  refine pp_iload_n dX6_news_4 rfl (q := 5) rfl ?_
  refine pp_iload_n dX6_news_5 rfl (q := 6) rfl ?_
  refine ps_callVi dX6_news_6 lk_X6_137 (by exact hW) (by rfl) (by rfl) (by rfl) hwhy (by rfl) (by exact Nat.le_of_ble_eq_true rfl) (by decide) (by decide) (by exact Nat.le_of_ble_eq_true rfl) (q := 9) rfl (fun r6 g6 h6 => ?_)
  obtain ⟨rfl, rfl⟩ := And.intro h6.1.symm h6.2.symm
  refine pp_istore dX6_news_9 (by decide) (ls1_4 (nl1 rfl)) (q := 11) rfl ?_
  refine pp_aload_n dX6_news_11 rfl isRf_r (q := 12) rfl ?_
  refine ps_get dX6_news_12 fl_X6_10 hr rfl rfl (q := 15) rfl ?_
  refine pp_iload_n dX6_news_15 rfl (q := 16) rfl ?_
  refine ps_callVr dX6_news_16 lk_X6_107 (by exact hW) (by rfl) (by rfl) (by rfl) (c_memY hA) (by rfl) (by exact Nat.le_of_ble_eq_true rfl) (by decide) (by decide) (by exact Nat.le_of_ble_eq_true rfl) (q := 19) rfl (fun r16 g16 h16 => ?_)
  subst h16
  refine pp_astore dX6_news_19 (by first | exact isRf_r | exact isRf_va | exact isRf_n) (by decide) (ls1_5 (nl1 rfl)) (q := 21) rfl ?_
  refine pp_iload dX6_news_21 rfl (q := 23) rfl ?_
  refine pp_if_ne (tgt := 31) dX6_news_23 (by decide) (q := 26) rfl (fun c23 => ?_) (fun c23 => absurd c23 (ngk_ne hk.1))
  refine pp_aload_n dX6_news_31 rfl isRf_r (q := 32) rfl ?_
  refine pp_iload dX6_news_32 rfl (q := 34) rfl ?_
  refine ps_callVi dX6_news_34 lk_X6_86 (by exact hr) (by rfl) (by rfl) (by rfl) (c_refused (by exact hr) hk.1) (by rfl) (by exact Nat.le_of_ble_eq_true rfl) (by decide) (by decide) (by exact Nat.le_of_ble_eq_true rfl) (q := 37) rfl (fun r34 g34 h34 => ?_)
  obtain ⟨rfl, rfl⟩ := And.intro h34.1.symm h34.2.symm
  refine ri_ret dX6_news_37 rfl rfl ?_
  exact ⟨rfl, rfl⟩
set_option maxRecDepth 20000 in
set_option maxHeartbeats 4000000 in
theorem c_news_ok {ad : Nm → Nat} {g : Sg} {A : AW} {i x : Nat} {what : Int32} (hr : al g (0, 0, 0)) (hA : RW g 0 A) (hi : i < 64) (hx : x < 64) (hd : mdA A i) (hk : ¬ (A.1 i).2.2 31 x = 0)  : PS mX6_news 0 (ent mX6_news [.ref (ad (0, 0, 0)), .int (nI i), .int (nI x), .int what]) [] ad g (Ri (fun v g' => QR g (qNews A (nI i) (nI x) what) v g')) := by
  have hW := hA.1
  have hM := hA.m hi hd
  show PP mX6_news 0 [some (.ref (ad (0, 0, 0))), some (.int (nI i)), some (.int (nI x)), some (.int what), none, none] [] (Rel ad g) _
  refine pp_aload_n dX6_news_0 rfl isRf_r (q := 1) rfl ?_
  refine ps_get dX6_news_1 fl_X6_10 hr rfl rfl (q := 4) rfl ?_
  refine pp_iload_n dX6_news_4 rfl (q := 5) rfl ?_
  refine pp_iload_n dX6_news_5 rfl (q := 6) rfl ?_
  refine ps_callVi dX6_news_6 lk_X6_137 (by exact hW) (by rfl) (by rfl) (by rfl) (c_whyN0 hA hi hx hd hk) (by rfl) (by exact Nat.le_of_ble_eq_true rfl) (by decide) (by decide) (by exact Nat.le_of_ble_eq_true rfl) (q := 9) rfl (fun r6 g6 h6 => ?_)
  obtain ⟨rfl, rfl⟩ := And.intro h6.1.symm h6.2.symm
  refine pp_istore dX6_news_9 (by decide) (ls1_4 (nl1 rfl)) (q := 11) rfl ?_
  refine pp_aload_n dX6_news_11 rfl isRf_r (q := 12) rfl ?_
  refine ps_get dX6_news_12 fl_X6_10 hr rfl rfl (q := 15) rfl ?_
  refine pp_iload_n dX6_news_15 rfl (q := 16) rfl ?_
  refine ps_callVr dX6_news_16 lk_X6_107 (by exact hW) (by rfl) (by rfl) (by rfl) (c_memAt hA hi hd) (by rfl) (by exact Nat.le_of_ble_eq_true rfl) (by decide) (by decide) (by exact Nat.le_of_ble_eq_true rfl) (q := 19) rfl (fun r16 g16 h16 => ?_)
  obtain ⟨rfl, rfl⟩ := And.intro h16.1.symm h16.2.symm
  change PP mX6_news 19 _ [Value.ref (ad (30, 0, i))] _ _
  refine pp_astore dX6_news_19 isRf_r (by decide) (ls1_5 (nl1 rfl)) (q := 21) rfl ?_
  refine pp_iload dX6_news_21 rfl (q := 23) rfl ?_
  refine pp_if_ne (tgt := 31) dX6_news_23 (by decide) (q := 26) rfl (fun c23 => absurd rfl c23) (fun c23 => ?_)
  refine pp_aload dX6_news_26 rfl isRf_r (q := 28) rfl ?_
  refine pp_ifnonnull_r (tgt := 38) dX6_news_28 (by decide) ?_
  refine pp_iload_n dX6_news_38 rfl (q := 39) rfl ?_
  rcases sw_cases what 0 4 (by decide) with ⟨v39, hv39a, hv39b, hv39⟩ | hv39
  · obtain rfl | rfl | rfl | rfl | rfl : v39 = 0 ∨ v39 = 1 ∨ v39 = 2 ∨ v39 = 3 ∨ v39 = 4 := by omega
    · refine pp_tswK (v := 0) (tgt := 72) dX6_news_39 hv39 (by decide) (by decide) (by decide) rfl (by decide) ?_
      refine pp_aload dX6_news_72 rfl isRf_r (q := 74) rfl ?_
      refine ps_get dX6_news_74 fl_X6_140 (hA.m hi hd).1 rfl rfl (q := 77) rfl ?_
      refine pp_iload_n dX6_news_77 rfl (q := 78) rfl ?_
      refine ps_iald (j := x) dX6_news_78 (hA.m hi hd).1 rfl rfl hx (by decide) (q := 79) rfl ?_
      refine ri_ret dX6_news_79 rfl rfl ?_
      refine QR.yes (x := (A.1 i).2.2 (31 + 0) x) ?_ (by rw [hM.ar (k := 31) (by omega) (by omega)]) rfl
      unfold qNews
      rw [qN_ok hi hx hd hk, cl_nI (by omega : i < 2 ^ 31), cl_nI (by omega : x < 2 ^ 31)]
      rw [hv39, cIf_t ⟨0, by omega, rfl⟩, cl_nI (by omega)]
    · refine pp_tswK (v := 1) (tgt := 80) dX6_news_39 hv39 (by decide) (by decide) (by decide) rfl (by decide) ?_
      refine pp_aload dX6_news_80 rfl isRf_r (q := 82) rfl ?_
      refine ps_get dX6_news_82 fl_X6_143 (hA.m hi hd).1 rfl rfl (q := 85) rfl ?_
      refine pp_iload_n dX6_news_85 rfl (q := 86) rfl ?_
      refine ps_iald (j := x) dX6_news_86 (hA.m hi hd).1 rfl rfl hx (by decide) (q := 87) rfl ?_
      refine ri_ret dX6_news_87 rfl rfl ?_
      refine QR.yes (x := (A.1 i).2.2 (31 + 1) x) ?_ (by rw [hM.ar (k := 32) (by omega) (by omega)]) rfl
      unfold qNews
      rw [qN_ok hi hx hd hk, cl_nI (by omega : i < 2 ^ 31), cl_nI (by omega : x < 2 ^ 31)]
      rw [hv39, cIf_t ⟨1, by omega, rfl⟩, cl_nI (by omega)]
    · refine pp_tswK (v := 2) (tgt := 88) dX6_news_39 hv39 (by decide) (by decide) (by decide) rfl (by decide) ?_
      refine pp_aload dX6_news_88 rfl isRf_r (q := 90) rfl ?_
      refine ps_get dX6_news_90 fl_X6_146 (hA.m hi hd).1 rfl rfl (q := 93) rfl ?_
      refine pp_iload_n dX6_news_93 rfl (q := 94) rfl ?_
      refine ps_iald (j := x) dX6_news_94 (hA.m hi hd).1 rfl rfl hx (by decide) (q := 95) rfl ?_
      refine ri_ret dX6_news_95 rfl rfl ?_
      refine QR.yes (x := (A.1 i).2.2 (31 + 2) x) ?_ (by rw [hM.ar (k := 33) (by omega) (by omega)]) rfl
      unfold qNews
      rw [qN_ok hi hx hd hk, cl_nI (by omega : i < 2 ^ 31), cl_nI (by omega : x < 2 ^ 31)]
      rw [hv39, cIf_t ⟨2, by omega, rfl⟩, cl_nI (by omega)]
    · refine pp_tswK (v := 3) (tgt := 96) dX6_news_39 hv39 (by decide) (by decide) (by decide) rfl (by decide) ?_
      refine pp_aload dX6_news_96 rfl isRf_r (q := 98) rfl ?_
      refine ps_get dX6_news_98 fl_X6_149 (hA.m hi hd).1 rfl rfl (q := 101) rfl ?_
      refine pp_iload_n dX6_news_101 rfl (q := 102) rfl ?_
      refine ps_iald (j := x) dX6_news_102 (hA.m hi hd).1 rfl rfl hx (by decide) (q := 103) rfl ?_
      refine ri_ret dX6_news_103 rfl rfl ?_
      refine QR.yes (x := (A.1 i).2.2 (31 + 3) x) ?_ (by rw [hM.ar (k := 34) (by omega) (by omega)]) rfl
      unfold qNews
      rw [qN_ok hi hx hd hk, cl_nI (by omega : i < 2 ^ 31), cl_nI (by omega : x < 2 ^ 31)]
      rw [hv39, cIf_t ⟨3, by omega, rfl⟩, cl_nI (by omega)]
    · refine pp_tswK (v := 4) (tgt := 104) dX6_news_39 hv39 (by decide) (by decide) (by decide) rfl (by decide) ?_
      refine pp_aload dX6_news_104 rfl isRf_r (q := 106) rfl ?_
      refine ps_get dX6_news_106 fl_X6_152 (hA.m hi hd).1 rfl rfl (q := 109) rfl ?_
      refine pp_iload_n dX6_news_109 rfl (q := 110) rfl ?_
      refine ps_iald (j := x) dX6_news_110 (hA.m hi hd).1 rfl rfl hx (by decide) (q := 111) rfl ?_
      refine ri_ret dX6_news_111 rfl rfl ?_
      refine QR.yes (x := (A.1 i).2.2 (31 + 4) x) ?_ (by rw [hM.ar (k := 35) (by omega) (by omega)]) rfl
      unfold qNews
      rw [qN_ok hi hx hd hk, cl_nI (by omega : i < 2 ^ 31), cl_nI (by omega : x < 2 ^ 31)]
      rw [hv39, cIf_t ⟨4, by omega, rfl⟩, cl_nI (by omega)]
  · refine pp_tswOut (tgt := 112) dX6_news_39 hv39 (by decide) ?_
    refine pp_aload_n dX6_news_112 rfl isRf_r (q := 113) rfl ?_
    refine pp_bipush dX6_news_113 cb_m9 (q := 115) rfl ?_
    refine ps_callVi dX6_news_115 lk_X6_86 (by exact hr) (by rfl) (by rfl) (by rfl) (c_rf9 (by exact hr)) (by rfl) (by exact Nat.le_of_ble_eq_true rfl) (by decide) (by decide) (by exact Nat.le_of_ble_eq_true rfl) (q := 118) rfl (fun r115 g115 h115 => ?_)
    obtain ⟨rfl, rfl⟩ := And.intro h115.1.symm h115.2.symm
    refine ri_ret dX6_news_118 rfl rfl ?_
    exact QR.no (k := 9) (by unfold qNews; rw [qN_ok hi hx hd hk, cl_nI (by omega : i < 2 ^ 31), cl_nI (by omega : x < 2 ^ 31)]; exact cIf_f (inR_out (by omega) hv39)) ⟨⟨by omega, by omega⟩, by omega⟩ rfl rfl
theorem c_news {ad : Nm → Nat} {g : Sg} {A : AW} {m x what : Int32} (hr : al g (0, 0, 0)) (hA : RW g 0 A)  : PS mX6_news 0 (ent mX6_news [.ref (ad (0, 0, 0)), .int m, .int x, .int what]) [] ad g (Ri (fun v g' => QR g (qNews A m x what) v g')) := by
  rcases whN (A := A) m x with ⟨i, j, hi, hj, rfl, rfl, hd, hk⟩ | ⟨k, hk, hq, hwhy⟩
  · exact c_news_ok hr hA hi hj hd hk 
  · refine (c_news_no hr hA hk (hwhy hA)).weak (fun v G hG => ?_)
    obtain ⟨g', h1, r, h2, h3, h4⟩ := hG
    exact ⟨g', h1, r, h2, QR.no (hq _) hk h3 h4⟩
theorem lt1_0 {x : Int32} (h : x < nI 1) (h0 : ¬ x < 0) : x = 0 := by
  rw [Int32.lt_iff_toInt_lt] at h h0
  apply Int32.toInt_inj.mp
  have e1 : (nI 1).toInt = 1 := by decide
  have e0 : (0 : Int32).toInt = 0 := by decide
  rw [e1] at h
  rw [e0] at h0 ⊢
  omega
theorem ge1 {x : Int32} (h : ¬ x < nI 1) : ¬ x < 0 ∧ ¬ x = 0 := by
  rw [Int32.lt_iff_toInt_lt] at h
  have e1 : (nI 1).toInt = 1 := by decide
  have e0 : (0 : Int32).toInt = 0 := by decide
  rw [e1] at h
  refine ⟨fun q => ?_, fun q => ?_⟩
  · rw [Int32.lt_iff_toInt_lt, e0] at q; omega
  · subst q; omega
set_option maxRecDepth 20000 in
set_option maxHeartbeats 4000000 in
theorem c_as_no {ad : Nm → Nat} {g : Sg} {A : AW} {k : Nat} {m x kind : Int32} (hr : al g (0, 0, 0)) (hA : RW g 0 A) (hk : isW k ∧ k ≠ 7) (hwhy : PS mX5_whyNoNews 0 (ent mX5_whyNoNews [.ref (ad (10, 0, 0)), .int m, .int x]) [] ad g (Ri (fun v g' => v = - nI k ∧ g' = g))) : PS mX6_as 0 (ent mX6_as [.ref (ad (0, 0, 0)), .int m, .int x, .int kind]) [] ad g (Ri (fun v g' => v = - nI k ∧ g' = keG g k (- nI k))) := by
  have hW := hA.1
  show PP mX6_as 0 [some (.ref (ad (0, 0, 0))), some (.int m), some (.int x), some (.int kind), none, none] [] (Rel ad g) _
  refine pp_aload_n dX6_as_0 rfl isRf_r (q := 1) rfl ?_
  refine ps_get dX6_as_1 fl_X6_10 hr rfl rfl (q := 4) rfl ?_
  refine pp_iload_n dX6_as_4 rfl (q := 5) rfl ?_
  refine pp_iload_n dX6_as_5 rfl (q := 6) rfl ?_
  refine ps_callVi dX6_as_6 lk_X6_137 (by exact hW) (by rfl) (by rfl) (by rfl) hwhy (by rfl) (by exact Nat.le_of_ble_eq_true rfl) (by decide) (by decide) (by exact Nat.le_of_ble_eq_true rfl) (q := 9) rfl (fun r6 g6 h6 => ?_)
  obtain ⟨rfl, rfl⟩ := And.intro h6.1.symm h6.2.symm
  refine pp_istore dX6_as_9 (by decide) (ls1_4 (nl1 rfl)) (q := 11) rfl ?_
  refine pp_aload_n dX6_as_11 rfl isRf_r (q := 12) rfl ?_
  refine ps_get dX6_as_12 fl_X6_10 hr rfl rfl (q := 15) rfl ?_
  refine pp_iload_n dX6_as_15 rfl (q := 16) rfl ?_
  refine ps_callVr dX6_as_16 lk_X6_107 (by exact hW) (by rfl) (by rfl) (by rfl) (c_memY hA) (by rfl) (by exact Nat.le_of_ble_eq_true rfl) (by decide) (by decide) (by exact Nat.le_of_ble_eq_true rfl) (q := 19) rfl (fun r16 g16 h16 => ?_)
  subst h16
  refine pp_astore dX6_as_19 (by first | exact isRf_r | exact isRf_va | exact isRf_n) (by decide) (ls1_5 (nl1 rfl)) (q := 21) rfl ?_
  refine pp_iload dX6_as_21 rfl (q := 23) rfl ?_
  refine pp_if_ne (tgt := 31) dX6_as_23 (by decide) (q := 26) rfl (fun c23 => ?_) (fun c23 => absurd c23 (ngk_ne hk.1))
  refine pp_aload_n dX6_as_31 rfl isRf_r (q := 32) rfl ?_
  refine pp_iload dX6_as_32 rfl (q := 34) rfl ?_
  refine ps_callVi dX6_as_34 lk_X6_86 (by exact hr) (by rfl) (by rfl) (by rfl) (c_refused (by exact hr) hk.1) (by rfl) (by exact Nat.le_of_ble_eq_true rfl) (by decide) (by decide) (by exact Nat.le_of_ble_eq_true rfl) (q := 37) rfl (fun r34 g34 h34 => ?_)
  obtain ⟨rfl, rfl⟩ := And.intro h34.1.symm h34.2.symm
  refine ri_ret dX6_as_37 rfl rfl ?_
  exact ⟨rfl, rfl⟩
set_option maxRecDepth 20000 in
set_option maxHeartbeats 4000000 in
theorem c_as_ok {ad : Nm → Nat} {g : Sg} {A : AW} {i x : Nat} {kind : Int32} (hr : al g (0, 0, 0)) (hA : RW g 0 A) (hi : i < 64) (hx : x < 64) (hd : mdA A i) (hk : ¬ (A.1 i).2.2 31 x = 0)  : PS mX6_as 0 (ent mX6_as [.ref (ad (0, 0, 0)), .int (nI i), .int (nI x), .int kind]) [] ad g (Ri (fun v g' => QR g (qAs A (nI i) (nI x) kind) v g')) := by
  have hW := hA.1
  have hM := hA.m hi hd
  show PP mX6_as 0 [some (.ref (ad (0, 0, 0))), some (.int (nI i)), some (.int (nI x)), some (.int kind), none, none] [] (Rel ad g) _
  refine pp_aload_n dX6_as_0 rfl isRf_r (q := 1) rfl ?_
  refine ps_get dX6_as_1 fl_X6_10 hr rfl rfl (q := 4) rfl ?_
  refine pp_iload_n dX6_as_4 rfl (q := 5) rfl ?_
  refine pp_iload_n dX6_as_5 rfl (q := 6) rfl ?_
  refine ps_callVi dX6_as_6 lk_X6_137 (by exact hW) (by rfl) (by rfl) (by rfl) (c_whyN0 hA hi hx hd hk) (by rfl) (by exact Nat.le_of_ble_eq_true rfl) (by decide) (by decide) (by exact Nat.le_of_ble_eq_true rfl) (q := 9) rfl (fun r6 g6 h6 => ?_)
  obtain ⟨rfl, rfl⟩ := And.intro h6.1.symm h6.2.symm
  refine pp_istore dX6_as_9 (by decide) (ls1_4 (nl1 rfl)) (q := 11) rfl ?_
  refine pp_aload_n dX6_as_11 rfl isRf_r (q := 12) rfl ?_
  refine ps_get dX6_as_12 fl_X6_10 hr rfl rfl (q := 15) rfl ?_
  refine pp_iload_n dX6_as_15 rfl (q := 16) rfl ?_
  refine ps_callVr dX6_as_16 lk_X6_107 (by exact hW) (by rfl) (by rfl) (by rfl) (c_memAt hA hi hd) (by rfl) (by exact Nat.le_of_ble_eq_true rfl) (by decide) (by decide) (by exact Nat.le_of_ble_eq_true rfl) (q := 19) rfl (fun r16 g16 h16 => ?_)
  obtain ⟨rfl, rfl⟩ := And.intro h16.1.symm h16.2.symm
  change PP mX6_as 19 _ [Value.ref (ad (30, 0, i))] _ _
  refine pp_astore dX6_as_19 isRf_r (by decide) (ls1_5 (nl1 rfl)) (q := 21) rfl ?_
  refine pp_iload dX6_as_21 rfl (q := 23) rfl ?_
  refine pp_if_ne (tgt := 31) dX6_as_23 (by decide) (q := 26) rfl (fun c23 => absurd rfl c23) (fun c23 => ?_)
  refine pp_aload dX6_as_26 rfl isRf_r (q := 28) rfl ?_
  refine pp_ifnonnull_r (tgt := 38) dX6_as_28 (by decide) ?_
  refine pp_iload_n dX6_as_38 rfl (q := 39) rfl ?_
  refine pp_iconst dX6_as_39 ci_1 (q := 40) rfl ?_
  refine pp_icmp_lt (tgt := 48) dX6_as_40 (by decide) (q := 43) rfl (fun c40 => ?_) (fun c40 => ?_)
  · have ho : ¬ (inR kind 5 ∧ ¬ kind = 0) := fun q => (by
      by_cases h0 : kind < 0
      · exact inR_no (n := 5) (by omega) (Or.inl h0) q.1
      · exact q.2 (lt1_0 c40 h0))
    refine pp_aload_n dX6_as_48 rfl isRf_r (q := 49) rfl ?_
    refine pp_bipush dX6_as_49 cb_m9 (q := 51) rfl ?_
    refine ps_callVi dX6_as_51 lk_X6_86 (by exact hr) (by rfl) (by rfl) (by rfl) (c_rf9 (by exact hr)) (by rfl) (by exact Nat.le_of_ble_eq_true rfl) (by decide) (by decide) (by exact Nat.le_of_ble_eq_true rfl) (q := 54) rfl (fun r51 g51 h51 => ?_)
    obtain ⟨rfl, rfl⟩ := And.intro h51.1.symm h51.2.symm
    refine ri_ret dX6_as_54 rfl rfl ?_
    exact QR.no (k := 9) (by unfold qAs; rw [qN_ok hi hx hd hk, cl_nI (by omega : i < 2 ^ 31), cl_nI (by omega : x < 2 ^ 31)]; exact cIf_f ho) ⟨⟨by omega, by omega⟩, by omega⟩ rfl rfl
  · obtain ⟨g0, g1⟩ := ge1 c40
    refine pp_iload_n dX6_as_43 rfl (q := 44) rfl ?_
    refine pp_iconst dX6_as_44 ci_4 (q := 45) rfl ?_
    refine pp_icmp_le (tgt := 55) dX6_as_45 (by decide) (q := 48) rfl (fun c45 => ?_) (fun c45 => ?_)
    · have hy : inR kind 5 ∧ ¬ kind = 0 := ⟨inR_yes (n := 5) (by omega) g0 (lt_of_le (by omega) c45), g1⟩
      refine pp_aload dX6_as_55 rfl isRf_r (q := 57) rfl ?_
      refine ps_get dX6_as_57 fl_X6_140 (hA.m hi hd).1 rfl rfl (q := 60) rfl ?_
      refine pp_iload_n dX6_as_60 rfl (q := 61) rfl ?_
      refine ps_iald (j := x) dX6_as_61 (hA.m hi hd).1 rfl rfl hx (by decide) (q := 62) rfl ?_
      rw [hM.ar (k := 31) (by omega) (by omega)]
      refine pp_iload_n dX6_as_62 rfl (q := 63) rfl ?_
      refine pp_icmp_ge (tgt := 73) dX6_as_63 (by decide) (q := 66) rfl (fun c63 => ?_) (fun c63 => ?_)
      · refine pp_aload dX6_as_73 rfl isRf_r (q := 75) rfl ?_
        refine ps_get dX6_as_75 fl_X6_143 (hA.m hi hd).1 rfl rfl (q := 78) rfl ?_
        refine pp_iload_n dX6_as_78 rfl (q := 79) rfl ?_
        refine ps_iald (j := x) dX6_as_79 (hA.m hi hd).1 rfl rfl hx (by decide) (q := 80) rfl ?_
        refine ri_ret dX6_as_80 rfl rfl ?_
        refine QR.yes (x := (A.1 i).2.2 32 x) ?_ (by rw [hM.ar (k := 32) (by omega) (by omega)]) rfl
        unfold qAs
        rw [qN_ok hi hx hd hk, cl_nI (by omega : i < 2 ^ 31), cl_nI (by omega : x < 2 ^ 31)]
        rw [cIf_t hy]
        exact cIf_f (Int32.not_lt.mpr c63)
      · refine pp_aload_n dX6_as_66 rfl isRf_r (q := 67) rfl ?_
        refine pp_bipush dX6_as_67 cb_m5 (q := 69) rfl ?_
        refine ps_callVi dX6_as_69 lk_X6_86 (by exact hr) (by rfl) (by rfl) (by rfl) (c_rf5 (by exact hr)) (by rfl) (by exact Nat.le_of_ble_eq_true rfl) (by decide) (by decide) (by exact Nat.le_of_ble_eq_true rfl) (q := 72) rfl (fun r69 g69 h69 => ?_)
        obtain ⟨rfl, rfl⟩ := And.intro h69.1.symm h69.2.symm
        refine ri_ret dX6_as_72 rfl rfl ?_
        exact QR.no (k := 5) (by unfold qAs; rw [qN_ok hi hx hd hk, cl_nI (by omega : i < 2 ^ 31), cl_nI (by omega : x < 2 ^ 31)]; rw [cIf_t hy]; exact cIf_t (Int32.not_le.mp c63)) ⟨⟨by omega, by omega⟩, by omega⟩ rfl rfl
    · have ho : ¬ (inR kind 5 ∧ ¬ kind = 0) := fun q => inR_no (by omega) (Or.inr (not_le_n (by omega) c45)) q.1
      refine pp_aload_n dX6_as_48 rfl isRf_r (q := 49) rfl ?_
      refine pp_bipush dX6_as_49 cb_m9 (q := 51) rfl ?_
      refine ps_callVi dX6_as_51 lk_X6_86 (by exact hr) (by rfl) (by rfl) (by rfl) (c_rf9 (by exact hr)) (by rfl) (by exact Nat.le_of_ble_eq_true rfl) (by decide) (by decide) (by exact Nat.le_of_ble_eq_true rfl) (q := 54) rfl (fun r51 g51 h51 => ?_)
      obtain ⟨rfl, rfl⟩ := And.intro h51.1.symm h51.2.symm
      refine ri_ret dX6_as_54 rfl rfl ?_
      exact QR.no (k := 9) (by unfold qAs; rw [qN_ok hi hx hd hk, cl_nI (by omega : i < 2 ^ 31), cl_nI (by omega : x < 2 ^ 31)]; exact cIf_f ho) ⟨⟨by omega, by omega⟩, by omega⟩ rfl rfl
theorem c_as {ad : Nm → Nat} {g : Sg} {A : AW} {m x kind : Int32} (hr : al g (0, 0, 0)) (hA : RW g 0 A)  : PS mX6_as 0 (ent mX6_as [.ref (ad (0, 0, 0)), .int m, .int x, .int kind]) [] ad g (Ri (fun v g' => QR g (qAs A m x kind) v g')) := by
  rcases whN (A := A) m x with ⟨i, j, hi, hj, rfl, rfl, hd, hk⟩ | ⟨k, hk, hq, hwhy⟩
  · exact c_as_ok hr hA hi hj hd hk 
  · refine (c_as_no hr hA hk (hwhy hA)).weak (fun v G hG => ?_)
    obtain ⟨g', h1, r, h2, h3, h4⟩ := hG
    exact ⟨g', h1, r, h2, QR.no (hq _) hk h3 h4⟩
set_option maxRecDepth 20000 in
set_option maxHeartbeats 4000000 in
theorem c_round_no {ad : Nm → Nat} {g : Sg} {A : AW} {k : Nat} {m z : Int32} (hr : al g (0, 0, 0)) (hA : RW g 0 A) (hk : isW k ∧ k ≠ 7) (hwhy : PS mX5_whyNoMember 0 (ent mX5_whyNoMember [.ref (ad (10, 0, 0)), .int m]) [] ad g (Ri (fun v g' => v = - nI k ∧ g' = g))) : PS mX6_round 0 (ent mX6_round [.ref (ad (0, 0, 0)), .int m, .int z]) [] ad g (Ri (fun v g' => v = - nI k ∧ g' = keG g k (- nI k))) := by
  have hW := hA.1
  show PP mX6_round 0 [some (.ref (ad (0, 0, 0))), some (.int m), some (.int z), none, none] [] (Rel ad g) _
  refine pp_aload_n dX6_round_0 rfl isRf_r (q := 1) rfl ?_
  refine ps_get dX6_round_1 fl_X6_10 hr rfl rfl (q := 4) rfl ?_
  refine pp_iload_n dX6_round_4 rfl (q := 5) rfl ?_
  refine ps_callVi dX6_round_5 lk_X6_104 (by exact hW) (by rfl) (by rfl) (by rfl) hwhy (by rfl) (by exact Nat.le_of_ble_eq_true rfl) (by decide) (by decide) (by exact Nat.le_of_ble_eq_true rfl) (q := 8) rfl (fun r5 g5 h5 => ?_)
  obtain ⟨rfl, rfl⟩ := And.intro h5.1.symm h5.2.symm
  refine pp_istore_n dX6_round_8 (by decide) (ls1_3 (nl1 rfl)) (q := 9) rfl ?_
  refine pp_aload_n dX6_round_9 rfl isRf_r (q := 10) rfl ?_
  refine ps_get dX6_round_10 fl_X6_10 hr rfl rfl (q := 13) rfl ?_
  refine pp_iload_n dX6_round_13 rfl (q := 14) rfl ?_
  refine ps_callVr dX6_round_14 lk_X6_107 (by exact hW) (by rfl) (by rfl) (by rfl) (c_memY hA) (by rfl) (by exact Nat.le_of_ble_eq_true rfl) (by decide) (by decide) (by exact Nat.le_of_ble_eq_true rfl) (q := 17) rfl (fun r14 g14 h14 => ?_)
  subst h14
  refine pp_astore dX6_round_17 (by first | exact isRf_r | exact isRf_va | exact isRf_n) (by decide) (ls1_4 (nl1 rfl)) (q := 19) rfl ?_
  refine pp_iload_n dX6_round_19 rfl (q := 20) rfl ?_
  refine pp_if_ne (tgt := 28) dX6_round_20 (by decide) (q := 23) rfl (fun c20 => ?_) (fun c20 => absurd c20 (ngk_ne hk.1))
  refine pp_aload_n dX6_round_28 rfl isRf_r (q := 29) rfl ?_
  refine pp_iload_n dX6_round_29 rfl (q := 30) rfl ?_
  refine ps_callVi dX6_round_30 lk_X6_86 (by exact hr) (by rfl) (by rfl) (by rfl) (c_refused (by exact hr) hk.1) (by rfl) (by exact Nat.le_of_ble_eq_true rfl) (by decide) (by decide) (by exact Nat.le_of_ble_eq_true rfl) (q := 33) rfl (fun r30 g30 h30 => ?_)
  obtain ⟨rfl, rfl⟩ := And.intro h30.1.symm h30.2.symm
  refine ri_ret dX6_round_33 rfl rfl ?_
  exact ⟨rfl, rfl⟩
set_option maxRecDepth 20000 in
set_option maxHeartbeats 4000000 in
theorem c_round_ok {ad : Nm → Nat} {g : Sg} {A : AW} {i : Nat} {z : Int32} (hr : al g (0, 0, 0)) (hA : RW g 0 A) (hi : i < 64) (hd : mdA A i)  : PS mX6_round 0 (ent mX6_round [.ref (ad (0, 0, 0)), .int (nI i), .int z]) [] ad g (Ri (fun v g' => QR g (qRound A (nI i) z) v g')) := by
  have hW := hA.1
  have hM := hA.m hi hd
  obtain ⟨n, hn1, hn2, hn3⟩ := hM.2.2.2.2.1
  show PP mX6_round 0 [some (.ref (ad (0, 0, 0))), some (.int (nI i)), some (.int z), none, none] [] (Rel ad g) _
  refine pp_aload_n dX6_round_0 rfl isRf_r (q := 1) rfl ?_
  refine ps_get dX6_round_1 fl_X6_10 hr rfl rfl (q := 4) rfl ?_
  refine pp_iload_n dX6_round_4 rfl (q := 5) rfl ?_
  refine ps_callVi dX6_round_5 lk_X6_104 (by exact hW) (by rfl) (by rfl) (by rfl) (c_whyM hA hi hd) (by rfl) (by exact Nat.le_of_ble_eq_true rfl) (by decide) (by decide) (by exact Nat.le_of_ble_eq_true rfl) (q := 8) rfl (fun r5 g5 h5 => ?_)
  obtain ⟨rfl, rfl⟩ := And.intro h5.1.symm h5.2.symm
  refine pp_istore_n dX6_round_8 (by decide) (ls1_3 (nl1 rfl)) (q := 9) rfl ?_
  refine pp_aload_n dX6_round_9 rfl isRf_r (q := 10) rfl ?_
  refine ps_get dX6_round_10 fl_X6_10 hr rfl rfl (q := 13) rfl ?_
  refine pp_iload_n dX6_round_13 rfl (q := 14) rfl ?_
  refine ps_callVr dX6_round_14 lk_X6_107 (by exact hW) (by rfl) (by rfl) (by rfl) (c_memAt hA hi hd) (by rfl) (by exact Nat.le_of_ble_eq_true rfl) (by decide) (by decide) (by exact Nat.le_of_ble_eq_true rfl) (q := 17) rfl (fun r14 g14 h14 => ?_)
  obtain ⟨rfl, rfl⟩ := And.intro h14.1.symm h14.2.symm
  change PP mX6_round 17 _ [Value.ref (ad (30, 0, i))] _ _
  refine pp_astore dX6_round_17 isRf_r (by decide) (ls1_4 (nl1 rfl)) (q := 19) rfl ?_
  refine pp_iload_n dX6_round_19 rfl (q := 20) rfl ?_
  refine pp_if_ne (tgt := 28) dX6_round_20 (by decide) (q := 23) rfl (fun c20 => absurd rfl c20) (fun c20 => ?_)
  refine pp_aload dX6_round_23 rfl isRf_r (q := 25) rfl ?_
  refine pp_ifnonnull_r (tgt := 34) dX6_round_25 (by decide) ?_
  refine pp_iload_n dX6_round_34 rfl (q := 35) rfl ?_
  refine pp_if_lt (tgt := 47) dX6_round_35 (by decide) (q := 38) rfl (fun c35 => ?_) (fun c35 => ?_)
  · have ho : ¬ inR z n := inR_no (by omega) (Or.inl c35)
    refine pp_aload_n dX6_round_47 rfl isRf_r (q := 48) rfl ?_
    refine pp_bipush dX6_round_48 cb_m3 (q := 50) rfl ?_
    refine ps_callVi dX6_round_50 lk_X6_86 (by exact hr) (by rfl) (by rfl) (by rfl) (c_rf3 (by exact hr)) (by rfl) (by exact Nat.le_of_ble_eq_true rfl) (by decide) (by decide) (by exact Nat.le_of_ble_eq_true rfl) (q := 53) rfl (fun r50 g50 h50 => ?_)
    obtain ⟨rfl, rfl⟩ := And.intro h50.1.symm h50.2.symm
    refine ri_ret dX6_round_53 rfl rfl ?_
    exact QR.no (k := 3) (by unfold qRound; rw [qM_ok hi hd, cl_nI (by omega : i < 2 ^ 31)]; rw [hn1, cl_nI (by omega)]; exact cIf_f ho) ⟨⟨by omega, by omega⟩, by omega⟩ rfl rfl
  · refine pp_iload_n dX6_round_38 rfl (q := 39) rfl ?_
    refine pp_aload dX6_round_39 rfl isRf_r (q := 41) rfl ?_
    refine ps_get dX6_round_41 fl_X6_131 (hA.m hi hd).1 rfl rfl (q := 44) rfl ?_
    rw [(hM.sc sl14).trans hn1]
    refine pp_icmp_lt (tgt := 54) dX6_round_44 (by decide) (q := 47) rfl (fun c44 => ?_) (fun c44 => ?_)
    · obtain ⟨j, hj, rfl⟩ := inR_yes (by omega) c35 c44
      refine pp_aload dX6_round_54 rfl isRf_r (q := 56) rfl ?_
      refine ps_get dX6_round_56 fl_X6_155 (hA.m hi hd).1 rfl rfl (q := 59) rfl ?_
      refine pp_iload_n dX6_round_59 rfl (q := 60) rfl ?_
      refine ps_iald (j := j) dX6_round_60 (hA.m hi hd).1 rfl rfl (by omega) (by decide) (q := 61) rfl ?_
      refine ri_ret dX6_round_61 rfl rfl ?_
      refine QR.yes (x := (A.1 i).2.2 36 j) ?_ (hn3 j hj) rfl
      unfold qRound
      rw [qM_ok hi hd, cl_nI (by omega : i < 2 ^ 31)]
      rw [hn1, cl_nI (by omega : n < 2 ^ 31), cIf_t ⟨j, hj, rfl⟩, cl_nI (by omega)]
    · have ho : ¬ inR z n := inR_no (by omega) (Or.inr (Int32.not_lt.mp c44))
      refine pp_aload_n dX6_round_47 rfl isRf_r (q := 48) rfl ?_
      refine pp_bipush dX6_round_48 cb_m3 (q := 50) rfl ?_
      refine ps_callVi dX6_round_50 lk_X6_86 (by exact hr) (by rfl) (by rfl) (by rfl) (c_rf3 (by exact hr)) (by rfl) (by exact Nat.le_of_ble_eq_true rfl) (by decide) (by decide) (by exact Nat.le_of_ble_eq_true rfl) (q := 53) rfl (fun r50 g50 h50 => ?_)
      obtain ⟨rfl, rfl⟩ := And.intro h50.1.symm h50.2.symm
      refine ri_ret dX6_round_53 rfl rfl ?_
      exact QR.no (k := 3) (by unfold qRound; rw [qM_ok hi hd, cl_nI (by omega : i < 2 ^ 31)]; rw [hn1, cl_nI (by omega)]; exact cIf_f ho) ⟨⟨by omega, by omega⟩, by omega⟩ rfl rfl
theorem c_round {ad : Nm → Nat} {g : Sg} {A : AW} {m z : Int32} (hr : al g (0, 0, 0)) (hA : RW g 0 A)  : PS mX6_round 0 (ent mX6_round [.ref (ad (0, 0, 0)), .int m, .int z]) [] ad g (Ri (fun v g' => QR g (qRound A m z) v g')) := by
  rcases whM (A := A) m with ⟨i, hi, rfl, hd⟩ | ⟨k, hk, hq, hwhy⟩
  · exact c_round_ok hr hA hi hd 
  · refine (c_round_no hr hA hk (hwhy hA)).weak (fun v G hG => ?_)
    obtain ⟨g', h1, r, h2, h3, h4⟩ := hG
    exact ⟨g', h1, r, h2, QR.no (hq _) hk h3 h4⟩
set_option maxRecDepth 20000 in
set_option maxHeartbeats 4000000 in
theorem c_next_no {ad : Nm → Nat} {g : Sg} {A : AW} {k : Nat} {m : Int32} (hr : al g (0, 0, 0)) (hA : RW g 0 A) (hk : isW k ∧ k ≠ 7) (hwhy : PS mX5_whyNoMember 0 (ent mX5_whyNoMember [.ref (ad (10, 0, 0)), .int m]) [] ad g (Ri (fun v g' => v = - nI k ∧ g' = g))) : PS mX6_next 0 (ent mX6_next [.ref (ad (0, 0, 0)), .int m]) [] ad g (Ri (fun v g' => v = - nI k ∧ g' = keG g k (- nI k))) := by
  have hW := hA.1
  show PP mX6_next 0 [some (.ref (ad (0, 0, 0))), some (.int m), none, none] [] (Rel ad g) _
  refine pp_aload_n dX6_next_0 rfl isRf_r (q := 1) rfl ?_
  refine ps_get dX6_next_1 fl_X6_10 hr rfl rfl (q := 4) rfl ?_
  refine pp_iload_n dX6_next_4 rfl (q := 5) rfl ?_
  refine ps_callVi dX6_next_5 lk_X6_104 (by exact hW) (by rfl) (by rfl) (by rfl) hwhy (by rfl) (by exact Nat.le_of_ble_eq_true rfl) (by decide) (by decide) (by exact Nat.le_of_ble_eq_true rfl) (q := 8) rfl (fun r5 g5 h5 => ?_)
  obtain ⟨rfl, rfl⟩ := And.intro h5.1.symm h5.2.symm
  refine pp_istore_n dX6_next_8 (by decide) (ls1_2 (nl1 rfl)) (q := 9) rfl ?_
  refine pp_aload_n dX6_next_9 rfl isRf_r (q := 10) rfl ?_
  refine ps_get dX6_next_10 fl_X6_10 hr rfl rfl (q := 13) rfl ?_
  refine pp_iload_n dX6_next_13 rfl (q := 14) rfl ?_
  refine ps_callVr dX6_next_14 lk_X6_107 (by exact hW) (by rfl) (by rfl) (by rfl) (c_memY hA) (by rfl) (by exact Nat.le_of_ble_eq_true rfl) (by decide) (by decide) (by exact Nat.le_of_ble_eq_true rfl) (q := 17) rfl (fun r14 g14 h14 => ?_)
  subst h14
  refine pp_astore_n dX6_next_17 (by first | exact isRf_r | exact isRf_va | exact isRf_n) (by decide) (ls1_3 (nl1 rfl)) (q := 18) rfl ?_
  refine pp_iload_n dX6_next_18 rfl (q := 19) rfl ?_
  refine pp_if_ne (tgt := 26) dX6_next_19 (by decide) (q := 22) rfl (fun c19 => ?_) (fun c19 => absurd c19 (ngk_ne hk.1))
  refine pp_aload_n dX6_next_26 rfl isRf_r (q := 27) rfl ?_
  refine pp_iload_n dX6_next_27 rfl (q := 28) rfl ?_
  refine ps_callVi dX6_next_28 lk_X6_86 (by exact hr) (by rfl) (by rfl) (by rfl) (c_refused (by exact hr) hk.1) (by rfl) (by exact Nat.le_of_ble_eq_true rfl) (by decide) (by decide) (by exact Nat.le_of_ble_eq_true rfl) (q := 31) rfl (fun r28 g28 h28 => ?_)
  obtain ⟨rfl, rfl⟩ := And.intro h28.1.symm h28.2.symm
  refine ri_ret dX6_next_31 rfl rfl ?_
  exact ⟨rfl, rfl⟩
set_option maxRecDepth 20000 in
set_option maxHeartbeats 4000000 in
theorem c_next_ok {ad : Nm → Nat} {g : Sg} {A : AW} {i : Nat}  (hr : al g (0, 0, 0)) (hA : RW g 0 A) (hi : i < 64) (hd : mdA A i) (hok : ∀ m, m < 64 → mdA A m → wfR m (A.1 m)) : PS mX6_next 0 (ent mX6_next [.ref (ad (0, 0, 0)), .int (nI i)]) [] ad g (Ri (fun v g' => ∃ g1, QR g (qNext A (nI i)) v g1 ∧ EqX (fun n => n = (6, 0, 0)) g1 g')) := by
  have hW := hA.1
  have hM := hA.m hi hd
  have hWf : wfR i (A.1 i) := hok i hi hd
  show PP mX6_next 0 [some (.ref (ad (0, 0, 0))), some (.int (nI i)), none, none] [] (Rel ad g) _
  refine pp_aload_n dX6_next_0 rfl isRf_r (q := 1) rfl ?_
  refine ps_get dX6_next_1 fl_X6_10 hr rfl rfl (q := 4) rfl ?_
  refine pp_iload_n dX6_next_4 rfl (q := 5) rfl ?_
  refine ps_callVi dX6_next_5 lk_X6_104 (by exact hW) (by rfl) (by rfl) (by rfl) (c_whyM hA hi hd) (by rfl) (by exact Nat.le_of_ble_eq_true rfl) (by decide) (by decide) (by exact Nat.le_of_ble_eq_true rfl) (q := 8) rfl (fun r5 g5 h5 => ?_)
  obtain ⟨rfl, rfl⟩ := And.intro h5.1.symm h5.2.symm
  refine pp_istore_n dX6_next_8 (by decide) (ls1_2 (nl1 rfl)) (q := 9) rfl ?_
  refine pp_aload_n dX6_next_9 rfl isRf_r (q := 10) rfl ?_
  refine ps_get dX6_next_10 fl_X6_10 hr rfl rfl (q := 13) rfl ?_
  refine pp_iload_n dX6_next_13 rfl (q := 14) rfl ?_
  refine ps_callVr dX6_next_14 lk_X6_107 (by exact hW) (by rfl) (by rfl) (by rfl) (c_memAt hA hi hd) (by rfl) (by exact Nat.le_of_ble_eq_true rfl) (by decide) (by decide) (by exact Nat.le_of_ble_eq_true rfl) (q := 17) rfl (fun r14 g14 h14 => ?_)
  obtain ⟨rfl, rfl⟩ := And.intro h14.1.symm h14.2.symm
  change PP mX6_next 17 _ [Value.ref (ad (30, 0, i))] _ _
  refine pp_astore_n dX6_next_17 isRf_r (by decide) (ls1_3 (nl1 rfl)) (q := 18) rfl ?_
  refine pp_iload_n dX6_next_18 rfl (q := 19) rfl ?_
  refine pp_if_ne (tgt := 26) dX6_next_19 (by decide) (q := 22) rfl (fun c19 => absurd rfl c19) (fun c19 => ?_)
  refine pp_aload_n dX6_next_22 rfl isRf_r (q := 23) rfl ?_
  refine pp_ifnonnull_r (tgt := 32) dX6_next_23 (by decide) ?_
  refine pp_aload_n dX6_next_32 rfl isRf_r (q := 33) rfl ?_
  refine ps_get dX6_next_33 fl_X6_111 (hA.m hi hd).1 rfl rfl (q := 36) rfl ?_
  rw [hM.sc sl2]
  refine pp_if_eq (tgt := 46) dX6_next_36 (by decide) (q := 39) rfl (fun c36 => ?_) (fun c36 => ?_)
  · refine pp_aload_n dX6_next_46 rfl isRf_r (q := 47) rfl ?_
    refine pp_aload_n dX6_next_47 rfl isRf_r (q := 48) rfl ?_
    refine ps_get dX6_next_48 fl_X6_40 hr rfl rfl (q := 51) rfl ?_
    refine ps_callVi dX6_next_51 lk_X6_158 (by exact (hA.m hi hd).1) (by rfl) (by rfl) (by rfl) (c_wo hM hi hWf (by exact hr)) (by rfl) (by exact Nat.le_of_ble_eq_true rfl) (by decide) (by decide) (by exact Nat.le_of_ble_eq_true rfl) (q := 54) rfl (fun r51 g51 h51 => ?_)
    obtain ⟨rfl, hE⟩ := h51
    refine ri_ret dX6_next_54 rfl rfl ?_
    exact ⟨_, QR.yes (by unfold qNext; rw [qM_ok hi hd, cl_nI (by omega : i < 2 ^ 31)]; exact cIf_t c36) rfl rfl, hE⟩
  · refine pp_aload_n dX6_next_39 rfl isRf_r (q := 40) rfl ?_
    refine pp_bipush dX6_next_40 cb_m8 (q := 42) rfl ?_
    refine ps_callVi dX6_next_42 lk_X6_86 (by exact hr) (by rfl) (by rfl) (by rfl) (c_rf8 (by exact hr)) (by rfl) (by exact Nat.le_of_ble_eq_true rfl) (by decide) (by decide) (by exact Nat.le_of_ble_eq_true rfl) (q := 45) rfl (fun r42 g42 h42 => ?_)
    obtain ⟨rfl, rfl⟩ := And.intro h42.1.symm h42.2.symm
    refine ri_ret dX6_next_45 rfl rfl ?_
    exact ⟨_, QR.no (k := 8) (by unfold qNext; rw [qM_ok hi hd, cl_nI (by omega : i < 2 ^ 31)]; exact cIf_f c36) ⟨⟨by omega, by omega⟩, by omega⟩ rfl rfl, EqX.rf⟩
theorem c_next {ad : Nm → Nat} {g : Sg} {A : AW} {m : Int32} (hr : al g (0, 0, 0)) (hA : RW g 0 A) (hok : ∀ m, m < 64 → mdA A m → wfR m (A.1 m)) : PS mX6_next 0 (ent mX6_next [.ref (ad (0, 0, 0)), .int m]) [] ad g (Ri (fun v g' => ∃ g1, QR g (qNext A m) v g1 ∧ EqX (fun n => n = (6, 0, 0)) g1 g')) := by
  rcases whM (A := A) m with ⟨i, hi, rfl, hd⟩ | ⟨k, hk, hq, hwhy⟩
  · exact c_next_ok hr hA hi hd hok
  · refine (c_next_no hr hA hk (hwhy hA)).weak (fun v G hG => ?_)
    obtain ⟨g', h1, r, h2, h3, h4⟩ := hG
    exact ⟨g', h1, r, h2, g', QR.no (hq _) hk h3 h4, EqX.rf⟩
