theorem nI_subT {a b : Nat} (ha : a < 2 ^ 31) (hb : b < 2 ^ 31) : (nI a - nI b).toInt = (a : Int) - (b : Int) := by
  rw [Int32.toInt_sub, nI_toInt ha, nI_toInt hb]
  unfold Int.bmod
  dsimp only
  split <;> omega
theorem sub_lt {a b c : Nat} (ha : a < 2 ^ 31) (hb : b < 2 ^ 31) (hc : c < 2 ^ 31) : nI a - nI b < nI c ↔ a < b + c := by
  rw [Int32.lt_iff_toInt_lt, nI_subT ha hb, nI_toInt hc]
  omega
theorem le_sub {a b c : Nat} (ha : a < 2 ^ 31) (hb : b < 2 ^ 31) (hc : c < 2 ^ 31) : nI c ≤ nI a - nI b ↔ b + c ≤ a := by
  rw [Int32.le_iff_toInt_le, nI_subT ha hb, nI_toInt hc]
  omega
def copOk (M : Me) (fr n to : Int32) : Prop := ¬ fr < 0 ∧ ¬ to < 0 ∧ cl fr + cl n ≤ cl (M.1 14) ∧ cl to + cl n ≤ 16
noncomputable def qCopy (A : AW) (m fr n to : Int32) : Nat ⊕ Int32 := qM A m (cIf (n < 0) (.inl 4) (cIf (copOk (A.1 (cl m)) fr n to) (.inr n) (.inl 6)))
def cpS (A : AW) (m fr n to : Int32) : Prop := mdX A m ∧ ¬ n < 0 ∧ copOk (A.1 (cl m)) fr n to
noncomputable def cpT (A : AW) (T : Nat → Int32) (m fr n to : Int32) : Nat → Int32 := cIf (cpS A m fr n to) (va_cpy ((A.1 (cl m)).2.2 36) T (cl fr) (cl to) (cl n)) T
set_option maxRecDepth 20000 in
set_option maxHeartbeats 4000000 in
theorem c_copy_no {ad : Nm → Nat} {g : Sg} {A : AW} {k : Nat} {m fr n to : Int32} (hr : al g (0, 0, 0)) (hA : RW g 0 A) (hk : isW k ∧ k ≠ 7) (hwhy : PS mX5_whyNoMember 0 (ent mX5_whyNoMember [.ref (ad (10, 0, 0)), .int m]) [] ad g (Ri (fun v g' => v = - nI k ∧ g' = g))) : PS mX6_copy 0 (ent mX6_copy [.ref (ad (0, 0, 0)), .int m, .int fr, .int n, .int to]) [] ad g (Ri (fun v g' => v = - nI k ∧ g' = keG g k (- nI k))) := by
  have hW := hA.1
  show PP mX6_copy 0 [some (.ref (ad (0, 0, 0))), some (.int m), some (.int fr), some (.int n), some (.int to), none, none] [] (Rel ad g) _
  refine pp_aload_n dX6_copy_0 rfl isRf_r (q := 1) rfl ?_
  refine ps_get dX6_copy_1 fl_X6_10 hr rfl rfl (q := 4) rfl ?_
  refine pp_iload_n dX6_copy_4 rfl (q := 5) rfl ?_
  refine ps_callVi dX6_copy_5 lk_X6_104 (by exact hW) (by rfl) (by rfl) (by rfl) hwhy (by rfl) (by exact Nat.le_of_ble_eq_true rfl) (by decide) (by decide) (by exact Nat.le_of_ble_eq_true rfl) (q := 8) rfl (fun r5 g5 h5 => ?_)
  obtain ⟨rfl, rfl⟩ := And.intro h5.1.symm h5.2.symm
  refine pp_istore dX6_copy_8 (by decide) (ls1_5 (nl1 rfl)) (q := 10) rfl ?_
  refine pp_aload_n dX6_copy_10 rfl isRf_r (q := 11) rfl ?_
  refine ps_get dX6_copy_11 fl_X6_10 hr rfl rfl (q := 14) rfl ?_
  refine pp_iload_n dX6_copy_14 rfl (q := 15) rfl ?_
  refine ps_callVr dX6_copy_15 lk_X6_107 (by exact hW) (by rfl) (by rfl) (by rfl) (c_memY hA) (by rfl) (by exact Nat.le_of_ble_eq_true rfl) (by decide) (by decide) (by exact Nat.le_of_ble_eq_true rfl) (q := 18) rfl (fun r15 g15 h15 => ?_)
  subst h15
  refine pp_astore dX6_copy_18 (by first | exact isRf_r | exact isRf_va | exact isRf_n) (by decide) (ls1_6 (nl1 rfl)) (q := 20) rfl ?_
  refine pp_iload dX6_copy_20 rfl (q := 22) rfl ?_
  refine pp_if_ne (tgt := 30) dX6_copy_22 (by decide) (q := 25) rfl (fun c22 => ?_) (fun c22 => absurd c22 (ngk_ne hk.1))
  refine pp_aload_n dX6_copy_30 rfl isRf_r (q := 31) rfl ?_
  refine pp_iload dX6_copy_31 rfl (q := 33) rfl ?_
  refine ps_callVi dX6_copy_33 lk_X6_86 (by exact hr) (by rfl) (by rfl) (by rfl) (c_refused (by exact hr) hk.1) (by rfl) (by exact Nat.le_of_ble_eq_true rfl) (by decide) (by decide) (by exact Nat.le_of_ble_eq_true rfl) (q := 36) rfl (fun r33 g33 h33 => ?_)
  obtain ⟨rfl, rfl⟩ := And.intro h33.1.symm h33.2.symm
  refine ri_ret dX6_copy_36 rfl rfl ?_
  exact ⟨rfl, rfl⟩
set_option maxRecDepth 20000 in
set_option maxHeartbeats 4000000 in
theorem c_copy_ok {ad : Nm → Nat} {g : Sg} {A : AW} {i : Nat} {fr n to : Int32} (hr : al g (0, 0, 0)) (hA : RW g 0 A) (hi : i < 64) (hd : mdA A i) : PS mX6_copy 0 (ent mX6_copy [.ref (ad (0, 0, 0)), .int (nI i), .int fr, .int n, .int to]) [] ad g (Ri (fun v g' => (¬ cpS A (nI i) fr n to ∧ QR g (qCopy A (nI i) fr n to) v g') ∨ (cpS A (nI i) fr n to ∧ v = n ∧ g' = sA g (5, 0, 0) (va_cpy (gA g (36, 0, i)) (gA g (5, 0, 0)) (cl fr) (cl to) (cl n))))) := by
  have hW := hA.1
  have hM := hA.m hi hd
  obtain ⟨sz, hn1, hn2, hn3⟩ := hM.2.2.2.2.1
  show PP mX6_copy 0 [some (.ref (ad (0, 0, 0))), some (.int (nI i)), some (.int fr), some (.int n), some (.int to), none, none] [] (Rel ad g) _
  refine pp_aload_n dX6_copy_0 rfl isRf_r (q := 1) rfl ?_
  refine ps_get dX6_copy_1 fl_X6_10 hr rfl rfl (q := 4) rfl ?_
  refine pp_iload_n dX6_copy_4 rfl (q := 5) rfl ?_
  refine ps_callVi dX6_copy_5 lk_X6_104 (by exact hW) (by rfl) (by rfl) (by rfl) (c_whyM hA hi hd) (by rfl) (by exact Nat.le_of_ble_eq_true rfl) (by decide) (by decide) (by exact Nat.le_of_ble_eq_true rfl) (q := 8) rfl (fun r5 g5 h5 => ?_)
  obtain ⟨rfl, rfl⟩ := And.intro h5.1.symm h5.2.symm
  refine pp_istore dX6_copy_8 (by decide) (ls1_5 (nl1 rfl)) (q := 10) rfl ?_
  refine pp_aload_n dX6_copy_10 rfl isRf_r (q := 11) rfl ?_
  refine ps_get dX6_copy_11 fl_X6_10 hr rfl rfl (q := 14) rfl ?_
  refine pp_iload_n dX6_copy_14 rfl (q := 15) rfl ?_
  refine ps_callVr dX6_copy_15 lk_X6_107 (by exact hW) (by rfl) (by rfl) (by rfl) (c_memAt hA hi hd) (by rfl) (by exact Nat.le_of_ble_eq_true rfl) (by decide) (by decide) (by exact Nat.le_of_ble_eq_true rfl) (q := 18) rfl (fun r15 g15 h15 => ?_)
  obtain ⟨rfl, rfl⟩ := And.intro h15.1.symm h15.2.symm
  change PP mX6_copy 18 _ [Value.ref (ad (30, 0, i))] _ _
  refine pp_astore dX6_copy_18 isRf_r (by decide) (ls1_6 (nl1 rfl)) (q := 20) rfl ?_
  refine pp_iload dX6_copy_20 rfl (q := 22) rfl ?_
  refine pp_if_ne (tgt := 30) dX6_copy_22 (by decide) (q := 25) rfl (fun c22 => absurd rfl c22) (fun c22 => ?_)
  refine pp_aload dX6_copy_25 rfl isRf_r (q := 27) rfl ?_
  refine pp_ifnonnull_r (tgt := 37) dX6_copy_27 (by decide) ?_
  refine pp_iload_n dX6_copy_37 rfl (q := 38) rfl ?_
  refine pp_if_ge (tgt := 48) dX6_copy_38 (by decide) (q := 41) rfl (fun c38 => ?_) (fun c38 => ?_)
  · have h0 : ¬ n < 0 := Int32.not_lt.mpr c38
    obtain ⟨nn, hnn, rfl⟩ := nI_of h0
    refine pp_iload_n dX6_copy_48 rfl (q := 49) rfl ?_
    refine pp_if_lt (tgt := 77) dX6_copy_49 (by decide) (q := 52) rfl (fun c49 => ?_) (fun c49 => ?_)
    · have ho : ¬ copOk (A.1 i) fr (nI nn) to := fun q => q.1 c49
      refine pp_aload_n dX6_copy_77 rfl isRf_r (q := 78) rfl ?_
      refine pp_bipush dX6_copy_78 cb_m6 (q := 80) rfl ?_
      refine ps_callVi dX6_copy_80 lk_X6_86 (by exact hr) (by rfl) (by rfl) (by rfl) (c_rf6 (by exact hr)) (by rfl) (by exact Nat.le_of_ble_eq_true rfl) (by decide) (by decide) (by exact Nat.le_of_ble_eq_true rfl) (q := 83) rfl (fun r80 g80 h80 => ?_)
      obtain ⟨rfl, rfl⟩ := And.intro h80.1.symm h80.2.symm
      refine ri_ret dX6_copy_83 rfl rfl ?_
      refine Or.inl ⟨fun q => ho (by have := q.2.2; rw [cl_nI (by omega : i < 2 ^ 31)] at this; exact this), ?_⟩
      exact QR.no (k := 6) (by unfold qCopy; rw [qM_ok hi hd, cl_nI (by omega : i < 2 ^ 31)]; rw [cIf_f h0]; exact cIf_f ho) ⟨⟨by omega, by omega⟩, by omega⟩ rfl rfl
    · obtain ⟨ff, hff, rfl⟩ := nI_of c49
      refine pp_iload dX6_copy_52 rfl (q := 54) rfl ?_
      refine pp_if_lt (tgt := 77) dX6_copy_54 (by decide) (q := 57) rfl (fun c54 => ?_) (fun c54 => ?_)
      · have ho : ¬ copOk (A.1 i) (nI ff) (nI nn) to := fun q => q.2.1 c54
        refine pp_aload_n dX6_copy_77 rfl isRf_r (q := 78) rfl ?_
        refine pp_bipush dX6_copy_78 cb_m6 (q := 80) rfl ?_
        refine ps_callVi dX6_copy_80 lk_X6_86 (by exact hr) (by rfl) (by rfl) (by rfl) (c_rf6 (by exact hr)) (by rfl) (by exact Nat.le_of_ble_eq_true rfl) (by decide) (by decide) (by exact Nat.le_of_ble_eq_true rfl) (q := 83) rfl (fun r80 g80 h80 => ?_)
        obtain ⟨rfl, rfl⟩ := And.intro h80.1.symm h80.2.symm
        refine ri_ret dX6_copy_83 rfl rfl ?_
        refine Or.inl ⟨fun q => ho (by have := q.2.2; rw [cl_nI (by omega : i < 2 ^ 31)] at this; exact this), ?_⟩
        exact QR.no (k := 6) (by unfold qCopy; rw [qM_ok hi hd, cl_nI (by omega : i < 2 ^ 31)]; rw [cIf_f h0]; exact cIf_f ho) ⟨⟨by omega, by omega⟩, by omega⟩ rfl rfl
      · obtain ⟨tt, htt, rfl⟩ := nI_of c54
        refine pp_iload_n dX6_copy_57 rfl (q := 58) rfl ?_
        refine pp_aload dX6_copy_58 rfl isRf_r (q := 60) rfl ?_
        refine ps_get dX6_copy_60 fl_X6_131 (hA.m hi hd).1 rfl rfl (q := 63) rfl ?_
        rw [(hM.sc sl14).trans hn1]
        refine pp_iload_n dX6_copy_63 rfl (q := 64) rfl ?_
        refine pp_isub dX6_copy_64 (q := 65) rfl ?_
        refine pp_icmp_gt (tgt := 77) dX6_copy_65 (by decide) (q := 68) rfl (fun c65 => ?_) (fun c65 => ?_)
        · have ho : ¬ copOk (A.1 i) (nI ff) (nI nn) (nI tt) := fun q => by
            have h1 := q.2.2.1
            rw [hn1, cl_nI hff, cl_nI hnn, cl_nI (by omega)] at h1
            have := (sub_lt (by omega) hff hnn).mp c65
            omega
          refine pp_aload_n dX6_copy_77 rfl isRf_r (q := 78) rfl ?_
          refine pp_bipush dX6_copy_78 cb_m6 (q := 80) rfl ?_
          refine ps_callVi dX6_copy_80 lk_X6_86 (by exact hr) (by rfl) (by rfl) (by rfl) (c_rf6 (by exact hr)) (by rfl) (by exact Nat.le_of_ble_eq_true rfl) (by decide) (by decide) (by exact Nat.le_of_ble_eq_true rfl) (q := 83) rfl (fun r80 g80 h80 => ?_)
          obtain ⟨rfl, rfl⟩ := And.intro h80.1.symm h80.2.symm
          refine ri_ret dX6_copy_83 rfl rfl ?_
          refine Or.inl ⟨fun q => ho (by have := q.2.2; rw [cl_nI (by omega : i < 2 ^ 31)] at this; exact this), ?_⟩
          exact QR.no (k := 6) (by unfold qCopy; rw [qM_ok hi hd, cl_nI (by omega : i < 2 ^ 31)]; rw [cIf_f h0]; exact cIf_f ho) ⟨⟨by omega, by omega⟩, by omega⟩ rfl rfl
        · have hs1 : ff + nn ≤ sz := by
            have := mt (sub_lt (a := sz) (by omega) hff hnn).mpr c65
            omega
          refine pp_iload_n dX6_copy_68 rfl (q := 69) rfl ?_
          refine pp_bipush dX6_copy_69 cb_16 (q := 71) rfl ?_
          refine pp_iload dX6_copy_71 rfl (q := 73) rfl ?_
          refine pp_isub dX6_copy_73 (q := 74) rfl ?_
          refine pp_icmp_le (tgt := 84) dX6_copy_74 (by decide) (q := 77) rfl (fun c74 => ?_) (fun c74 => ?_)
          · have hs2 : tt + nn ≤ 16 := (le_sub (by omega) htt hnn).mp c74
            refine pp_aload dX6_copy_84 rfl isRf_r (q := 86) rfl ?_
            refine ps_get dX6_copy_86 fl_X6_155 (hA.m hi hd).1 rfl rfl (q := 89) rfl ?_
            refine pp_iload_n dX6_copy_89 rfl (q := 90) rfl ?_
            refine pp_aload_n dX6_copy_90 rfl isRf_r (q := 91) rfl ?_
            refine ps_get dX6_copy_91 fl_X6_30 hr rfl rfl (q := 94) rfl ?_
            refine pp_iload dX6_copy_94 rfl (q := 96) rfl ?_
            refine pp_iload_n dX6_copy_96 rfl (q := 97) rfl ?_
            refine ps_copyi (n := (36, 0, i)) (m := (5, 0, 0)) (n1 := 64) (n2 := 16) (a := ff) (b := tt) (k := nn) dX6_copy_97 lc_X6_162 (by exact hM.1) (by exact hr) rfl (fun _ => rfl) rfl rfl rfl (by omega) (by omega) (by decide) (by decide) (by exact Nat.le_of_ble_eq_true rfl) (q := 100) rfl ?_
            refine pp_iload_n dX6_copy_100 rfl (q := 101) rfl ?_
            refine ri_ret dX6_copy_101 rfl rfl ?_
            refine Or.inr ⟨⟨⟨i, hi, rfl, hd⟩, h0, ?_⟩, rfl, ?_⟩
            · rw [cl_nI (by omega : i < 2 ^ 31)]
              refine ⟨nI_pos hff, nI_pos htt, ?_, ?_⟩
              · rw [cl_nI hff, cl_nI hnn, hn1, cl_nI (by omega)]; exact hs1
              · rw [cl_nI htt, cl_nI hnn]; exact hs2
            · rw [cl_nI hff, cl_nI htt, cl_nI hnn]
          · have ho : ¬ copOk (A.1 i) (nI ff) (nI nn) (nI tt) := fun q => by
              have h1 := q.2.2.2
              rw [cl_nI htt, cl_nI hnn] at h1
              exact c74 ((le_sub (by omega) htt hnn).mpr h1)
            refine pp_aload_n dX6_copy_77 rfl isRf_r (q := 78) rfl ?_
            refine pp_bipush dX6_copy_78 cb_m6 (q := 80) rfl ?_
            refine ps_callVi dX6_copy_80 lk_X6_86 (by exact hr) (by rfl) (by rfl) (by rfl) (c_rf6 (by exact hr)) (by rfl) (by exact Nat.le_of_ble_eq_true rfl) (by decide) (by decide) (by exact Nat.le_of_ble_eq_true rfl) (q := 83) rfl (fun r80 g80 h80 => ?_)
            obtain ⟨rfl, rfl⟩ := And.intro h80.1.symm h80.2.symm
            refine ri_ret dX6_copy_83 rfl rfl ?_
            refine Or.inl ⟨fun q => ho (by have := q.2.2; rw [cl_nI (by omega : i < 2 ^ 31)] at this; exact this), ?_⟩
            exact QR.no (k := 6) (by unfold qCopy; rw [qM_ok hi hd, cl_nI (by omega : i < 2 ^ 31)]; rw [cIf_f h0]; exact cIf_f ho) ⟨⟨by omega, by omega⟩, by omega⟩ rfl rfl
  · have h0 : n < 0 := Int32.not_le.mp c38
    refine pp_aload_n dX6_copy_41 rfl isRf_r (q := 42) rfl ?_
    refine pp_bipush dX6_copy_42 cb_m4 (q := 44) rfl ?_
    refine ps_callVi dX6_copy_44 lk_X6_86 (by exact hr) (by rfl) (by rfl) (by rfl) (c_rf4 (by exact hr)) (by rfl) (by exact Nat.le_of_ble_eq_true rfl) (by decide) (by decide) (by exact Nat.le_of_ble_eq_true rfl) (q := 47) rfl (fun r44 g44 h44 => ?_)
    obtain ⟨rfl, rfl⟩ := And.intro h44.1.symm h44.2.symm
    refine ri_ret dX6_copy_47 rfl rfl ?_
    refine Or.inl ⟨fun q => q.2.1 h0, ?_⟩
    exact QR.no (k := 4) (by unfold qCopy; rw [qM_ok hi hd, cl_nI (by omega : i < 2 ^ 31)]; exact cIf_t h0) ⟨⟨by omega, by omega⟩, by omega⟩ rfl rfl
theorem c_copy {ad : Nm → Nat} {g : Sg} {A : AW} {m fr n to : Int32} {T : Nat → Int32} (hr : al g (0, 0, 0)) (hA : RW g 0 A) (hT : ∀ j, j < 16 → gA g (5, 0, 0) j = T j) : PS mX6_copy 0 (ent mX6_copy [.ref (ad (0, 0, 0)), .int m, .int fr, .int n, .int to]) [] ad g (Ri (fun v g' => ∃ g1, QR g (qCopy A m fr n to) v g1 ∧ EqX (fun n => n = (5, 0, 0)) g1 g' ∧ ∀ j, j < 16 → gA g' (5, 0, 0) j = cpT A T m fr n to j)) := by
  rcases whM (A := A) m with ⟨i, hi, rfl, hd⟩ | ⟨k, hk, hq, hwhy⟩
  · refine (c_copy_ok hr hA hi hd).weak (fun v G hG => ?_)
    obtain ⟨g', h1, r, h2, h3⟩ := hG
    refine ⟨g', h1, r, h2, ?_⟩
    rcases h3 with ⟨h3, h4⟩ | ⟨h3, h4, rfl⟩
    · refine ⟨g', h4, EqX.rf, fun j hj => ?_⟩
      unfold cpT
      rw [cIf_f h3, ← hT j hj]
      unfold QR at h4
      cases hq : qCopy A (nI i) fr n to with
      | inl k => rw [hq] at h4; rw [h4.2.2]; rfl
      | inr x => rw [hq] at h4; rw [h4.2]
    · refine ⟨g, QR.yes ?_ h4 rfl, EqX.rf.sA rfl, fun j hj => ?_⟩
      · unfold qCopy
        rw [qM_ok hi hd, cIf_f h3.2.1, cIf_t h3.2.2]
      · obtain ⟨sz, hn1, hn2, hn3⟩ := (hA.m hi hd).2.2.2.2.1
        have hc := h3.2.2
        unfold cpT
        rw [cIf_t h3, gA_sA, if_pos rfl]
        rw [cl_nI (by omega : i < 2 ^ 31)] at hc ⊢
        unfold va_cpy
        split
        · have h5 := hc.2.2.1
          rw [hn1, cl_nI (by omega)] at h5
          exact hn3 _ (by omega)
        · exact hT j hj
  · refine (c_copy_no hr hA hk (hwhy hA)).weak (fun v G hG => ?_)
    obtain ⟨g', h1, r, h2, h3, h4⟩ := hG
    refine ⟨g', h1, r, h2, g', QR.no (hq _) hk h3 h4, EqX.rf, fun j hj => ?_⟩
    have hn : ¬ cpS A m fr n to := fun q => by
      have h5 := hq (.inr 0)
      obtain ⟨i, hi, rfl, hd⟩ := q.1
      rw [qM_ok hi hd] at h5
      cases h5
    unfold cpT
    rw [cIf_f hn, h4, ← hT j hj]
    rfl
set_option maxRecDepth 20000 in
set_option maxHeartbeats 4000000 in
theorem c_way_no {ad : Nm → Nat} {g : Sg} {A : AW} {k : Nat} {m x : Int32} (hr : al g (0, 0, 0)) (hA : RW g 0 A) (hk : isW k ∧ k ≠ 7) (hwhy : PS mX5_whyNoNews 0 (ent mX5_whyNoNews [.ref (ad (10, 0, 0)), .int m, .int x]) [] ad g (Ri (fun v g' => v = - nI k ∧ g' = g))) : PS mX6_way 0 (ent mX6_way [.ref (ad (0, 0, 0)), .int m, .int x]) [] ad g (Ri (fun v g' => v = - nI k ∧ g' = keG g k (- nI k))) := by
  have hW := hA.1
  show PP mX6_way 0 [some (.ref (ad (0, 0, 0))), some (.int m), some (.int x), none, none] [] (Rel ad g) _
  refine pp_aload_n dX6_way_0 rfl isRf_r (q := 1) rfl ?_
  refine ps_get dX6_way_1 fl_X6_10 hr rfl rfl (q := 4) rfl ?_
  refine pp_iload_n dX6_way_4 rfl (q := 5) rfl ?_
  refine pp_iload_n dX6_way_5 rfl (q := 6) rfl ?_
  refine ps_callVi dX6_way_6 lk_X6_137 (by exact hW) (by rfl) (by rfl) (by rfl) hwhy (by rfl) (by exact Nat.le_of_ble_eq_true rfl) (by decide) (by decide) (by exact Nat.le_of_ble_eq_true rfl) (q := 9) rfl (fun r6 g6 h6 => ?_)
  obtain ⟨rfl, rfl⟩ := And.intro h6.1.symm h6.2.symm
  refine pp_istore_n dX6_way_9 (by decide) (ls1_3 (nl1 rfl)) (q := 10) rfl ?_
  refine pp_aload_n dX6_way_10 rfl isRf_r (q := 11) rfl ?_
  refine ps_get dX6_way_11 fl_X6_10 hr rfl rfl (q := 14) rfl ?_
  refine pp_iload_n dX6_way_14 rfl (q := 15) rfl ?_
  refine ps_callVr dX6_way_15 lk_X6_107 (by exact hW) (by rfl) (by rfl) (by rfl) (c_memY hA) (by rfl) (by exact Nat.le_of_ble_eq_true rfl) (by decide) (by decide) (by exact Nat.le_of_ble_eq_true rfl) (q := 18) rfl (fun r15 g15 h15 => ?_)
  subst h15
  refine pp_astore dX6_way_18 (by first | exact isRf_r | exact isRf_va | exact isRf_n) (by decide) (ls1_4 (nl1 rfl)) (q := 20) rfl ?_
  refine pp_iload_n dX6_way_20 rfl (q := 21) rfl ?_
  refine pp_if_ne (tgt := 29) dX6_way_21 (by decide) (q := 24) rfl (fun c21 => ?_) (fun c21 => absurd c21 (ngk_ne hk.1))
  refine pp_aload_n dX6_way_29 rfl isRf_r (q := 30) rfl ?_
  refine pp_iload_n dX6_way_30 rfl (q := 31) rfl ?_
  refine ps_callVi dX6_way_31 lk_X6_86 (by exact hr) (by rfl) (by rfl) (by rfl) (c_refused (by exact hr) hk.1) (by rfl) (by exact Nat.le_of_ble_eq_true rfl) (by decide) (by decide) (by exact Nat.le_of_ble_eq_true rfl) (q := 34) rfl (fun r31 g31 h31 => ?_)
  obtain ⟨rfl, rfl⟩ := And.intro h31.1.symm h31.2.symm
  refine ri_ret dX6_way_34 rfl rfl ?_
  exact ⟨rfl, rfl⟩
set_option maxRecDepth 20000 in
set_option maxHeartbeats 4000000 in
theorem c_way_ok {ad : Nm → Nat} {g : Sg} {A : AW} {i x : Nat} {Y : List Int32} (hr : al g (0, 0, 0)) (hA : RW g 0 A) (hR : RY g Y) (hlt : okLt (aB A)) (hC : okC (aB A) x) (hbl : bL (aB A) ≤ 1200) (hi : i < 64) (hx : x < 64) (hd : mdA A i) (hk : ¬ (A.1 i).2.2 31 x = 0) (hv : (A.1 i).2.2 35 x = -1 ∨ ∃ l, l < bL (aB A) ∧ (A.1 i).2.2 35 x = nI l ∧ hasP (aB A) l x) : PP mX6_way 0 (ent mX6_way [.ref (ad (0, 0, 0)), .int (nI i), .int (nI x)]) [] (Rel ad g) (PQ (fun v ad' g' => v = some (.int (nI (wyL (aB A) (nI x) 1200 ((A.1 i).2.2 35 x)).length)) ∧ EqY ad g ad' g' ∧ RY g' (wyL (aB A) (nI x) 1200 ((A.1 i).2.2 35 x)))) := by
  have hW := hA.1
  have hM := hA.m hi hd
  show PP mX6_way 0 [some (.ref (ad (0, 0, 0))), some (.int (nI i)), some (.int (nI x)), none, none] [] (Rel ad g) _
  refine pp_aload_n dX6_way_0 rfl isRf_r (q := 1) rfl ?_
  refine ps_get dX6_way_1 fl_X6_10 (by first | exact hr2 | exact hr) rfl rfl (q := 4) rfl ?_
  refine pp_iload_n dX6_way_4 rfl (q := 5) rfl ?_
  refine pp_iload_n dX6_way_5 rfl (q := 6) rfl ?_
  refine ps_callVi dX6_way_6 lk_X6_137 (by exact hW) (by rfl) (by rfl) (by rfl) (c_whyN0 hA hi hx hd hk) (by rfl) (by exact Nat.le_of_ble_eq_true rfl) (by decide) (by decide) (by exact Nat.le_of_ble_eq_true rfl) (q := 9) rfl (fun r6 g6 h6 => ?_)
  obtain ⟨rfl, rfl⟩ := And.intro h6.1.symm h6.2.symm
  refine pp_istore_n dX6_way_9 (by decide) (ls1_3 (nl1 rfl)) (q := 10) rfl ?_
  refine pp_aload_n dX6_way_10 rfl isRf_r (q := 11) rfl ?_
  refine ps_get dX6_way_11 fl_X6_10 (by first | exact hr2 | exact hr) rfl rfl (q := 14) rfl ?_
  refine pp_iload_n dX6_way_14 rfl (q := 15) rfl ?_
  refine ps_callVr dX6_way_15 lk_X6_107 (by exact hW) (by rfl) (by rfl) (by rfl) (c_memAt hA hi hd) (by rfl) (by exact Nat.le_of_ble_eq_true rfl) (by decide) (by decide) (by exact Nat.le_of_ble_eq_true rfl) (q := 18) rfl (fun r15 g15 h15 => ?_)
  obtain ⟨rfl, rfl⟩ := And.intro h15.1.symm h15.2.symm
  change PP mX6_way 18 _ [Value.ref (ad (30, 0, i))] _ _
  refine pp_astore dX6_way_18 isRf_r (by decide) (ls1_4 (nl1 rfl)) (q := 20) rfl ?_
  refine pp_iload_n dX6_way_20 rfl (q := 21) rfl ?_
  refine pp_if_ne (tgt := 29) dX6_way_21 (by decide) (q := 24) rfl (fun c21 => absurd rfl c21) (fun c21 => ?_)
  refine pp_aload dX6_way_24 rfl isRf_r (q := 26) rfl ?_
  refine pp_ifnonnull_r (tgt := 35) dX6_way_26 (by decide) ?_
  refine pp_aload_n dX6_way_35 rfl isRf_r (q := 36) rfl ?_
  refine ps_get dX6_way_36 fl_X6_26 (by first | exact hr2 | exact hr) rfl rfl (q := 39) rfl ?_
  refine pp_aload_n dX6_way_39 rfl isRf_r (q := 40) rfl ?_
  refine ps_get dX6_way_40 fl_X6_10 (by first | exact hr2 | exact hr) rfl rfl (q := 43) rfl ?_
  refine ps_get dX6_way_43 fl_X6_57 hW rfl rfl (q := 46) rfl ?_
  refine pp_aload dX6_way_46 rfl isRf_r (q := 48) rfl ?_
  refine ps_get dX6_way_48 fl_X6_152 (hA.m hi hd).1 rfl rfl (q := 51) rfl ?_
  refine pp_iload_n dX6_way_51 rfl (q := 52) rfl ?_
  refine ps_iald (j := x) dX6_way_52 (hA.m hi hd).1 rfl rfl hx (by decide) (q := 53) rfl ?_
  rw [hM.ar (k := 35) (by omega) (by omega)]
  refine pp_iload_n dX6_way_53 rfl (q := 54) rfl ?_
  refine ps_callVq dX6_way_54 lk_X6_177 (by exact (by first | exact hr2 | exact hr)) (by rfl) (by rfl) (by rfl) (c_follow hW hA.2.1 hR hlt hC hbl hv) (by rfl) (by exact Nat.le_of_ble_eq_true rfl) (by decide) (by decide) (by exact Nat.le_of_ble_eq_true rfl) (q := 57) rfl (fun v54 ad54 g54 h54 => ?_)
  obtain ⟨rfl, hE, hR2⟩ := h54
  have hr2 := hE.1 _ hr
  rw [← hE.2.1 (0, 0, 0) hr (by show 0 ≠ 4; omega)]
  change PP mX6_way 57 _ [] _ _
  refine pp_aload_n dX6_way_57 rfl isRf_r (q := 58) rfl ?_
  refine ps_get dX6_way_58 fl_X6_26 (by first | exact hr2 | exact hr) rfl rfl (q := 61) rfl ?_
  refine ps_get dX6_way_61 fl_X6_181 (by exact hr2) rfl rfl (q := 64) rfl ?_
  refine pp_iret dX6_way_64 rfl rfl (fun G hG => ⟨_, _, hG, ?_⟩)
  exact ⟨by rw [hR2.2.1], hE, hR2⟩
set_option maxRecDepth 20000 in
set_option maxHeartbeats 4000000 in
theorem c_forge {ad : Nm → Nat} {g : Sg} {A : AW} {i l : Int32} {Y : List Int32} (hr : al g (0, 0, 0)) (hA : RW g 0 A) (hR : RY g Y) : PS mX6_forge 0 (ent mX6_forge [.ref (ad (0, 0, 0)), .int i, .int l]) [] ad g (Ri (fun v g' => (¬ inR i Y.length ∧ v = - nI 3 ∧ g' = keG g 3 (- nI 3)) ∨ (inR i Y.length ∧ v = nI 1 ∧ RY g' (Y.set (cl i) l) ∧ EqX (fun n => n = (4, 0, 0)) g g'))) := by
  have hW := hA.1
  show PP mX6_forge 0 [some (.ref (ad (0, 0, 0))), some (.int i), some (.int l)] [] (Rel ad g) _
  refine pp_iload_n dX6_forge_0 rfl (q := 1) rfl ?_
  refine pp_if_lt (tgt := 15) dX6_forge_1 (by decide) (q := 4) rfl (fun c1 => ?_) (fun c1 => ?_)
  · have ho : ¬ inR i Y.length := inR_no (by have := hR.2.2; omega) (Or.inl c1)
    refine pp_aload_n dX6_forge_15 rfl isRf_r (q := 16) rfl ?_
    refine pp_bipush dX6_forge_16 cb_m3 (q := 18) rfl ?_
    refine ps_callVi dX6_forge_18 lk_X6_86 (by exact hr) (by rfl) (by rfl) (by rfl) (c_rf3 (by exact hr)) (by rfl) (by exact Nat.le_of_ble_eq_true rfl) (by decide) (by decide) (by exact Nat.le_of_ble_eq_true rfl) (q := 21) rfl (fun r18 g18 h18 => ?_)
    obtain ⟨rfl, rfl⟩ := And.intro h18.1.symm h18.2.symm
    refine ri_ret dX6_forge_21 rfl rfl ?_
    exact Or.inl ⟨ho, rfl, rfl⟩
  · refine pp_iload_n dX6_forge_4 rfl (q := 5) rfl ?_
    refine pp_aload_n dX6_forge_5 rfl isRf_r (q := 6) rfl ?_
    refine ps_get dX6_forge_6 fl_X6_26 hr rfl rfl (q := 9) rfl ?_
    refine ps_get dX6_forge_9 fl_X6_181 hr rfl rfl (q := 12) rfl ?_
    rw [hR.2.1]
    refine pp_icmp_lt (tgt := 22) dX6_forge_12 (by decide) (q := 15) rfl (fun c12 => ?_) (fun c12 => ?_)
    · obtain ⟨j, hj, rfl⟩ := inR_yes (by have := hR.2.2; omega) c1 c12
      refine pp_aload_n dX6_forge_22 rfl isRf_r (q := 23) rfl ?_
      refine ps_get dX6_forge_23 fl_X6_26 hr rfl rfl (q := 26) rfl ?_
      refine ps_get dX6_forge_26 fl_X6_182 hr rfl rfl (q := 29) rfl ?_
      refine pp_iload_n dX6_forge_29 rfl (q := 30) rfl ?_
      refine pp_iload_n dX6_forge_30 rfl (q := 31) rfl ?_
      refine ps_iast (j := j) dX6_forge_31 hr (fun _ => rfl) rfl (by have := hR.2.2; omega) (by have := hR.2.2; omega) (q := 32) rfl ?_
      refine pp_iconst dX6_forge_32 ci_1 (q := 33) rfl ?_
      refine ri_ret dX6_forge_33 rfl rfl ?_
      refine Or.inr ⟨⟨j, hj, rfl⟩, rfl, ?_, EqX.rf.sA rfl⟩
      rw [cl_nI (by have := hR.2.2; omega)]
      obtain ⟨a1, a2, a3, a4, a5, a6⟩ := hR
      refine ⟨a1, by rw [List.length_set]; exact a2, by rw [List.length_set]; exact a3, a4, a5, fun q u hu => ?_⟩
      rw [gA_sA, if_pos rfl]
      unfold upd
      rw [List.getElem?_set] at hu
      by_cases e : q = j
      · subst e
        rw [if_pos rfl, if_pos hj] at hu
        rw [if_pos rfl]
        exact Option.some.inj hu
      · rw [if_neg (Ne.symm e)] at hu
        rw [if_neg e]
        exact a6 q u hu
    · have ho : ¬ inR i Y.length := inR_no (by have := hR.2.2; omega) (Or.inr (Int32.not_lt.mp c12))
      refine pp_aload_n dX6_forge_15 rfl isRf_r (q := 16) rfl ?_
      refine pp_bipush dX6_forge_16 cb_m3 (q := 18) rfl ?_
      refine ps_callVi dX6_forge_18 lk_X6_86 (by exact hr) (by rfl) (by rfl) (by rfl) (c_rf3 (by exact hr)) (by rfl) (by exact Nat.le_of_ble_eq_true rfl) (by decide) (by decide) (by exact Nat.le_of_ble_eq_true rfl) (q := 21) rfl (fun r18 g18 h18 => ?_)
      obtain ⟨rfl, rfl⟩ := And.intro h18.1.symm h18.2.symm
      refine ri_ret dX6_forge_21 rfl rfl ?_
      exact Or.inl ⟨ho, rfl, rfl⟩
def chP (A : AW) (Y : List Int32) (m x kind term : Int32) : Prop := match Y with
  | [] => ¬ (A.1 (cl m)).2.2 31 (cl x) = 0 ∧ (A.1 (cl m)).2.2 31 (cl x) = kind ∧ (A.1 (cl m)).2.2 32 (cl x) = term ∧ (A.1 (cl m)).2.2 35 (cl x) = -1
  | _ :: _ => stW (aB A) x kind term m Y
noncomputable def qCheck (A : AW) (Y : List Int32) (m x kind term : Int32) : Nat ⊕ Int32 := cIf (isM m ∧ isM x) (cIf (mdX A m) (.inr (cIf (chP A Y m x kind term) (nI 1) (nI 0))) (.inl 2)) (.inl 3)
theorem chP_st {A : AW} {Y : List Int32} {m x kind term : Int32} (h : ¬ Y = []) : chP A Y m x kind term ↔ stW (aB A) x kind term m Y := by
  cases Y with
  | nil => exact absurd rfl h
  | cons v Y => exact Iff.rfl
set_option maxRecDepth 20000 in
set_option maxHeartbeats 4000000 in
theorem c_check_b {ad : Nm → Nat} {g : Sg} {A : AW} {m x kind term : Int32} {Y : List Int32} (hr : al g (0, 0, 0)) (hA : RW g 0 A) (hn : ¬ (isM m ∧ isM x)) : PS mX6_check 0 (ent mX6_check [.ref (ad (0, 0, 0)), .int m, .int x, .int kind, .int term]) [] ad g (Ri (fun v g' => QR g (qCheck A Y m x kind term) v g')) := by
  have hW := hA.1
  show PP mX6_check 0 [some (.ref (ad (0, 0, 0))), some (.int m), some (.int x), some (.int kind), some (.int term), none] [] (Rel ad g) _
  refine pp_iload_n dX6_check_0 rfl (q := 1) rfl ?_
  refine ps_callSi dX6_check_1 lk_X6_171 (by rfl) c_isMB (by rfl) (by exact Nat.le_of_ble_eq_true rfl) (by decide) (by decide) (by exact Nat.le_of_ble_eq_true rfl) (q := 4) rfl (fun r1 g1 h1 => ?_)
  obtain ⟨hb1, rfl⟩ := And.intro h1.1 h1.2.symm
  refine pp_if_eq (tgt := 14) dX6_check_4 (by decide) (q := 7) rfl (fun c4 => ?_) (fun c4 => ?_)
  · refine pp_aload_n dX6_check_14 rfl isRf_r (q := 15) rfl ?_
    refine pp_bipush dX6_check_15 cb_m3 (q := 17) rfl ?_
    refine ps_callVi dX6_check_17 lk_X6_86 (by exact hr) (by rfl) (by rfl) (by rfl) (c_rf3 (by exact hr)) (by rfl) (by exact Nat.le_of_ble_eq_true rfl) (by decide) (by decide) (by exact Nat.le_of_ble_eq_true rfl) (q := 20) rfl (fun r17 g17 h17 => ?_)
    obtain ⟨rfl, rfl⟩ := And.intro h17.1.symm h17.2.symm
    refine ri_ret dX6_check_20 rfl rfl ?_
    exact QR.no (k := 3) (by unfold qCheck; exact cIf_f hn) ⟨⟨by omega, by omega⟩, by omega⟩ rfl rfl
  · refine pp_iload_n dX6_check_7 rfl (q := 8) rfl ?_
    refine ps_callSi dX6_check_8 lk_X6_171 (by rfl) c_isMB (by rfl) (by exact Nat.le_of_ble_eq_true rfl) (by decide) (by decide) (by exact Nat.le_of_ble_eq_true rfl) (q := 11) rfl (fun r8 g8 h8 => ?_)
    obtain ⟨hb8, rfl⟩ := And.intro h8.1 h8.2.symm
    refine pp_if_ne (tgt := 21) dX6_check_11 (by decide) (q := 14) rfl (fun c11 => ?_) (fun c11 => ?_)
    · exact absurd ⟨isB_t hb1 c4, isB_t hb8 c11⟩ hn
    · refine pp_aload_n dX6_check_14 rfl isRf_r (q := 15) rfl ?_
      refine pp_bipush dX6_check_15 cb_m3 (q := 17) rfl ?_
      refine ps_callVi dX6_check_17 lk_X6_86 (by exact hr) (by rfl) (by rfl) (by rfl) (c_rf3 (by exact hr)) (by rfl) (by exact Nat.le_of_ble_eq_true rfl) (by decide) (by decide) (by exact Nat.le_of_ble_eq_true rfl) (q := 20) rfl (fun r17 g17 h17 => ?_)
      obtain ⟨rfl, rfl⟩ := And.intro h17.1.symm h17.2.symm
      refine ri_ret dX6_check_20 rfl rfl ?_
      exact QR.no (k := 3) (by unfold qCheck; exact cIf_f hn) ⟨⟨by omega, by omega⟩, by omega⟩ rfl rfl
set_option maxRecDepth 20000 in
set_option maxHeartbeats 4000000 in
theorem c_check_m {ad : Nm → Nat} {g : Sg} {A : AW} {i j : Nat} {kind term : Int32} {Y : List Int32} (hr : al g (0, 0, 0)) (hA : RW g 0 A) (hi : i < 64) (hj : j < 64) (hd : ¬ mdA A i) : PS mX6_check 0 (ent mX6_check [.ref (ad (0, 0, 0)), .int (nI i), .int (nI j), .int kind, .int term]) [] ad g (Ri (fun v g' => QR g (qCheck A Y (nI i) (nI j) kind term) v g')) := by
  have hW := hA.1
  show PP mX6_check 0 [some (.ref (ad (0, 0, 0))), some (.int (nI i)), some (.int (nI j)), some (.int kind), some (.int term), none] [] (Rel ad g) _
  refine pp_iload_n dX6_check_0 rfl (q := 1) rfl ?_
  refine ps_callSi dX6_check_1 lk_X6_171 (by rfl) (c_isMem hi) (by rfl) (by exact Nat.le_of_ble_eq_true rfl) (by decide) (by decide) (by exact Nat.le_of_ble_eq_true rfl) (q := 4) rfl (fun r1 g1 h1 => ?_)
  obtain ⟨rfl, rfl⟩ := And.intro h1.1.symm h1.2.symm
  refine pp_if_eq (tgt := 14) dX6_check_4 (by decide) (q := 7) rfl (fun c4 => absurd c4 nI1_ne) (fun c4 => ?_)
  refine pp_iload_n dX6_check_7 rfl (q := 8) rfl ?_
  refine ps_callSi dX6_check_8 lk_X6_171 (by rfl) (c_isMem hj) (by rfl) (by exact Nat.le_of_ble_eq_true rfl) (by decide) (by decide) (by exact Nat.le_of_ble_eq_true rfl) (q := 11) rfl (fun r8 g8 h8 => ?_)
  obtain ⟨rfl, rfl⟩ := And.intro h8.1.symm h8.2.symm
  refine pp_if_ne (tgt := 21) dX6_check_11 (by decide) (q := 14) rfl (fun c11 => ?_) (fun c11 => absurd c11 nI1_ne)
  refine pp_aload_n dX6_check_21 rfl isRf_r (q := 22) rfl ?_
  refine ps_get dX6_check_22 fl_X6_10 hr rfl rfl (q := 25) rfl ?_
  refine pp_iload_n dX6_check_25 rfl (q := 26) rfl ?_
  refine ps_callVr dX6_check_26 lk_X6_107 (by exact hW) (by rfl) (by rfl) (by rfl) (c_memAt_no hA (noM_of hi hd)) (by rfl) (by exact Nat.le_of_ble_eq_true rfl) (by decide) (by decide) (by exact Nat.le_of_ble_eq_true rfl) (q := 29) rfl (fun r26 g26 h26 => ?_)
  obtain ⟨rfl, rfl⟩ := And.intro h26.1.symm h26.2.symm
  change PP mX6_check 29 _ [Value.null] _ _
  refine pp_astore dX6_check_29 (by first | exact isRf_r | exact isRf_va | exact isRf_n) (by decide) (ls1_5 (nl1 rfl)) (q := 31) rfl ?_
  refine pp_aload dX6_check_31 rfl (by first | exact isRf_r | exact isRf_va | exact isRf_n) (q := 33) rfl ?_
  refine pp_ifnonnull_n dX6_check_33 (q := 36) rfl ?_
  refine pp_aload_n dX6_check_36 rfl isRf_r (q := 37) rfl ?_
  refine pp_bipush dX6_check_37 cb_m2 (q := 39) rfl ?_
  refine ps_callVi dX6_check_39 lk_X6_86 (by exact hr) (by rfl) (by rfl) (by rfl) (c_rf2 (by exact hr)) (by rfl) (by exact Nat.le_of_ble_eq_true rfl) (by decide) (by decide) (by exact Nat.le_of_ble_eq_true rfl) (q := 42) rfl (fun r39 g39 h39 => ?_)
  obtain ⟨rfl, rfl⟩ := And.intro h39.1.symm h39.2.symm
  refine ri_ret dX6_check_42 rfl rfl ?_
  exact QR.no (k := 2) (by unfold qCheck; rw [cIf_t ⟨⟨i, hi, rfl⟩, ⟨j, hj, rfl⟩⟩]; exact cIf_f (fun q => hd (mdX_i hi q))) ⟨⟨by omega, by omega⟩, by omega⟩ rfl rfl
set_option maxRecDepth 20000 in
set_option maxHeartbeats 4000000 in
theorem c_check_ok {ad : Nm → Nat} {g : Sg} {A : AW} {i j : Nat} {kind term : Int32} {Y : List Int32} (hr : al g (0, 0, 0)) (hA : RW g 0 A) (hR : RY g Y) (hlt : okLt (aB A)) (hi : i < 64) (hj : j < 64) (hd : mdA A i) : PS mX6_check 0 (ent mX6_check [.ref (ad (0, 0, 0)), .int (nI i), .int (nI j), .int kind, .int term]) [] ad g (Ri (fun v g' => QR g (qCheck A Y (nI i) (nI j) kind term) v g')) := by
  have hW := hA.1
  have hM := hA.m hi hd
  show PP mX6_check 0 [some (.ref (ad (0, 0, 0))), some (.int (nI i)), some (.int (nI j)), some (.int kind), some (.int term), none] [] (Rel ad g) _
  refine pp_iload_n dX6_check_0 rfl (q := 1) rfl ?_
  refine ps_callSi dX6_check_1 lk_X6_171 (by rfl) (c_isMem hi) (by rfl) (by exact Nat.le_of_ble_eq_true rfl) (by decide) (by decide) (by exact Nat.le_of_ble_eq_true rfl) (q := 4) rfl (fun r1 g1 h1 => ?_)
  obtain ⟨rfl, rfl⟩ := And.intro h1.1.symm h1.2.symm
  refine pp_if_eq (tgt := 14) dX6_check_4 (by decide) (q := 7) rfl (fun c4 => absurd c4 nI1_ne) (fun c4 => ?_)
  refine pp_iload_n dX6_check_7 rfl (q := 8) rfl ?_
  refine ps_callSi dX6_check_8 lk_X6_171 (by rfl) (c_isMem hj) (by rfl) (by exact Nat.le_of_ble_eq_true rfl) (by decide) (by decide) (by exact Nat.le_of_ble_eq_true rfl) (q := 11) rfl (fun r8 g8 h8 => ?_)
  obtain ⟨rfl, rfl⟩ := And.intro h8.1.symm h8.2.symm
  refine pp_if_ne (tgt := 21) dX6_check_11 (by decide) (q := 14) rfl (fun c11 => ?_) (fun c11 => absurd c11 nI1_ne)
  refine pp_aload_n dX6_check_21 rfl isRf_r (q := 22) rfl ?_
  refine ps_get dX6_check_22 fl_X6_10 hr rfl rfl (q := 25) rfl ?_
  refine pp_iload_n dX6_check_25 rfl (q := 26) rfl ?_
  refine ps_callVr dX6_check_26 lk_X6_107 (by exact hW) (by rfl) (by rfl) (by rfl) (c_memAt hA hi hd) (by rfl) (by exact Nat.le_of_ble_eq_true rfl) (by decide) (by decide) (by exact Nat.le_of_ble_eq_true rfl) (q := 29) rfl (fun r26 g26 h26 => ?_)
  obtain ⟨rfl, rfl⟩ := And.intro h26.1.symm h26.2.symm
  change PP mX6_check 29 _ [Value.ref (ad (30, 0, i))] _ _
  refine pp_astore dX6_check_29 isRf_r (by decide) (ls1_5 (nl1 rfl)) (q := 31) rfl ?_
  refine pp_aload dX6_check_31 rfl isRf_r (q := 33) rfl ?_
  refine pp_ifnonnull_r (tgt := 43) dX6_check_33 (by decide) ?_
  refine pp_aload_n dX6_check_43 rfl isRf_r (q := 44) rfl ?_
  refine ps_get dX6_check_44 fl_X6_26 hr rfl rfl (q := 47) rfl ?_
  refine ps_get dX6_check_47 fl_X6_181 hr rfl rfl (q := 50) rfl ?_
  rw [hR.2.1]
  refine pp_if_ne (tgt := 71) dX6_check_50 (by decide) (q := 53) rfl (fun c50 => ?_) (fun c50 => ?_)
  · have hY : ¬ Y = [] := fun e => c50 (by rw [e]; rfl)
    refine pp_aload_n dX6_check_71 rfl isRf_r (q := 72) rfl ?_
    refine ps_get dX6_check_72 fl_X6_26 hr rfl rfl (q := 75) rfl ?_
    refine pp_aload_n dX6_check_75 rfl isRf_r (q := 76) rfl ?_
    refine ps_get dX6_check_76 fl_X6_10 hr rfl rfl (q := 79) rfl ?_
    refine ps_get dX6_check_79 fl_X6_57 hW rfl rfl (q := 82) rfl ?_
    refine pp_iload_n dX6_check_82 rfl (q := 83) rfl ?_
    refine pp_iload_n dX6_check_83 rfl (q := 84) rfl ?_
    refine pp_iload_n dX6_check_84 rfl (q := 85) rfl ?_
    refine pp_iload dX6_check_85 rfl (q := 87) rfl ?_
    refine ps_callVi dX6_check_87 lk_X6_189 (by exact hr) (by rfl) (by rfl) (by rfl) (c_stands (by exact hW) hA.2.1 hR hlt) (by rfl) (by exact Nat.le_of_ble_eq_true rfl) (by decide) (by decide) (by exact Nat.le_of_ble_eq_true rfl) (q := 90) rfl (fun r87 g87 h87 => ?_)
    obtain ⟨hb87, rfl⟩ := And.intro h87.1 h87.2.symm
    refine pp_if_eq (tgt := 97) dX6_check_90 (by decide) (q := 93) rfl (fun c90 => ?_) (fun c90 => ?_)
    · have hc := fun q => isB_f hb87 c90 ((chP_st hY).mp q)
      refine pp_iconst dX6_check_97 ci_0 (q := 98) rfl ?_
      refine ri_ret dX6_check_98 rfl rfl ?_
      first | exact QR.yes (by unfold qCheck; rw [cIf_t ⟨⟨i, hi, rfl⟩, ⟨j, hj, rfl⟩⟩, cIf_t ⟨i, hi, rfl, hd⟩, cIf_t hc]) rfl rfl | exact QR.yes (by unfold qCheck; rw [cIf_t ⟨⟨i, hi, rfl⟩, ⟨j, hj, rfl⟩⟩, cIf_t ⟨i, hi, rfl, hd⟩, cIf_f hc]) rfl rfl
    · have hc := (chP_st (m := nI i) (x := nI j) (kind := kind) (term := term) (A := A) hY).mpr (isB_t hb87 c90)
      refine pp_iconst dX6_check_93 ci_1 (q := 94) rfl ?_
      refine pp_goto (tgt := 98) dX6_check_94 (by decide) ?_
      refine ri_ret dX6_check_98 rfl rfl ?_
      first | exact QR.yes (by unfold qCheck; rw [cIf_t ⟨⟨i, hi, rfl⟩, ⟨j, hj, rfl⟩⟩, cIf_t ⟨i, hi, rfl, hd⟩, cIf_t hc]) rfl rfl | exact QR.yes (by unfold qCheck; rw [cIf_t ⟨⟨i, hi, rfl⟩, ⟨j, hj, rfl⟩⟩, cIf_t ⟨i, hi, rfl, hd⟩, cIf_f hc]) rfl rfl
  · have hY : Y = [] := List.eq_nil_of_length_eq_zero (eqT (b := 0) c50 (by have := hR.2.2; omega) (by omega))
    subst hY
    refine pp_aload dX6_check_53 rfl isRf_r (q := 55) rfl ?_
    refine pp_iload_n dX6_check_55 rfl (q := 56) rfl ?_
    refine pp_iload_n dX6_check_56 rfl (q := 57) rfl ?_
    refine pp_iload dX6_check_57 rfl (q := 59) rfl ?_
    refine ps_callVi dX6_check_59 lk_X6_185 (by exact (hA.m hi hd).1) (by rfl) (by rfl) (by rfl) (c_saysItself hM.1 hj) (by rfl) (by exact Nat.le_of_ble_eq_true rfl) (by decide) (by decide) (by exact Nat.le_of_ble_eq_true rfl) (q := 62) rfl (fun r59 g59 h59 => ?_)
    obtain ⟨hb59, rfl⟩ := And.intro h59.1 h59.2.symm
    rw [hM.ar (k := 31) (by omega) (by omega), hM.ar (k := 32) (by omega) (by omega), hM.ar (k := 35) (by omega) (by omega)] at hb59
    have e59 : chP A [] (nI i) (nI j) kind term ↔ (¬ (A.1 i).2.2 31 j = 0 ∧ (A.1 i).2.2 31 j = kind ∧ (A.1 i).2.2 32 j = term ∧ (A.1 i).2.2 35 j = -1) := by unfold chP; rw [cl_nI (by omega : i < 2 ^ 31), cl_nI (by omega : j < 2 ^ 31)]
    refine pp_if_eq (tgt := 69) dX6_check_62 (by decide) (q := 65) rfl (fun c62 => ?_) (fun c62 => ?_)
    · have hc := fun q => isB_f hb59 c62 (e59.mp q)
      refine pp_iconst dX6_check_69 ci_0 (q := 70) rfl ?_
      refine ri_ret dX6_check_70 rfl rfl ?_
      first | exact QR.yes (by unfold qCheck; rw [cIf_t ⟨⟨i, hi, rfl⟩, ⟨j, hj, rfl⟩⟩, cIf_t ⟨i, hi, rfl, hd⟩, cIf_t hc]) rfl rfl | exact QR.yes (by unfold qCheck; rw [cIf_t ⟨⟨i, hi, rfl⟩, ⟨j, hj, rfl⟩⟩, cIf_t ⟨i, hi, rfl, hd⟩, cIf_f hc]) rfl rfl
    · have hc := e59.mpr (isB_t hb59 c62)
      refine pp_iconst dX6_check_65 ci_1 (q := 66) rfl ?_
      refine pp_goto (tgt := 70) dX6_check_66 (by decide) ?_
      refine ri_ret dX6_check_70 rfl rfl ?_
      first | exact QR.yes (by unfold qCheck; rw [cIf_t ⟨⟨i, hi, rfl⟩, ⟨j, hj, rfl⟩⟩, cIf_t ⟨i, hi, rfl, hd⟩, cIf_t hc]) rfl rfl | exact QR.yes (by unfold qCheck; rw [cIf_t ⟨⟨i, hi, rfl⟩, ⟨j, hj, rfl⟩⟩, cIf_t ⟨i, hi, rfl, hd⟩, cIf_f hc]) rfl rfl
theorem c_check {ad : Nm → Nat} {g : Sg} {A : AW} {m x kind term : Int32} {Y : List Int32} (hr : al g (0, 0, 0)) (hA : RW g 0 A) (hR : RY g Y) (hlt : okLt (aB A)) : PS mX6_check 0 (ent mX6_check [.ref (ad (0, 0, 0)), .int m, .int x, .int kind, .int term]) [] ad g (Ri (fun v g' => QR g (qCheck A Y m x kind term) v g')) := by
  by_cases h : isM m ∧ isM x
  · obtain ⟨⟨i, hi, rfl⟩, ⟨j, hj, rfl⟩⟩ := h
    by_cases hd : mdA A i
    · exact c_check_ok hr hA hR hlt hi hj hd
    · exact c_check_m hr hA hi hj hd
  · exact c_check_b hr hA h
set_option maxRecDepth 20000 in
set_option maxHeartbeats 4000000 in
theorem c_again {ad : Nm → Nat} {g : Sg} (hr : al g (0, 0, 0)) : PS mX6_again 0 (ent mX6_again [.ref (ad (0, 0, 0))]) [] ad g (Ri (fun v g' => v = gI g (1, 0, 0) 1 ∧ g' = sI g (1, 0, 0) 1 (-7))) := by
  show PP mX6_again 0 [some (.ref (ad (0, 0, 0)))] [] (Rel ad g) _
  refine pp_aload_n dX6_again_0 rfl isRf_r (q := 1) rfl ?_
  refine ps_get dX6_again_1 fl_X6_19 hr rfl rfl (q := 4) rfl ?_
  refine ps_callVi dX6_again_4 lk_X6_215 (by exact hr) (by rfl) (by rfl) (by rfl) (c_throw (by exact hr)) (by rfl) (by exact Nat.le_of_ble_eq_true rfl) (by decide) (by decide) (by exact Nat.le_of_ble_eq_true rfl) (q := 7) rfl (fun r4 g4 h4 => ?_)
  obtain ⟨rfl, rfl⟩ := And.intro h4.1.symm h4.2.symm
  refine ri_ret dX6_again_7 rfl rfl ?_
  exact ⟨rfl, rfl⟩
set_option maxRecDepth 20000 in
set_option maxHeartbeats 4000000 in
theorem c_settled {ad : Nm → Nat} {g : Sg} {v : Int32} (hr : al g (0, 0, 0)) (hv : (-1 : Int32) ≤ v) : PS mX6_settled 0 (ent mX6_settled [.ref (ad (0, 0, 0)), .int v]) [] ad g (Ri (fun r g' => r = v ∧ g' = g)) := by
  show PP mX6_settled 0 [some (.ref (ad (0, 0, 0))), some (.int v)] [] (Rel ad g) _
  refine pp_iload_n dX6_settled_0 rfl (q := 1) rfl ?_
  refine pp_iconst dX6_settled_1 ci_m1 (q := 2) rfl ?_
  refine pp_icmp_ge (tgt := 13) dX6_settled_2 (by decide) (q := 5) rfl (fun c2 => ?_) (fun c2 => absurd hv c2)
  refine pp_iload_n dX6_settled_13 rfl (q := 14) rfl ?_
  refine ri_ret dX6_settled_14 rfl rfl ?_
  exact ⟨rfl, rfl⟩
set_option maxRecDepth 20000 in
set_option maxHeartbeats 4000000 in
theorem c_settled_no {ad : Nm → Nat} {g : Sg} {k : Nat} (hr : al g (0, 0, 0)) (hk : isW k) : PS mX6_settled 0 (ent mX6_settled [.ref (ad (0, 0, 0)), .int (- nI k)]) [] ad g (Ri (fun r g' => r = - nI k ∧ g' = keG g k (- nI k))) := by
  have hn : ¬ (-1 : Int32) ≤ - nI k := by
    have e : ∀ k : Fin 11, k.val < 2 ∨ ¬ (-1 : Int32) ≤ - nI k.val := by decide
    exact (e ⟨k, by have := hk.2; omega⟩).resolve_left (fun q => by have : k < 2 := q; have := hk.1; omega)
  show PP mX6_settled 0 [some (.ref (ad (0, 0, 0))), some (.int (- nI k))] [] (Rel ad g) _
  refine pp_iload_n dX6_settled_0 rfl (q := 1) rfl ?_
  refine pp_iconst dX6_settled_1 ci_m1 (q := 2) rfl ?_
  refine pp_icmp_ge (tgt := 13) dX6_settled_2 (by decide) (q := 5) rfl (fun c2 => absurd c2 hn) (fun c2 => ?_)
  refine pp_aload_n dX6_settled_5 rfl isRf_r (q := 6) rfl ?_
  refine pp_iload_n dX6_settled_6 rfl (q := 7) rfl ?_
  refine ps_callVi dX6_settled_7 lk_X6_86 (by exact hr) (by rfl) (by rfl) (by rfl) (c_refused (by exact hr) hk) (by rfl) (by exact Nat.le_of_ble_eq_true rfl) (by decide) (by decide) (by exact Nat.le_of_ble_eq_true rfl) (q := 10) rfl (fun r7 g7 h7 => ?_)
  obtain ⟨rfl, rfl⟩ := And.intro h7.1.symm h7.2.symm
  refine pp_goto (tgt := 14) dX6_settled_10 (by decide) ?_
  refine ri_ret dX6_settled_14 rfl rfl ?_
  exact ⟨rfl, rfl⟩
