/-! what the calls answer: a refusal's number, or an answer -/
def inR (x : Int32) (n : Nat) : Prop := ∃ v, v < n ∧ x = nI v
theorem inR_out {x : Int32} {b : Nat} (hb : b + 1 < 2 ^ 31) (h : x.toInt < ((0 : Nat) : Int) ∨ (b : Int) < x.toInt) : ¬ inR x (b + 1) := fun ⟨v, h1, e⟩ => by
  subst e
  rw [nI_toInt (by omega)] at h
  omega
theorem inR_no {x : Int32} {n : Nat} (hn : n < 2 ^ 31) (h : x < 0 ∨ nI n ≤ x) : ¬ inR x n := fun ⟨v, h1, e⟩ => by
  subst e
  rcases h with h | h
  · exact nI_pos (by omega) h
  · have := leT h hn (by omega)
    omega
theorem inR_yes {x : Int32} {n : Nat} (hn : n < 2 ^ 31) (h0 : ¬ x < 0) (h : x < nI n) : inR x n := nI_ex h0 h hn
theorem lt_of_le {x : Int32} {n : Nat} (hn : n + 1 < 2 ^ 31) (h : x ≤ nI n) : x < nI (n + 1) := by
  rw [Int32.le_iff_toInt_le, nI_toInt (by omega)] at h
  rw [Int32.lt_iff_toInt_lt, nI_toInt (by omega)]
  omega
theorem not_le_n {x : Int32} {n : Nat} (hn : n + 1 < 2 ^ 31) (h : ¬ x ≤ nI n) : nI (n + 1) ≤ x := by
  rw [Int32.le_iff_toInt_le, nI_toInt (by omega)] at h
  rw [Int32.le_iff_toInt_le, nI_toInt (by omega)]
  omega
theorem cl_of {x : Int32} {n : Nat} (h : inR x n) (hn : n < 2 ^ 31) : cl x < n ∧ x = nI (cl x) := by
  obtain ⟨v, h1, rfl⟩ := h
  rw [cl_nI (by omega)]
  exact ⟨h1, rfl⟩
def QR (g : Sg) (q : Nat ⊕ Int32) (v : Int32) (g' : Sg) : Prop := match q with
  | .inl k => (isW k ∧ k ≠ 7) ∧ v = - nI k ∧ g' = keG g k (- nI k)
  | .inr x => v = x ∧ g' = g
theorem QR.no {g : Sg} {k : Nat} {v : Int32} {g' : Sg} {q : Nat ⊕ Int32} (hq : q = .inl k) (hk : isW k ∧ k ≠ 7) (hv : v = - nI k) (hg : g' = keG g k (- nI k)) : QR g q v g' := by
  subst hq
  exact ⟨hk, hv, hg⟩
theorem QR.yes {g : Sg} {x v : Int32} {g' : Sg} {q : Nat ⊕ Int32} (hq : q = .inr x) (hv : v = x) (hg : g' = g) : QR g q v g' := by
  subst hq
  exact ⟨hv, hg⟩
def ltV (B : Bk) (v : Nat) : Int32 := match v with
  | 0 => nI (bL B)
  | 1 => nI (bL B) - nI (bD B) - nI (bX B)
  | 2 => nI (bD B)
  | 3 => nI (bX B)
  | _ => nI (bP B)
noncomputable def qLetters (B : Bk) (what : Int32) : Nat ⊕ Int32 := cIf (inR what 5) (.inr (ltV B (cl what))) (.inl 9)
noncomputable def qUnder (B : Bk) (k : Int32) : Nat ⊕ Int32 := cIf (k < 0) (.inl 3) (.inr (oI ((sel (usel B) (bL B))[cl k]?)))
noncomputable def qLetter (B : Bk) (l what : Int32) : Nat ⊕ Int32 := cIf (inR l (bL B)) (cIf (inR what 7) (.inr (bl B (cl l) (cl what))) (.inl 9)) (.inl 3)
noncomputable def qCarr (B : Bk) (l i what : Int32) : Nat ⊕ Int32 := cIf (inR l (bL B) ∧ inR i (cl (bl B (cl l) 4))) (cIf (inR what 4) (.inr (bp B (cl (bl B (cl l) 7) + cl i) (cl what))) (.inl 9)) (.inl 3)
noncomputable def qTable (T : Nat → Int32) (i : Int32) : Nat ⊕ Int32 := cIf (inR i 16) (.inr (T (cl i))) (.inl 3)
noncomputable def qAgree (A : AW) : Nat ⊕ Int32 := .inr (match apO A with | none => nI 1 | some _ => nI 0)
noncomputable def qApart (A : AW) (what : Int32) : Nat ⊕ Int32 := cIf (inR what 3) (.inr (apI what (apO A))) (.inl 9)
noncomputable def qCount (A : AW) (x kind : Int32) : Nat ⊕ Int32 := cIf (isM x) (cIf (inR kind 5) (.inr (nI (sel (cnb A (cl x) kind) 64).length)) (.inl 9)) (.inl 3)
noncomputable def qWayAt (Y : List Int32) (i : Int32) : Nat ⊕ Int32 := cIf (inR i Y.length) (.inr (Y.getD (cl i) 0)) (.inl 3)
noncomputable def qTrace (A : AW) (what : Int32) : Nat ⊕ Int32 := cIf (inR what 12) (.inr (A.2.2.2.1 (cl what))) (.inl 9)
noncomputable def qStatus (n : Nat) (cn : Nat → Int32) (x : Int32) : Nat ⊕ Int32 := cIf (x = 0) (.inr (nI n)) (cIf (∃ k, isW k ∧ x = - nI k) (.inr (cn (cl (-x)))) (.inl 9))
set_option maxRecDepth 20000 in
set_option maxHeartbeats 4000000 in
theorem c_refused {ad : Nm → Nat} {g : Sg} {k : Nat} (hr : al g (0, 0, 0)) (hk : isW k) : PS mX6_refused 0 (ent mX6_refused [.ref (ad (0, 0, 0)), .int (- nI k)]) [] ad g (Ri (fun v g' => v = - nI k ∧ g' = keG g k (- nI k))) := by
  show PP mX6_refused 0 [some (.ref (ad (0, 0, 0))), some (.int (- nI k))] [] (Rel ad g) _
  refine pp_aload_n dX6_refused_0 rfl isRf_r (q := 1) rfl ?_
  refine ps_get dX6_refused_1 fl_X6_19 hr rfl rfl (q := 4) rfl ?_
  refine pp_iload_n dX6_refused_4 rfl (q := 5) rfl ?_
  refine ps_callVv dX6_refused_5 lk_X6_221 (by exact hr) (by rfl) (by rfl) (by rfl) (c_keep (by exact hr) hk) (by rfl) (by exact Nat.le_of_ble_eq_true rfl) (by decide) (by decide) (by exact Nat.le_of_ble_eq_true rfl) (q := 8) rfl (fun g5 h5 => ?_)
  have h5 := h5.symm
  subst h5
  refine pp_iload_n dX6_refused_8 rfl (q := 9) rfl ?_
  refine ri_ret dX6_refused_9 rfl rfl ?_
  exact ⟨rfl, rfl⟩
theorem c_rf2 {ad : Nm → Nat} {g : Sg} (hr : al g (0, 0, 0)) : PS mX6_refused 0 (ent mX6_refused [.ref (ad (0, 0, 0)), .int (-2)]) [] ad g (Ri (fun v g' => v = - nI 2 ∧ g' = keG g 2 (- nI 2))) := c_refused (k := 2) hr ⟨by omega, by omega⟩
theorem c_rf3 {ad : Nm → Nat} {g : Sg} (hr : al g (0, 0, 0)) : PS mX6_refused 0 (ent mX6_refused [.ref (ad (0, 0, 0)), .int (-3)]) [] ad g (Ri (fun v g' => v = - nI 3 ∧ g' = keG g 3 (- nI 3))) := c_refused (k := 3) hr ⟨by omega, by omega⟩
theorem c_rf4 {ad : Nm → Nat} {g : Sg} (hr : al g (0, 0, 0)) : PS mX6_refused 0 (ent mX6_refused [.ref (ad (0, 0, 0)), .int (-4)]) [] ad g (Ri (fun v g' => v = - nI 4 ∧ g' = keG g 4 (- nI 4))) := c_refused (k := 4) hr ⟨by omega, by omega⟩
theorem c_rf5 {ad : Nm → Nat} {g : Sg} (hr : al g (0, 0, 0)) : PS mX6_refused 0 (ent mX6_refused [.ref (ad (0, 0, 0)), .int (-5)]) [] ad g (Ri (fun v g' => v = - nI 5 ∧ g' = keG g 5 (- nI 5))) := c_refused (k := 5) hr ⟨by omega, by omega⟩
theorem c_rf6 {ad : Nm → Nat} {g : Sg} (hr : al g (0, 0, 0)) : PS mX6_refused 0 (ent mX6_refused [.ref (ad (0, 0, 0)), .int (-6)]) [] ad g (Ri (fun v g' => v = - nI 6 ∧ g' = keG g 6 (- nI 6))) := c_refused (k := 6) hr ⟨by omega, by omega⟩
theorem c_rf8 {ad : Nm → Nat} {g : Sg} (hr : al g (0, 0, 0)) : PS mX6_refused 0 (ent mX6_refused [.ref (ad (0, 0, 0)), .int (-8)]) [] ad g (Ri (fun v g' => v = - nI 8 ∧ g' = keG g 8 (- nI 8))) := c_refused (k := 8) hr ⟨by omega, by omega⟩
theorem c_rf9 {ad : Nm → Nat} {g : Sg} (hr : al g (0, 0, 0)) : PS mX6_refused 0 (ent mX6_refused [.ref (ad (0, 0, 0)), .int (-9)]) [] ad g (Ri (fun v g' => v = - nI 9 ∧ g' = keG g 9 (- nI 9))) := c_refused (k := 9) hr ⟨by omega, by omega⟩
set_option maxRecDepth 20000 in
set_option maxHeartbeats 4000000 in
theorem c_letters {ad : Nm → Nat} {g : Sg} {A : AW} {what : Int32} (hr : al g (0, 0, 0)) (hA : RW g 0 A)  : PS mX6_letters 0 (ent mX6_letters [.ref (ad (0, 0, 0)), .int what]) [] ad g (Ri (fun v g' => QR g (qLetters (aB A) what) v g')) := by
  have hW := hA.1
  show PP mX6_letters 0 [some (.ref (ad (0, 0, 0))), some (.int what), none] [] (Rel ad g) _
  refine pp_aload_n dX6_letters_0 rfl isRf_r (q := 1) rfl ?_
  refine ps_get dX6_letters_1 fl_X6_10 hr rfl rfl (q := 4) rfl ?_
  refine ps_get dX6_letters_4 fl_X6_57 hW rfl rfl (q := 7) rfl ?_
  refine pp_astore_n dX6_letters_7 isRf_r (by decide) (ls1_2 (nl1 rfl)) (q := 8) rfl ?_
  refine pp_iload_n dX6_letters_8 rfl (q := 9) rfl ?_
  rcases sw_cases what 0 4 (by decide) with ⟨v9, hv9a, hv9b, hv9⟩ | hv9
  · obtain rfl | rfl | rfl | rfl | rfl : v9 = 0 ∨ v9 = 1 ∨ v9 = 2 ∨ v9 = 3 ∨ v9 = 4 := by omega
    · refine pp_tswK (v := 0) (tgt := 44) dX6_letters_9 hv9 (by decide) (by decide) (by decide) rfl (by decide) ?_
      refine pp_aload_n dX6_letters_44 rfl isRf_r (q := 45) rfl ?_
      refine ps_callVi dX6_letters_45 lk_X6_61 (by exact hW) (by rfl) (by rfl) (by rfl) (c_sent (by exact hW) hA.2.1) (by rfl) (by exact Nat.le_of_ble_eq_true rfl) (by decide) (by decide) (by exact Nat.le_of_ble_eq_true rfl) (q := 48) rfl (fun r45 g45 h45 => ?_)
      obtain ⟨rfl, rfl⟩ := And.intro h45.1.symm h45.2.symm
      refine ri_ret dX6_letters_48 rfl rfl ?_
      refine QR.yes (x := ltV (aB A) 0) ?_ (by first | rfl | exact rfl) rfl
      unfold qLetters
      rw [hv9, cIf_t ⟨0, by omega, rfl⟩, cl_nI (by omega)]
    · refine pp_tswK (v := 1) (tgt := 49) dX6_letters_9 hv9 (by decide) (by decide) (by decide) rfl (by decide) ?_
      refine pp_aload_n dX6_letters_49 rfl isRf_r (q := 50) rfl ?_
      refine ps_callVi dX6_letters_50 lk_X6_67 (by exact hW) (by rfl) (by rfl) (by rfl) (c_still (by exact hW) hA.2.1) (by rfl) (by exact Nat.le_of_ble_eq_true rfl) (by decide) (by decide) (by exact Nat.le_of_ble_eq_true rfl) (q := 53) rfl (fun r50 g50 h50 => ?_)
      obtain ⟨rfl, rfl⟩ := And.intro h50.1.symm h50.2.symm
      refine ri_ret dX6_letters_53 rfl rfl ?_
      refine QR.yes (x := ltV (aB A) 1) ?_ (by first | rfl | exact rfl) rfl
      unfold qLetters
      rw [hv9, cIf_t ⟨1, by omega, rfl⟩, cl_nI (by omega)]
    · refine pp_tswK (v := 2) (tgt := 54) dX6_letters_9 hv9 (by decide) (by decide) (by decide) rfl (by decide) ?_
      refine pp_aload_n dX6_letters_54 rfl isRf_r (q := 55) rfl ?_
      refine ps_get dX6_letters_55 fl_X6_70 hW rfl rfl (q := 58) rfl ?_
      refine ri_ret dX6_letters_58 rfl rfl ?_
      refine QR.yes (x := ltV (aB A) 2) ?_ (by first | rfl | exact hA.2.1.2.2.1) rfl
      unfold qLetters
      rw [hv9, cIf_t ⟨2, by omega, rfl⟩, cl_nI (by omega)]
    · refine pp_tswK (v := 3) (tgt := 59) dX6_letters_9 hv9 (by decide) (by decide) (by decide) rfl (by decide) ?_
      refine pp_aload_n dX6_letters_59 rfl isRf_r (q := 60) rfl ?_
      refine ps_get dX6_letters_60 fl_X6_74 hW rfl rfl (q := 63) rfl ?_
      refine ri_ret dX6_letters_63 rfl rfl ?_
      refine QR.yes (x := ltV (aB A) 3) ?_ (by first | rfl | exact hA.2.1.2.2.2.1) rfl
      unfold qLetters
      rw [hv9, cIf_t ⟨3, by omega, rfl⟩, cl_nI (by omega)]
    · refine pp_tswK (v := 4) (tgt := 64) dX6_letters_9 hv9 (by decide) (by decide) (by decide) rfl (by decide) ?_
      refine pp_aload_n dX6_letters_64 rfl isRf_r (q := 65) rfl ?_
      refine ps_get dX6_letters_65 fl_X6_77 hW rfl rfl (q := 68) rfl ?_
      refine ps_get dX6_letters_68 fl_X6_81 hW rfl rfl (q := 71) rfl ?_
      refine ri_ret dX6_letters_71 rfl rfl ?_
      refine QR.yes (x := ltV (aB A) 4) ?_ (by first | rfl | exact hA.2.1.2.1.2.1) rfl
      unfold qLetters
      rw [hv9, cIf_t ⟨4, by omega, rfl⟩, cl_nI (by omega)]
  · refine pp_tswOut (tgt := 72) dX6_letters_9 hv9 (by decide) ?_
    refine pp_aload_n dX6_letters_72 rfl isRf_r (q := 73) rfl ?_
    refine pp_bipush dX6_letters_73 cb_m9 (q := 75) rfl ?_
    refine ps_callVi dX6_letters_75 lk_X6_86 (by exact hr) (by rfl) (by rfl) (by rfl) (c_rf9 (by exact hr)) (by rfl) (by exact Nat.le_of_ble_eq_true rfl) (by decide) (by decide) (by exact Nat.le_of_ble_eq_true rfl) (q := 78) rfl (fun r75 g75 h75 => ?_)
    obtain ⟨rfl, rfl⟩ := And.intro h75.1.symm h75.2.symm
    refine ri_ret dX6_letters_78 rfl rfl ?_
    exact QR.no (k := 9) (by unfold qLetters; exact cIf_f (inR_out (by omega) hv9)) ⟨⟨by omega, by omega⟩, by omega⟩ rfl rfl
set_option maxRecDepth 20000 in
set_option maxHeartbeats 4000000 in
theorem c_under {ad : Nm → Nat} {g : Sg} {A : AW} {k : Int32} (hr : al g (0, 0, 0)) (hA : RW g 0 A)  : PS mX6_underWay 0 (ent mX6_underWay [.ref (ad (0, 0, 0)), .int k]) [] ad g (Ri (fun v g' => QR g (qUnder (aB A) k) v g')) := by
  have hW := hA.1
  show PP mX6_underWay 0 [some (.ref (ad (0, 0, 0))), some (.int k)] [] (Rel ad g) _
  refine pp_iload_n dX6_underWay_0 rfl (q := 1) rfl ?_
  refine pp_if_ge (tgt := 11) dX6_underWay_1 (by decide) (q := 4) rfl (fun c1 => ?_) (fun c1 => ?_)
  · obtain ⟨n, hn, rfl⟩ := nI_of (Int32.not_lt.mpr c1)
    refine pp_aload_n dX6_underWay_11 rfl isRf_r (q := 12) rfl ?_
    refine ps_get dX6_underWay_12 fl_X6_10 hr rfl rfl (q := 15) rfl ?_
    refine ps_get dX6_underWay_15 fl_X6_57 hW rfl rfl (q := 18) rfl ?_
    refine pp_iload_n dX6_underWay_18 rfl (q := 19) rfl ?_
    refine ps_callVi dX6_underWay_19 lk_X6_89 (by exact hW) (by rfl) (by rfl) (by rfl) (c_nth (by exact hW) hA.2.1 hn) (by rfl) (by exact Nat.le_of_ble_eq_true rfl) (by decide) (by decide) (by exact Nat.le_of_ble_eq_true rfl) (q := 22) rfl (fun r19 g19 h19 => ?_)
    obtain ⟨rfl, rfl⟩ := And.intro h19.1.symm h19.2.symm
    refine ri_ret dX6_underWay_22 rfl rfl ?_
    refine QR.yes ?_ rfl rfl
    unfold qUnder
    rw [cIf_f (nI_pos hn), cl_nI hn]
  · refine pp_aload_n dX6_underWay_4 rfl isRf_r (q := 5) rfl ?_
    refine pp_bipush dX6_underWay_5 cb_m3 (q := 7) rfl ?_
    refine ps_callVi dX6_underWay_7 lk_X6_86 (by exact hr) (by rfl) (by rfl) (by rfl) (c_rf3 (by exact hr)) (by rfl) (by exact Nat.le_of_ble_eq_true rfl) (by decide) (by decide) (by exact Nat.le_of_ble_eq_true rfl) (q := 10) rfl (fun r7 g7 h7 => ?_)
    obtain ⟨rfl, rfl⟩ := And.intro h7.1.symm h7.2.symm
    refine ri_ret dX6_underWay_10 rfl rfl ?_
    exact QR.no (k := 3) (by unfold qUnder; exact cIf_t (Int32.not_le.mp c1)) ⟨⟨by omega, by omega⟩, by omega⟩ rfl rfl
set_option maxRecDepth 20000 in
set_option maxHeartbeats 4000000 in
theorem c_letter {ad : Nm → Nat} {g : Sg} {A : AW} {l what : Int32} (hr : al g (0, 0, 0)) (hA : RW g 0 A)  : PS mX6_letter 0 (ent mX6_letter [.ref (ad (0, 0, 0)), .int l, .int what]) [] ad g (Ri (fun v g' => QR g (qLetter (aB A) l what) v g')) := by
  have hW := hA.1
  show PP mX6_letter 0 [some (.ref (ad (0, 0, 0))), some (.int l), some (.int what)] [] (Rel ad g) _
  refine pp_aload_n dX6_letter_0 rfl isRf_r (q := 1) rfl ?_
  refine ps_get dX6_letter_1 fl_X6_10 hr rfl rfl (q := 4) rfl ?_
  refine ps_get dX6_letter_4 fl_X6_57 hW rfl rfl (q := 7) rfl ?_
  refine pp_iload_n dX6_letter_7 rfl (q := 8) rfl ?_
  refine ps_callVi dX6_letter_8 lk_X6_92 (by exact hW) (by rfl) (by rfl) (by rfl) (c_hasLetter (by exact hW) hA.2.1) (by rfl) (by exact Nat.le_of_ble_eq_true rfl) (by decide) (by decide) (by exact Nat.le_of_ble_eq_true rfl) (q := 11) rfl (fun r8 g8 h8 => ?_)
  obtain ⟨hb8, rfl⟩ := And.intro h8.1 h8.2.symm
  refine pp_if_ne (tgt := 21) dX6_letter_11 (by decide) (q := 14) rfl (fun c11 => ?_) (fun c11 => ?_)
  · obtain ⟨l0, hl, rfl⟩ := isB_t hb8 c11
    refine pp_iload_n dX6_letter_21 rfl (q := 22) rfl ?_
    refine pp_if_lt (tgt := 31) dX6_letter_22 (by decide) (q := 25) rfl (fun c22 => ?_) (fun c22 => ?_)
    · have ho : ¬ inR what 7 := inR_no (by omega) (Or.inl c22)
      refine pp_aload_n dX6_letter_31 rfl isRf_r (q := 32) rfl ?_
      refine pp_bipush dX6_letter_32 cb_m9 (q := 34) rfl ?_
      refine ps_callVi dX6_letter_34 lk_X6_86 (by exact hr) (by rfl) (by rfl) (by rfl) (c_rf9 (by exact hr)) (by rfl) (by exact Nat.le_of_ble_eq_true rfl) (by decide) (by decide) (by exact Nat.le_of_ble_eq_true rfl) (q := 37) rfl (fun r34 g34 h34 => ?_)
      obtain ⟨rfl, rfl⟩ := And.intro h34.1.symm h34.2.symm
      refine ri_ret dX6_letter_37 rfl rfl ?_
      exact QR.no (k := 9) (by unfold qLetter; rw [cIf_t ⟨l0, hl, rfl⟩]; exact cIf_f ho) ⟨⟨by omega, by omega⟩, by omega⟩ rfl rfl
    · refine pp_iload_n dX6_letter_25 rfl (q := 26) rfl ?_
      refine pp_bipush dX6_letter_26 cb_6 (q := 28) rfl ?_
      refine pp_icmp_le (tgt := 38) dX6_letter_28 (by decide) (q := 31) rfl (fun c28 => ?_) (fun c28 => ?_)
      · obtain ⟨wv, hwv, rfl⟩ := inR_yes (n := 7) (by omega) c22 (lt_of_le (by omega) c28)
        refine pp_aload_n dX6_letter_38 rfl isRf_r (q := 39) rfl ?_
        refine ps_get dX6_letter_39 fl_X6_10 hr rfl rfl (q := 42) rfl ?_
        refine ps_get dX6_letter_42 fl_X6_57 hW rfl rfl (q := 45) rfl ?_
        refine pp_iload_n dX6_letter_45 rfl (q := 46) rfl ?_
        refine pp_iload_n dX6_letter_46 rfl (q := 47) rfl ?_
        refine ps_callVi dX6_letter_47 lk_X6_96 (by exact hW) (by rfl) (by rfl) (by rfl) (c_ofLetter (by exact hW) hA.2.1 hl (by omega)) (by rfl) (by exact Nat.le_of_ble_eq_true rfl) (by decide) (by decide) (by exact Nat.le_of_ble_eq_true rfl) (q := 50) rfl (fun r47 g47 h47 => ?_)
        obtain ⟨rfl, rfl⟩ := And.intro h47.1.symm h47.2.symm
        refine ri_ret dX6_letter_50 rfl rfl ?_
        refine QR.yes ?_ rfl rfl
        have := hA.2.1.bd
        unfold qLetter
        rw [cIf_t ⟨l0, hl, rfl⟩, cIf_t ⟨wv, hwv, rfl⟩, cl_nI (by omega), cl_nI (by omega)]
      · have ho : ¬ inR what 7 := inR_no (by omega) (Or.inr (not_le_n (by omega) c28))
        refine pp_aload_n dX6_letter_31 rfl isRf_r (q := 32) rfl ?_
        refine pp_bipush dX6_letter_32 cb_m9 (q := 34) rfl ?_
        refine ps_callVi dX6_letter_34 lk_X6_86 (by exact hr) (by rfl) (by rfl) (by rfl) (c_rf9 (by exact hr)) (by rfl) (by exact Nat.le_of_ble_eq_true rfl) (by decide) (by decide) (by exact Nat.le_of_ble_eq_true rfl) (q := 37) rfl (fun r34 g34 h34 => ?_)
        obtain ⟨rfl, rfl⟩ := And.intro h34.1.symm h34.2.symm
        refine ri_ret dX6_letter_37 rfl rfl ?_
        exact QR.no (k := 9) (by unfold qLetter; rw [cIf_t ⟨l0, hl, rfl⟩]; exact cIf_f ho) ⟨⟨by omega, by omega⟩, by omega⟩ rfl rfl
  · have hn := isB_f hb8 c11
    refine pp_aload_n dX6_letter_14 rfl isRf_r (q := 15) rfl ?_
    refine pp_bipush dX6_letter_15 cb_m3 (q := 17) rfl ?_
    refine ps_callVi dX6_letter_17 lk_X6_86 (by exact hr) (by rfl) (by rfl) (by rfl) (c_rf3 (by exact hr)) (by rfl) (by exact Nat.le_of_ble_eq_true rfl) (by decide) (by decide) (by exact Nat.le_of_ble_eq_true rfl) (q := 20) rfl (fun r17 g17 h17 => ?_)
    obtain ⟨rfl, rfl⟩ := And.intro h17.1.symm h17.2.symm
    refine ri_ret dX6_letter_20 rfl rfl ?_
    exact QR.no (k := 3) (by unfold qLetter; exact cIf_f hn) ⟨⟨by omega, by omega⟩, by omega⟩ rfl rfl
set_option maxRecDepth 20000 in
set_option maxHeartbeats 4000000 in
theorem c_carries {ad : Nm → Nat} {g : Sg} {A : AW} {l i what : Int32} (hr : al g (0, 0, 0)) (hA : RW g 0 A) (hlt : okLt (aB A)) : PS mX6_carries 0 (ent mX6_carries [.ref (ad (0, 0, 0)), .int l, .int i, .int what]) [] ad g (Ri (fun v g' => QR g (qCarr (aB A) l i what) v g')) := by
  have hW := hA.1
  show PP mX6_carries 0 [some (.ref (ad (0, 0, 0))), some (.int l), some (.int i), some (.int what), none] [] (Rel ad g) _
  refine pp_aload_n dX6_carries_0 rfl isRf_r (q := 1) rfl ?_
  refine ps_get dX6_carries_1 fl_X6_10 hr rfl rfl (q := 4) rfl ?_
  refine ps_get dX6_carries_4 fl_X6_57 hW rfl rfl (q := 7) rfl ?_
  refine pp_astore dX6_carries_7 isRf_r (by decide) (ls1_4 (nl1 rfl)) (q := 9) rfl ?_
  refine pp_aload dX6_carries_9 rfl isRf_r (q := 11) rfl ?_
  refine pp_iload_n dX6_carries_11 rfl (q := 12) rfl ?_
  refine ps_callVi dX6_carries_12 lk_X6_92 (by exact hW) (by rfl) (by rfl) (by rfl) (c_hasLetter (by exact hW) hA.2.1) (by rfl) (by exact Nat.le_of_ble_eq_true rfl) (by decide) (by decide) (by exact Nat.le_of_ble_eq_true rfl) (q := 15) rfl (fun r12 g12 h12 => ?_)
  obtain ⟨hb8, rfl⟩ := And.intro h12.1 h12.2.symm
  refine pp_if_eq (tgt := 33) dX6_carries_15 (by decide) (q := 18) rfl (fun c15 => ?_) (fun c15 => ?_)
  · have hn : ¬ (inR l (bL (aB A)) ∧ inR i (cl (bl (aB A) (cl l) 4))) := fun q => isB_f hb8 c15 q.1
    refine pp_aload_n dX6_carries_33 rfl isRf_r (q := 34) rfl ?_
    refine pp_bipush dX6_carries_34 cb_m3 (q := 36) rfl ?_
    refine ps_callVi dX6_carries_36 lk_X6_86 (by exact hr) (by rfl) (by rfl) (by rfl) (c_rf3 (by exact hr)) (by rfl) (by exact Nat.le_of_ble_eq_true rfl) (by decide) (by decide) (by exact Nat.le_of_ble_eq_true rfl) (q := 39) rfl (fun r36 g36 h36 => ?_)
    obtain ⟨rfl, rfl⟩ := And.intro h36.1.symm h36.2.symm
    refine ri_ret dX6_carries_39 rfl rfl ?_
    exact QR.no (k := 3) (by unfold qCarr; exact cIf_f hn) ⟨⟨by omega, by omega⟩, by omega⟩ rfl rfl
  · obtain ⟨l0, hl, rfl⟩ := isB_t hb8 c15
    obtain ⟨k, s, hp⟩ := hlt l0 hl
    have hbd := hA.2.1.bd
    have ek : cl (bl (aB A) (cl (nI l0)) 4) = k := by rw [cl_nI (by omega), hp.2.1, cl_nI (by have := hp.2.2.2.2; omega)]
    refine pp_iload_n dX6_carries_18 rfl (q := 19) rfl ?_
    refine pp_if_lt (tgt := 33) dX6_carries_19 (by decide) (q := 22) rfl (fun c19 => ?_) (fun c19 => ?_)
    · have hn : ¬ (inR (nI l0) (bL (aB A)) ∧ inR i (cl (bl (aB A) (cl (nI l0)) 4))) := fun q => inR_no (by have := hp.2.2.2.2; omega) (Or.inl c19) q.2
      refine pp_aload_n dX6_carries_33 rfl isRf_r (q := 34) rfl ?_
      refine pp_bipush dX6_carries_34 cb_m3 (q := 36) rfl ?_
      refine ps_callVi dX6_carries_36 lk_X6_86 (by exact hr) (by rfl) (by rfl) (by rfl) (c_rf3 (by exact hr)) (by rfl) (by exact Nat.le_of_ble_eq_true rfl) (by decide) (by decide) (by exact Nat.le_of_ble_eq_true rfl) (q := 39) rfl (fun r36 g36 h36 => ?_)
      obtain ⟨rfl, rfl⟩ := And.intro h36.1.symm h36.2.symm
      refine ri_ret dX6_carries_39 rfl rfl ?_
      exact QR.no (k := 3) (by unfold qCarr; exact cIf_f hn) ⟨⟨by omega, by omega⟩, by omega⟩ rfl rfl
    · refine pp_iload_n dX6_carries_22 rfl (q := 23) rfl ?_
      refine pp_aload dX6_carries_23 rfl isRf_r (q := 25) rfl ?_
      refine pp_iload_n dX6_carries_25 rfl (q := 26) rfl ?_
      refine pp_iconst dX6_carries_26 ci_4 (q := 27) rfl ?_
      refine ps_callVi dX6_carries_27 lk_X6_96 (by exact hW) (by rfl) (by rfl) (by rfl) (c_ofLetter (c := 4) (by exact hW) hA.2.1 hl (by omega)) (by rfl) (by exact Nat.le_of_ble_eq_true rfl) (by decide) (by decide) (by exact Nat.le_of_ble_eq_true rfl) (q := 30) rfl (fun r27 g27 h27 => ?_)
      obtain ⟨rfl, rfl⟩ := And.intro h27.1.symm h27.2.symm
      rw [hp.2.1]
      refine pp_icmp_lt (tgt := 40) dX6_carries_30 (by decide) (q := 33) rfl (fun c30 => ?_) (fun c30 => ?_)
      · obtain ⟨j, hj, rfl⟩ := inR_yes (by have := hp.2.2.2.2; omega) c19 c30
        refine pp_iload_n dX6_carries_40 rfl (q := 41) rfl ?_
        refine pp_if_lt (tgt := 49) dX6_carries_41 (by decide) (q := 44) rfl (fun c41 => ?_) (fun c41 => ?_)
        · have ho : ¬ inR what 4 := inR_no (by omega) (Or.inl c41)
          refine pp_aload_n dX6_carries_49 rfl isRf_r (q := 50) rfl ?_
          refine pp_bipush dX6_carries_50 cb_m9 (q := 52) rfl ?_
          refine ps_callVi dX6_carries_52 lk_X6_86 (by exact hr) (by rfl) (by rfl) (by rfl) (c_rf9 (by exact hr)) (by rfl) (by exact Nat.le_of_ble_eq_true rfl) (by decide) (by decide) (by exact Nat.le_of_ble_eq_true rfl) (q := 55) rfl (fun r52 g52 h52 => ?_)
          obtain ⟨rfl, rfl⟩ := And.intro h52.1.symm h52.2.symm
          refine ri_ret dX6_carries_55 rfl rfl ?_
          exact QR.no (k := 9) (by unfold qCarr; rw [cIf_t ⟨⟨l0, hl, rfl⟩, by rw [ek]; exact ⟨j, hj, rfl⟩⟩]; exact cIf_f ho) ⟨⟨by omega, by omega⟩, by omega⟩ rfl rfl
        · refine pp_iload_n dX6_carries_44 rfl (q := 45) rfl ?_
          refine pp_iconst dX6_carries_45 ci_3 (q := 46) rfl ?_
          refine pp_icmp_le (tgt := 56) dX6_carries_46 (by decide) (q := 49) rfl (fun c46 => ?_) (fun c46 => ?_)
          · obtain ⟨wv, hwv, rfl⟩ := inR_yes (n := 4) (by omega) c41 (lt_of_le (by omega) c46)
            refine pp_aload dX6_carries_56 rfl isRf_r (q := 58) rfl ?_
            refine pp_iload_n dX6_carries_58 rfl (q := 59) rfl ?_
            refine pp_iload_n dX6_carries_59 rfl (q := 60) rfl ?_
            refine pp_iload_n dX6_carries_60 rfl (q := 61) rfl ?_
            refine ps_callVi dX6_carries_61 lk_X6_100 (by exact hW) (by rfl) (by rfl) (by rfl) (c_ofPiece (by exact hW) hA.2.1 hp hj (by omega)) (by rfl) (by exact Nat.le_of_ble_eq_true rfl) (by decide) (by decide) (by exact Nat.le_of_ble_eq_true rfl) (q := 64) rfl (fun r61 g61 h61 => ?_)
            obtain ⟨rfl, rfl⟩ := And.intro h61.1.symm h61.2.symm
            refine ri_ret dX6_carries_64 rfl rfl ?_
            refine QR.yes ?_ rfl rfl
            have e7 : cl (bl (aB A) (cl (nI l0)) 7) = s := by rw [cl_nI (by omega), hp.2.2.1, cl_nI (by have := hp.2.2.2; omega)]
            unfold qCarr
            rw [cIf_t ⟨⟨l0, hl, rfl⟩, by rw [ek]; exact ⟨j, hj, rfl⟩⟩, cIf_t ⟨wv, hwv, rfl⟩, e7, cl_nI (n := j) (by have := hp.2.2.2.2; omega), cl_nI (n := wv) (by omega)]
          · have ho : ¬ inR what 4 := inR_no (by omega) (Or.inr (not_le_n (by omega) c46))
            refine pp_aload_n dX6_carries_49 rfl isRf_r (q := 50) rfl ?_
            refine pp_bipush dX6_carries_50 cb_m9 (q := 52) rfl ?_
            refine ps_callVi dX6_carries_52 lk_X6_86 (by exact hr) (by rfl) (by rfl) (by rfl) (c_rf9 (by exact hr)) (by rfl) (by exact Nat.le_of_ble_eq_true rfl) (by decide) (by decide) (by exact Nat.le_of_ble_eq_true rfl) (q := 55) rfl (fun r52 g52 h52 => ?_)
            obtain ⟨rfl, rfl⟩ := And.intro h52.1.symm h52.2.symm
            refine ri_ret dX6_carries_55 rfl rfl ?_
            exact QR.no (k := 9) (by unfold qCarr; rw [cIf_t ⟨⟨l0, hl, rfl⟩, by rw [ek]; exact ⟨j, hj, rfl⟩⟩]; exact cIf_f ho) ⟨⟨by omega, by omega⟩, by omega⟩ rfl rfl
      · have hn : ¬ (inR (nI l0) (bL (aB A)) ∧ inR i (cl (bl (aB A) (cl (nI l0)) 4))) := fun q => inR_no (by have := hp.2.2.2.2; omega) (Or.inr (Int32.not_lt.mp c30)) (by rw [ek] at q; exact q.2)
        refine pp_aload_n dX6_carries_33 rfl isRf_r (q := 34) rfl ?_
        refine pp_bipush dX6_carries_34 cb_m3 (q := 36) rfl ?_
        refine ps_callVi dX6_carries_36 lk_X6_86 (by exact hr) (by rfl) (by rfl) (by rfl) (c_rf3 (by exact hr)) (by rfl) (by exact Nat.le_of_ble_eq_true rfl) (by decide) (by decide) (by exact Nat.le_of_ble_eq_true rfl) (q := 39) rfl (fun r36 g36 h36 => ?_)
        obtain ⟨rfl, rfl⟩ := And.intro h36.1.symm h36.2.symm
        refine ri_ret dX6_carries_39 rfl rfl ?_
        exact QR.no (k := 3) (by unfold qCarr; exact cIf_f hn) ⟨⟨by omega, by omega⟩, by omega⟩ rfl rfl
set_option maxRecDepth 20000 in
set_option maxHeartbeats 4000000 in
theorem c_table {ad : Nm → Nat} {g : Sg} {A : AW} {i : Int32} {T : Nat → Int32} (hr : al g (0, 0, 0)) (hA : RW g 0 A) (hT : ∀ j, j < 16 → gA g (5, 0, 0) j = T j) : PS mX6_table 0 (ent mX6_table [.ref (ad (0, 0, 0)), .int i]) [] ad g (Ri (fun v g' => QR g (qTable T i) v g')) := by
  have hW := hA.1
  show PP mX6_table 0 [some (.ref (ad (0, 0, 0))), some (.int i)] [] (Rel ad g) _
  refine pp_iload_n dX6_table_0 rfl (q := 1) rfl ?_
  refine pp_if_lt (tgt := 10) dX6_table_1 (by decide) (q := 4) rfl (fun c1 => ?_) (fun c1 => ?_)
  · have ho : ¬ inR i 16 := inR_no (by omega) (Or.inl c1)
    refine pp_aload_n dX6_table_10 rfl isRf_r (q := 11) rfl ?_
    refine pp_bipush dX6_table_11 cb_m3 (q := 13) rfl ?_
    refine ps_callVi dX6_table_13 lk_X6_86 (by exact hr) (by rfl) (by rfl) (by rfl) (c_rf3 (by exact hr)) (by rfl) (by exact Nat.le_of_ble_eq_true rfl) (by decide) (by decide) (by exact Nat.le_of_ble_eq_true rfl) (q := 16) rfl (fun r13 g13 h13 => ?_)
    obtain ⟨rfl, rfl⟩ := And.intro h13.1.symm h13.2.symm
    refine ri_ret dX6_table_16 rfl rfl ?_
    exact QR.no (k := 3) (by unfold qTable; exact cIf_f ho) ⟨⟨by omega, by omega⟩, by omega⟩ rfl rfl
  · refine pp_iload_n dX6_table_4 rfl (q := 5) rfl ?_
    refine pp_bipush dX6_table_5 cb_16 (q := 7) rfl ?_
    refine pp_icmp_lt (tgt := 17) dX6_table_7 (by decide) (q := 10) rfl (fun c7 => ?_) (fun c7 => ?_)
    · obtain ⟨j, hj, rfl⟩ := inR_yes (n := 16) (by omega) c1 c7
      refine pp_aload_n dX6_table_17 rfl isRf_r (q := 18) rfl ?_
      refine ps_get dX6_table_18 fl_X6_30 hr rfl rfl (q := 21) rfl ?_
      refine pp_iload_n dX6_table_21 rfl (q := 22) rfl ?_
      refine ps_iald (j := j) dX6_table_22 hr rfl rfl hj (by decide) (q := 23) rfl ?_
      refine ri_ret dX6_table_23 rfl rfl ?_
      refine QR.yes (x := T j) ?_ (hT j hj) rfl
      unfold qTable
      rw [cIf_t ⟨j, hj, rfl⟩, cl_nI (by omega)]
    · have ho : ¬ inR i 16 := inR_no (by omega) (Or.inr (Int32.not_lt.mp c7))
      refine pp_aload_n dX6_table_10 rfl isRf_r (q := 11) rfl ?_
      refine pp_bipush dX6_table_11 cb_m3 (q := 13) rfl ?_
      refine ps_callVi dX6_table_13 lk_X6_86 (by exact hr) (by rfl) (by rfl) (by rfl) (c_rf3 (by exact hr)) (by rfl) (by exact Nat.le_of_ble_eq_true rfl) (by decide) (by decide) (by exact Nat.le_of_ble_eq_true rfl) (q := 16) rfl (fun r13 g13 h13 => ?_)
      obtain ⟨rfl, rfl⟩ := And.intro h13.1.symm h13.2.symm
      refine ri_ret dX6_table_16 rfl rfl ?_
      exact QR.no (k := 3) (by unfold qTable; exact cIf_f ho) ⟨⟨by omega, by omega⟩, by omega⟩ rfl rfl
theorem apO_lt {A : AW} {a b x : Nat} (h : apO A = some (a, b, x)) : a < 64 ∧ b < 64 ∧ x < 64 := by
  rw [apO_eq] at h
  cases hf : fnd (upb A) 0 64 with
  | none => rw [hf] at h; cases h
  | some a' =>
    rw [hf] at h
    dsimp only at h
    have h1 := (fnd_some hf).2.1
    cases hb : fnd (apb A a') (a' + 1) (64 - (a' + 1)) with
    | none => rw [hb] at h; cases h
    | some b' =>
      rw [hb] at h
      have h2 := (fnd_some hb).2.1
      have h2' := (fnd_some hb).1
      unfold apF at h
      dsimp only at h
      cases hx : difO (A.1 a') (A.1 b') with
      | none => rw [hx] at h; cases h
      | some x' =>
        rw [hx] at h
        cases h
        exact ⟨by omega, by omega, difO_lt hx⟩
theorem apI_0 {A : AW} : apI (nI 0) (apO A) = -1 ↔ apO A = none := by
  constructor
  · intro h
    cases e : apO A with
    | none => rfl
    | some t =>
      obtain ⟨a, b, x⟩ := t
      rw [e] at h
      have h2 : nI a = -1 := h
      exact absurd h2 (oI_some_ne (by have := apO_lt e; omega))
  · intro h
    rw [h]
    rfl
set_option maxRecDepth 20000 in
set_option maxHeartbeats 4000000 in
theorem c_agree {ad : Nm → Nat} {g : Sg} {A : AW}  (hr : al g (0, 0, 0)) (hA : RW g 0 A)  : PS mX6_agree 0 (ent mX6_agree [.ref (ad (0, 0, 0))]) [] ad g (Ri (fun v g' => QR g (qAgree A) v g')) := by
  have hW := hA.1
  show PP mX6_agree 0 [some (.ref (ad (0, 0, 0)))] [] (Rel ad g) _
  refine pp_aload_n dX6_agree_0 rfl isRf_r (q := 1) rfl ?_
  refine ps_get dX6_agree_1 fl_X6_10 hr rfl rfl (q := 4) rfl ?_
  refine pp_iconst dX6_agree_4 ci_0 (q := 5) rfl ?_
  refine ps_callVi dX6_agree_5 lk_X6_168 (by exact hW) (by rfl) (by rfl) (by rfl) (c_fa hA) (by rfl) (by exact Nat.le_of_ble_eq_true rfl) (by decide) (by decide) (by exact Nat.le_of_ble_eq_true rfl) (q := 8) rfl (fun r5 g5 h5 => ?_)
  obtain ⟨rfl, rfl⟩ := And.intro h5.1.symm h5.2.symm
  refine pp_iconst dX6_agree_8 ci_m1 (q := 9) rfl ?_
  refine pp_icmp_ne (tgt := 16) dX6_agree_9 (by decide) (q := 12) rfl (fun c9 => ?_) (fun c9 => ?_)
  · have hv : (match apO A with | none => nI 1 | some _ => nI 0) = nI 0 := by
      cases e : apO A with
      | none => exact absurd (apI_0.mpr e) c9
      | some t => rfl
    refine pp_iconst dX6_agree_16 ci_0 (q := 17) rfl ?_
    refine ri_ret dX6_agree_17 rfl rfl ?_
    exact QR.yes (by unfold qAgree; rw [hv]) rfl rfl
  · have hv : (match apO A with | none => nI 1 | some _ => nI 0) = nI 1 := by rw [apI_0.mp c9]
    refine pp_iconst dX6_agree_12 ci_1 (q := 13) rfl ?_
    refine pp_goto (tgt := 17) dX6_agree_13 (by decide) ?_
    refine ri_ret dX6_agree_17 rfl rfl ?_
    exact QR.yes (by unfold qAgree; rw [hv]) rfl rfl
set_option maxRecDepth 20000 in
set_option maxHeartbeats 4000000 in
theorem c_apart {ad : Nm → Nat} {g : Sg} {A : AW} {what : Int32} (hr : al g (0, 0, 0)) (hA : RW g 0 A)  : PS mX6_apart 0 (ent mX6_apart [.ref (ad (0, 0, 0)), .int what]) [] ad g (Ri (fun v g' => QR g (qApart A what) v g')) := by
  have hW := hA.1
  show PP mX6_apart 0 [some (.ref (ad (0, 0, 0))), some (.int what)] [] (Rel ad g) _
  refine pp_iload_n dX6_apart_0 rfl (q := 1) rfl ?_
  refine pp_if_lt (tgt := 9) dX6_apart_1 (by decide) (q := 4) rfl (fun c1 => ?_) (fun c1 => ?_)
  · have ho : ¬ inR what 3 := inR_no (by omega) (Or.inl c1)
    refine pp_aload_n dX6_apart_9 rfl isRf_r (q := 10) rfl ?_
    refine pp_bipush dX6_apart_10 cb_m9 (q := 12) rfl ?_
    refine ps_callVi dX6_apart_12 lk_X6_86 (by exact hr) (by rfl) (by rfl) (by rfl) (c_rf9 (by exact hr)) (by rfl) (by exact Nat.le_of_ble_eq_true rfl) (by decide) (by decide) (by exact Nat.le_of_ble_eq_true rfl) (q := 15) rfl (fun r12 g12 h12 => ?_)
    obtain ⟨rfl, rfl⟩ := And.intro h12.1.symm h12.2.symm
    refine ri_ret dX6_apart_15 rfl rfl ?_
    exact QR.no (k := 9) (by unfold qApart; exact cIf_f ho) ⟨⟨by omega, by omega⟩, by omega⟩ rfl rfl
  · refine pp_iload_n dX6_apart_4 rfl (q := 5) rfl ?_
    refine pp_iconst dX6_apart_5 ci_2 (q := 6) rfl ?_
    refine pp_icmp_le (tgt := 16) dX6_apart_6 (by decide) (q := 9) rfl (fun c6 => ?_) (fun c6 => ?_)
    · have hy := inR_yes (n := 3) (by omega) c1 (lt_of_le (by omega) c6)
      refine pp_aload_n dX6_apart_16 rfl isRf_r (q := 17) rfl ?_
      refine ps_get dX6_apart_17 fl_X6_10 hr rfl rfl (q := 20) rfl ?_
      refine pp_iload_n dX6_apart_20 rfl (q := 21) rfl ?_
      refine ps_callVi dX6_apart_21 lk_X6_168 (by exact hW) (by rfl) (by rfl) (by rfl) (c_fa hA) (by rfl) (by exact Nat.le_of_ble_eq_true rfl) (by decide) (by decide) (by exact Nat.le_of_ble_eq_true rfl) (q := 24) rfl (fun r21 g21 h21 => ?_)
      obtain ⟨rfl, rfl⟩ := And.intro h21.1.symm h21.2.symm
      refine ri_ret dX6_apart_24 rfl rfl ?_
      exact QR.yes (by unfold qApart; rw [cIf_t hy]) rfl rfl
    · have ho : ¬ inR what 3 := inR_no (by omega) (Or.inr (not_le_n (by omega) c6))
      refine pp_aload_n dX6_apart_9 rfl isRf_r (q := 10) rfl ?_
      refine pp_bipush dX6_apart_10 cb_m9 (q := 12) rfl ?_
      refine ps_callVi dX6_apart_12 lk_X6_86 (by exact hr) (by rfl) (by rfl) (by rfl) (c_rf9 (by exact hr)) (by rfl) (by exact Nat.le_of_ble_eq_true rfl) (by decide) (by decide) (by exact Nat.le_of_ble_eq_true rfl) (q := 15) rfl (fun r12 g12 h12 => ?_)
      obtain ⟨rfl, rfl⟩ := And.intro h12.1.symm h12.2.symm
      refine ri_ret dX6_apart_15 rfl rfl ?_
      exact QR.no (k := 9) (by unfold qApart; exact cIf_f ho) ⟨⟨by omega, by omega⟩, by omega⟩ rfl rfl
set_option maxRecDepth 20000 in
set_option maxHeartbeats 4000000 in
theorem c_count {ad : Nm → Nat} {g : Sg} {A : AW} {x kind : Int32} (hr : al g (0, 0, 0)) (hA : RW g 0 A)  : PS mX6_count 0 (ent mX6_count [.ref (ad (0, 0, 0)), .int x, .int kind]) [] ad g (Ri (fun v g' => QR g (qCount A x kind) v g')) := by
  have hW := hA.1
  show PP mX6_count 0 [some (.ref (ad (0, 0, 0))), some (.int x), some (.int kind)] [] (Rel ad g) _
  refine pp_iload_n dX6_count_0 rfl (q := 1) rfl ?_
  refine ps_callSi dX6_count_1 lk_X6_171 (by rfl) c_isMB (by rfl) (by exact Nat.le_of_ble_eq_true rfl) (by decide) (by decide) (by exact Nat.le_of_ble_eq_true rfl) (q := 4) rfl (fun r1 g1 h1 => ?_)
  obtain ⟨hb1, rfl⟩ := And.intro h1.1 h1.2.symm
  refine pp_if_ne (tgt := 14) dX6_count_4 (by decide) (q := 7) rfl (fun c4 => ?_) (fun c4 => ?_)
  · obtain ⟨j, hj, rfl⟩ := isB_t hb1 c4
    refine pp_iload_n dX6_count_14 rfl (q := 15) rfl ?_
    refine pp_if_lt (tgt := 23) dX6_count_15 (by decide) (q := 18) rfl (fun c15 => ?_) (fun c15 => ?_)
    · have ho : ¬ inR kind 5 := inR_no (by omega) (Or.inl c15)
      refine pp_aload_n dX6_count_23 rfl isRf_r (q := 24) rfl ?_
      refine pp_bipush dX6_count_24 cb_m9 (q := 26) rfl ?_
      refine ps_callVi dX6_count_26 lk_X6_86 (by exact hr) (by rfl) (by rfl) (by rfl) (c_rf9 (by exact hr)) (by rfl) (by exact Nat.le_of_ble_eq_true rfl) (by decide) (by decide) (by exact Nat.le_of_ble_eq_true rfl) (q := 29) rfl (fun r26 g26 h26 => ?_)
      obtain ⟨rfl, rfl⟩ := And.intro h26.1.symm h26.2.symm
      refine ri_ret dX6_count_29 rfl rfl ?_
      exact QR.no (k := 9) (by unfold qCount; rw [cIf_t ⟨j, hj, rfl⟩]; exact cIf_f ho) ⟨⟨by omega, by omega⟩, by omega⟩ rfl rfl
    · refine pp_iload_n dX6_count_18 rfl (q := 19) rfl ?_
      refine pp_iconst dX6_count_19 ci_4 (q := 20) rfl ?_
      refine pp_icmp_le (tgt := 30) dX6_count_20 (by decide) (q := 23) rfl (fun c20 => ?_) (fun c20 => ?_)
      · have hy := inR_yes (n := 5) (by omega) c15 (lt_of_le (by omega) c20)
        refine pp_aload_n dX6_count_30 rfl isRf_r (q := 31) rfl ?_
        refine ps_get dX6_count_31 fl_X6_10 hr rfl rfl (q := 34) rfl ?_
        refine pp_iload_n dX6_count_34 rfl (q := 35) rfl ?_
        refine pp_iload_n dX6_count_35 rfl (q := 36) rfl ?_
        refine ps_callVi dX6_count_36 lk_X6_174 (by exact hW) (by rfl) (by rfl) (by rfl) (c_cu hA hj) (by rfl) (by exact Nat.le_of_ble_eq_true rfl) (by decide) (by decide) (by exact Nat.le_of_ble_eq_true rfl) (q := 39) rfl (fun r36 g36 h36 => ?_)
        obtain ⟨rfl, rfl⟩ := And.intro h36.1.symm h36.2.symm
        refine ri_ret dX6_count_39 rfl rfl ?_
        refine QR.yes ?_ rfl rfl
        unfold qCount
        rw [cIf_t ⟨j, hj, rfl⟩, cIf_t hy, cl_nI (by omega)]
      · have ho : ¬ inR kind 5 := inR_no (by omega) (Or.inr (not_le_n (by omega) c20))
        refine pp_aload_n dX6_count_23 rfl isRf_r (q := 24) rfl ?_
        refine pp_bipush dX6_count_24 cb_m9 (q := 26) rfl ?_
        refine ps_callVi dX6_count_26 lk_X6_86 (by exact hr) (by rfl) (by rfl) (by rfl) (c_rf9 (by exact hr)) (by rfl) (by exact Nat.le_of_ble_eq_true rfl) (by decide) (by decide) (by exact Nat.le_of_ble_eq_true rfl) (q := 29) rfl (fun r26 g26 h26 => ?_)
        obtain ⟨rfl, rfl⟩ := And.intro h26.1.symm h26.2.symm
        refine ri_ret dX6_count_29 rfl rfl ?_
        exact QR.no (k := 9) (by unfold qCount; rw [cIf_t ⟨j, hj, rfl⟩]; exact cIf_f ho) ⟨⟨by omega, by omega⟩, by omega⟩ rfl rfl
  · have hn := isB_f hb1 c4
    refine pp_aload_n dX6_count_7 rfl isRf_r (q := 8) rfl ?_
    refine pp_bipush dX6_count_8 cb_m3 (q := 10) rfl ?_
    refine ps_callVi dX6_count_10 lk_X6_86 (by exact hr) (by rfl) (by rfl) (by rfl) (c_rf3 (by exact hr)) (by rfl) (by exact Nat.le_of_ble_eq_true rfl) (by decide) (by decide) (by exact Nat.le_of_ble_eq_true rfl) (q := 13) rfl (fun r10 g10 h10 => ?_)
    obtain ⟨rfl, rfl⟩ := And.intro h10.1.symm h10.2.symm
    refine ri_ret dX6_count_13 rfl rfl ?_
    exact QR.no (k := 3) (by unfold qCount; exact cIf_f hn) ⟨⟨by omega, by omega⟩, by omega⟩ rfl rfl
set_option maxRecDepth 20000 in
set_option maxHeartbeats 4000000 in
theorem c_wayAt {ad : Nm → Nat} {g : Sg} {A : AW} {i : Int32} {Y : List Int32} (hr : al g (0, 0, 0)) (hA : RW g 0 A) (hR : RY g Y) : PS mX6_wayAt 0 (ent mX6_wayAt [.ref (ad (0, 0, 0)), .int i]) [] ad g (Ri (fun v g' => QR g (qWayAt Y i) v g')) := by
  have hW := hA.1
  show PP mX6_wayAt 0 [some (.ref (ad (0, 0, 0))), some (.int i)] [] (Rel ad g) _
  refine pp_iload_n dX6_wayAt_0 rfl (q := 1) rfl ?_
  refine pp_if_lt (tgt := 15) dX6_wayAt_1 (by decide) (q := 4) rfl (fun c1 => ?_) (fun c1 => ?_)
  · have ho : ¬ inR i Y.length := inR_no (by have := hR.2.2; omega) (Or.inl c1)
    refine pp_aload_n dX6_wayAt_15 rfl isRf_r (q := 16) rfl ?_
    refine pp_bipush dX6_wayAt_16 cb_m3 (q := 18) rfl ?_
    refine ps_callVi dX6_wayAt_18 lk_X6_86 (by exact hr) (by rfl) (by rfl) (by rfl) (c_rf3 (by exact hr)) (by rfl) (by exact Nat.le_of_ble_eq_true rfl) (by decide) (by decide) (by exact Nat.le_of_ble_eq_true rfl) (q := 21) rfl (fun r18 g18 h18 => ?_)
    obtain ⟨rfl, rfl⟩ := And.intro h18.1.symm h18.2.symm
    refine ri_ret dX6_wayAt_21 rfl rfl ?_
    exact QR.no (k := 3) (by unfold qWayAt; exact cIf_f ho) ⟨⟨by omega, by omega⟩, by omega⟩ rfl rfl
  · refine pp_iload_n dX6_wayAt_4 rfl (q := 5) rfl ?_
    refine pp_aload_n dX6_wayAt_5 rfl isRf_r (q := 6) rfl ?_
    refine ps_get dX6_wayAt_6 fl_X6_26 hr rfl rfl (q := 9) rfl ?_
    refine ps_get dX6_wayAt_9 fl_X6_181 hr rfl rfl (q := 12) rfl ?_
    rw [hR.2.1]
    refine pp_icmp_lt (tgt := 22) dX6_wayAt_12 (by decide) (q := 15) rfl (fun c12 => ?_) (fun c12 => ?_)
    · obtain ⟨j, hj, rfl⟩ := inR_yes (by have := hR.2.2; omega) c1 c12
      refine pp_aload_n dX6_wayAt_22 rfl isRf_r (q := 23) rfl ?_
      refine ps_get dX6_wayAt_23 fl_X6_26 hr rfl rfl (q := 26) rfl ?_
      refine ps_get dX6_wayAt_26 fl_X6_182 hr rfl rfl (q := 29) rfl ?_
      refine pp_iload_n dX6_wayAt_29 rfl (q := 30) rfl ?_
      refine ps_iald (j := j) dX6_wayAt_30 hr rfl rfl (by have := hR.2.2; omega) (by have := hR.2.2; omega) (q := 31) rfl ?_
      refine ri_ret dX6_wayAt_31 rfl rfl ?_
      refine QR.yes (x := Y.getD j 0) ?_ ?_ rfl
      · unfold qWayAt
        rw [cIf_t ⟨j, hj, rfl⟩, cl_nI (by have := hR.2.2; omega)]
      · rw [List.getD_eq_getElem?_getD, List.getElem?_eq_getElem hj]
        exact hR.2.2.2.2.2 j _ (List.getElem?_eq_getElem hj)
    · have ho : ¬ inR i Y.length := inR_no (by have := hR.2.2; omega) (Or.inr (Int32.not_lt.mp c12))
      refine pp_aload_n dX6_wayAt_15 rfl isRf_r (q := 16) rfl ?_
      refine pp_bipush dX6_wayAt_16 cb_m3 (q := 18) rfl ?_
      refine ps_callVi dX6_wayAt_18 lk_X6_86 (by exact hr) (by rfl) (by rfl) (by rfl) (c_rf3 (by exact hr)) (by rfl) (by exact Nat.le_of_ble_eq_true rfl) (by decide) (by decide) (by exact Nat.le_of_ble_eq_true rfl) (q := 21) rfl (fun r18 g18 h18 => ?_)
      obtain ⟨rfl, rfl⟩ := And.intro h18.1.symm h18.2.symm
      refine ri_ret dX6_wayAt_21 rfl rfl ?_
      exact QR.no (k := 3) (by unfold qWayAt; exact cIf_f ho) ⟨⟨by omega, by omega⟩, by omega⟩ rfl rfl
set_option maxRecDepth 20000 in
set_option maxHeartbeats 4000000 in
theorem c_trace {ad : Nm → Nat} {g : Sg} {A : AW} {what : Int32} (hr : al g (0, 0, 0)) (hA : RW g 0 A)  : PS mX6_trace 0 (ent mX6_trace [.ref (ad (0, 0, 0)), .int what]) [] ad g (Ri (fun v g' => QR g (qTrace A what) v g')) := by
  have hW := hA.1
  show PP mX6_trace 0 [some (.ref (ad (0, 0, 0))), some (.int what)] [] (Rel ad g) _
  refine pp_iload_n dX6_trace_0 rfl (q := 1) rfl ?_
  refine pp_if_lt (tgt := 10) dX6_trace_1 (by decide) (q := 4) rfl (fun c1 => ?_) (fun c1 => ?_)
  · have ho : ¬ inR what 12 := inR_no (by omega) (Or.inl c1)
    refine pp_aload_n dX6_trace_10 rfl isRf_r (q := 11) rfl ?_
    refine pp_bipush dX6_trace_11 cb_m9 (q := 13) rfl ?_
    refine ps_callVi dX6_trace_13 lk_X6_86 (by exact hr) (by rfl) (by rfl) (by rfl) (c_rf9 (by exact hr)) (by rfl) (by exact Nat.le_of_ble_eq_true rfl) (by decide) (by decide) (by exact Nat.le_of_ble_eq_true rfl) (q := 16) rfl (fun r13 g13 h13 => ?_)
    obtain ⟨rfl, rfl⟩ := And.intro h13.1.symm h13.2.symm
    refine ri_ret dX6_trace_16 rfl rfl ?_
    exact QR.no (k := 9) (by unfold qTrace; exact cIf_f ho) ⟨⟨by omega, by omega⟩, by omega⟩ rfl rfl
  · refine pp_iload_n dX6_trace_4 rfl (q := 5) rfl ?_
    refine pp_bipush dX6_trace_5 cb_12 (q := 7) rfl ?_
    refine pp_icmp_lt (tgt := 17) dX6_trace_7 (by decide) (q := 10) rfl (fun c7 => ?_) (fun c7 => ?_)
    · obtain ⟨j, hj, rfl⟩ := inR_yes (n := 12) (by omega) c1 c7
      refine pp_aload_n dX6_trace_17 rfl isRf_r (q := 18) rfl ?_
      refine ps_get dX6_trace_18 fl_X6_10 hr rfl rfl (q := 21) rfl ?_
      refine ps_get dX6_trace_21 fl_X6_212 hW rfl rfl (q := 24) rfl ?_
      refine pp_iload_n dX6_trace_24 rfl (q := 25) rfl ?_
      refine ps_iald (j := j) dX6_trace_25 hW rfl rfl hj (by decide) (q := 26) rfl ?_
      refine ri_ret dX6_trace_26 rfl rfl ?_
      refine QR.yes (x := A.2.2.2.1 j) ?_ (hA.2.2.2.2.1 j hj) rfl
      unfold qTrace
      rw [cIf_t ⟨j, hj, rfl⟩, cl_nI (by omega)]
    · have ho : ¬ inR what 12 := inR_no (by omega) (Or.inr (Int32.not_lt.mp c7))
      refine pp_aload_n dX6_trace_10 rfl isRf_r (q := 11) rfl ?_
      refine pp_bipush dX6_trace_11 cb_m9 (q := 13) rfl ?_
      refine ps_callVi dX6_trace_13 lk_X6_86 (by exact hr) (by rfl) (by rfl) (by rfl) (c_rf9 (by exact hr)) (by rfl) (by exact Nat.le_of_ble_eq_true rfl) (by decide) (by decide) (by exact Nat.le_of_ble_eq_true rfl) (q := 16) rfl (fun r13 g13 h13 => ?_)
      obtain ⟨rfl, rfl⟩ := And.intro h13.1.symm h13.2.symm
      refine ri_ret dX6_trace_16 rfl rfl ?_
      exact QR.no (k := 9) (by unfold qTrace; exact cIf_f ho) ⟨⟨by omega, by omega⟩, by omega⟩ rfl rfl
theorem ngk {x : Int32} (h1 : ¬ (-2 : Int32) < x) (h2 : (-10 : Int32) ≤ x) : ∃ k, isW k ∧ x = - nI k := by
  have a : x.toInt ≤ -2 := by have := Int32.not_lt.mp h1; rw [Int32.le_iff_toInt_le] at this; exact this
  have b : -10 ≤ x.toInt := by rw [Int32.le_iff_toInt_le] at h2; exact h2
  refine ⟨(-x.toInt).toNat, ⟨by omega, by omega⟩, ?_⟩
  apply Int32.toInt_inj.mp
  have e : ∀ k : Fin 11, (- nI k.val).toInt = - (k.val : Int) := by decide
  have := e ⟨(-x.toInt).toNat, by omega⟩
  rw [this]
  show x.toInt = - ((-x.toInt).toNat : Int)
  omega
theorem ngk_no {x : Int32} (h : (-2 : Int32) < x ∨ ¬ (-10 : Int32) ≤ x) : ¬ ∃ k, isW k ∧ x = - nI k := fun ⟨k, ⟨h1, h2⟩, e⟩ => by
  subst e
  obtain ⟨-, q⟩ := neg_k ⟨k, by omega⟩
  obtain ⟨q1, q2⟩ := q.resolve_left (fun z => by have : k < 2 := z; omega)
  rcases h with h | h
  · exact q1 h
  · exact h (Int32.not_lt.mp q2)
set_option maxRecDepth 20000 in
set_option maxHeartbeats 4000000 in
theorem c_status {ad : Nm → Nat} {g : Sg} {A : AW} {x : Int32} {n : Nat} {cn : Nat → Int32} (hr : al g (0, 0, 0)) (hA : RW g 0 A) (hsz : gI g (20, 0, 2) 3 = nI n) (hcn : ∀ k, k < 11 → gA g (2, 0, 0) k = cn k) : PS mX6_status 0 (ent mX6_status [.ref (ad (0, 0, 0)), .int x]) [] ad g (Ri (fun v g' => QR g (qStatus n cn x) v g')) := by
  have hW := hA.1
  show PP mX6_status 0 [some (.ref (ad (0, 0, 0))), some (.int x)] [] (Rel ad g) _
  refine pp_iload_n dX6_status_0 rfl (q := 1) rfl ?_
  refine pp_if_ne (tgt := 15) dX6_status_1 (by decide) (q := 4) rfl (fun c1 => ?_) (fun c1 => ?_)
  · refine pp_iload_n dX6_status_15 rfl (q := 16) rfl ?_
    refine pp_bipush dX6_status_16 cb_m2 (q := 18) rfl ?_
    refine pp_icmp_gt (tgt := 27) dX6_status_18 (by decide) (q := 21) rfl (fun c18 => ?_) (fun c18 => ?_)
    · have ho := ngk_no (Or.inl c18)
      refine pp_aload_n dX6_status_27 rfl isRf_r (q := 28) rfl ?_
      refine pp_bipush dX6_status_28 cb_m9 (q := 30) rfl ?_
      refine ps_callVi dX6_status_30 lk_X6_86 (by exact hr) (by rfl) (by rfl) (by rfl) (c_rf9 (by exact hr)) (by rfl) (by exact Nat.le_of_ble_eq_true rfl) (by decide) (by decide) (by exact Nat.le_of_ble_eq_true rfl) (q := 33) rfl (fun r30 g30 h30 => ?_)
      obtain ⟨rfl, rfl⟩ := And.intro h30.1.symm h30.2.symm
      refine ri_ret dX6_status_33 rfl rfl ?_
      exact QR.no (k := 9) (by unfold qStatus; rw [cIf_f c1]; exact cIf_f ho) ⟨⟨by omega, by omega⟩, by omega⟩ rfl rfl
    · refine pp_iload_n dX6_status_21 rfl (q := 22) rfl ?_
      refine pp_bipush dX6_status_22 cb_m10 (q := 24) rfl ?_
      refine pp_icmp_ge (tgt := 34) dX6_status_24 (by decide) (q := 27) rfl (fun c24 => ?_) (fun c24 => ?_)
      · obtain ⟨k, hk, rfl⟩ := ngk c18 c24
        refine pp_aload_n dX6_status_34 rfl isRf_r (q := 35) rfl ?_
        refine ps_get dX6_status_35 fl_X6_19 hr rfl rfl (q := 38) rfl ?_
        refine ps_get dX6_status_38 fl_X6_218 hr rfl rfl (q := 41) rfl ?_
        refine pp_iload_n dX6_status_41 rfl (q := 42) rfl ?_
        refine pp_ineg dX6_status_42 (q := 43) rfl ?_
        have e3 := (neg_k ⟨k, by have := hk.2; omega⟩).1
        dsimp only at e3
        rw [e3]
        refine ps_iald (j := k) dX6_status_43 hr rfl rfl (by have := hk.2; omega) (by decide) (q := 44) rfl ?_
        refine ri_ret dX6_status_44 rfl rfl ?_
        refine QR.yes (x := cn k) ?_ (hcn k (by have := hk.2; omega)) rfl
        unfold qStatus
        rw [cIf_f c1, cIf_t ⟨k, hk, rfl⟩, e3, cl_nI (by have := hk.2; omega)]
      · have ho := ngk_no (Or.inr c24)
        refine pp_aload_n dX6_status_27 rfl isRf_r (q := 28) rfl ?_
        refine pp_bipush dX6_status_28 cb_m9 (q := 30) rfl ?_
        refine ps_callVi dX6_status_30 lk_X6_86 (by exact hr) (by rfl) (by rfl) (by rfl) (c_rf9 (by exact hr)) (by rfl) (by exact Nat.le_of_ble_eq_true rfl) (by decide) (by decide) (by exact Nat.le_of_ble_eq_true rfl) (q := 33) rfl (fun r30 g30 h30 => ?_)
        obtain ⟨rfl, rfl⟩ := And.intro h30.1.symm h30.2.symm
        refine ri_ret dX6_status_33 rfl rfl ?_
        exact QR.no (k := 9) (by unfold qStatus; rw [cIf_f c1]; exact cIf_f ho) ⟨⟨by omega, by omega⟩, by omega⟩ rfl rfl
  · refine pp_aload_n dX6_status_4 rfl isRf_r (q := 5) rfl ?_
    refine ps_get dX6_status_5 fl_X6_10 hr rfl rfl (q := 8) rfl ?_
    refine ps_get dX6_status_8 fl_X6_196 hW rfl rfl (q := 11) rfl ?_
    refine ps_get dX6_status_11 fl_X6_81 hW rfl rfl (q := 14) rfl ?_
    refine ri_ret dX6_status_14 rfl rfl ?_
    refine QR.yes (x := nI n) ?_ hsz rfl
    unfold qStatus
    exact cIf_t c1
