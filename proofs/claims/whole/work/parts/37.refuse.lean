def isM (x : Int32) : Prop := ∃ i, i < 64 ∧ x = nI i
def isLt (A : AW) (x : Int32) : Prop := ∃ l, l < bL (aB A) ∧ x = nI l
def mdX (A : AW) (x : Int32) : Prop := ∃ i, i < 64 ∧ x = nI i ∧ mdA A i
def upX (A : AW) (x : Int32) : Prop := ∃ i, i < 64 ∧ x = nI i ∧ upA A i
def beyP (A : AW) (act : Nat) (a b : Int32) : Prop := match act with
  | 2 => ¬ isM a ∨ ¬ isM b
  | 7 => ¬ isLt A a
  | 8 => ¬ isLt A a
  | 9 => ¬ isLt A a
  | 10 => ¬ isM a ∨ ¬ isM b
  | 11 => ¬ isM a ∨ ¬ isM b
  | _ => ¬ isM a
def misP (A : AW) (act : Nat) (a b : Int32) : Prop := match act with
  | 1 => False
  | 2 => ¬ mdX A a ∨ ¬ mdX A b
  | 7 => ∃ l, l < bL (aB A) ∧ a = nI l ∧ ¬ bl (aB A) l 5 = 0
  | 8 => ∃ l, l < bL (aB A) ∧ a = nI l ∧ ¬ bl (aB A) l 5 = 0
  | 9 => ∃ l, l < bL (aB A) ∧ a = nI l ∧ ¬ bl (aB A) l 5 = 0
  | 10 => False
  | 11 => False
  | _ => ¬ mdX A a
def dwnP (A : AW) (act : Nat) (a : Int32) : Prop := match act with
  | 2 => ¬ upX A a
  | 3 => ¬ upX A a
  | 4 => ¬ upX A a
  | 5 => ¬ upX A a
  | _ => False
def natP (A : AW) (act : Nat) (a b : Int32) : Prop := match act with
  | 1 => mdX A a
  | 2 => a = b
  | 6 => upX A a
  | 10 => a = b
  | 11 => a = b
  | _ => False
noncomputable def whyA (A : AW) (n act : Nat) (a b : Int32) : Int32 := cIf (beyP A act a b) (-3) (cIf (misP A act a b) (-2) (cIf (dwnP A act a) (-8) (cIf (natP A act a b) (-9) (cIf ((bL (aB A) ≤ 1196 ∧ bP (aB A) ≤ 19800) ∧ n < 4000) (nI 0) (-10)))))
theorem isM_no {x : Int32} (hx : x < 0 ∨ nI 64 ≤ x) : ¬ isM x := fun ⟨i, hi, e⟩ => by
  subst e
  rcases hx with h | h
  · exact nI_pos (by omega) h
  · exact absurd (leT h (by decide) (by omega)) (by omega)
theorem c_isMB {ad : Nm → Nat} {g : Sg} {x : Int32} : PS mX6_isMember 0 (ent mX6_isMember [.int x]) [] ad g (Ri (fun v g' => isB v (isM x) ∧ g' = g)) := by
  rcases mem_cases x with ⟨i, hi, rfl⟩ | h
  · refine (c_isMem hi).weak (fun v G hG => ?_)
    obtain ⟨g', h1, r, h2, rfl, h3⟩ := hG
    exact ⟨g', h1, _, h2, isB_1 ⟨i, hi, rfl⟩, h3⟩
  · refine (c_isMem_out h).weak (fun v G hG => ?_)
    obtain ⟨g', h1, r, h2, rfl, h3⟩ := hG
    exact ⟨g', h1, _, h2, isB_0 (isM_no h), h3⟩
theorem c_memB {ad : Nm → Nat} {g : Sg} {w : Nat} {A : AW} {x : Int32} (hA : RW g w A) : PS mX5_memberAt 0 (ent mX5_memberAt [.ref (ad (10, w, 0)), .int x]) [] ad g (Rr (fun o g' => ((∃ i, i < 64 ∧ x = nI i ∧ mdA A i ∧ o = some (ad (30, w, i))) ∨ (¬ mdX A x ∧ o = none)) ∧ g' = g)) := by
  rcases M_cases A x with ⟨i, hi, rfl, hd⟩ | h
  · refine (c_memAt hA hi hd).weak (fun v G hG => ?_)
    obtain ⟨g', h1, r, h2, h3, h4⟩ := hG
    exact ⟨g', h1, r, h2, Or.inl ⟨i, hi, rfl, hd, h3⟩, h4⟩
  · refine (c_memAt_no hA h).weak (fun v G hG => ?_)
    obtain ⟨g', h1, r, h2, h3, h4⟩ := hG
    exact ⟨g', h1, r, h2, Or.inr ⟨fun ⟨i, hi, e, hd⟩ => h i hi e hd, h3⟩, h4⟩
theorem c_upB {ad : Nm → Nat} {g : Sg} {w : Nat} {A : AW} {x : Int32} (hA : RW g w A) : PS mX5_upAt 0 (ent mX5_upAt [.ref (ad (10, w, 0)), .int x]) [] ad g (Rr (fun o g' => ((∃ i, i < 64 ∧ x = nI i ∧ upA A i ∧ o = some (ad (30, w, i))) ∨ (¬ upX A x ∧ o = none)) ∧ g' = g)) := by
  rcases U_cases A x with ⟨i, hi, rfl, hd⟩ | h
  · refine (c_upAt hA hi hd).weak (fun v G hG => ?_)
    obtain ⟨g', h1, r, h2, h3, h4⟩ := hG
    exact ⟨g', h1, r, h2, Or.inl ⟨i, hi, rfl, hd, h3⟩, h4⟩
  · refine (c_upAt_no hA h).weak (fun v G hG => ?_)
    obtain ⟨g', h1, r, h2, h3, h4⟩ := hG
    exact ⟨g', h1, r, h2, Or.inr ⟨fun ⟨i, hi, e, hd⟩ => h i hi e hd, h3⟩, h4⟩
set_option maxRecDepth 20000 in
set_option maxHeartbeats 4000000 in
theorem c_bey1 {ad : Nm → Nat} {g : Sg} {w : Nat} {A : AW} {a b : Int32} (hA : RW g w A) : PS mX5_isBeyond 0 (ent mX5_isBeyond [.ref (ad (10, w, 0)), .int (nI 1), .int a, .int b]) [] ad g (Ri (fun r g' => isB r (beyP A 1 a b) ∧ g' = g)) := by
  show PP mX5_isBeyond 0 [some (.ref (ad (10, w, 0))), some (.int (nI 1)), some (.int a), some (.int b)] [] (Rel ad g) _
  refine pp_iload_n dX5_isBeyond_0 rfl (q := 1) rfl ?_
  refine pp_tswOut (tgt := 93) dX5_isBeyond_1 (by decide) (by decide) ?_
  refine pp_iload_n dX5_isBeyond_93 rfl (q := 94) rfl ?_
  refine ps_callNi dX5_isBeyond_94 lk_X5_69 (by rfl) c_isMB (by rfl) (by exact Nat.le_of_ble_eq_true rfl) (by decide) (by decide) (by exact Nat.le_of_ble_eq_true rfl) (q := 97) rfl (fun r94 g94 h94 => ?_)
  obtain ⟨hb94, rfl⟩ := And.intro h94.1 h94.2.symm
  refine pp_if_ne (tgt := 104) dX5_isBeyond_97 (by decide) (q := 100) rfl (fun c97 => ?_) (fun c97 => ?_)
  · refine pp_iconst dX5_isBeyond_104 ci_0 (q := 105) rfl ?_
    refine ri_ret dX5_isBeyond_105 rfl (by decide) ?_
    first | exact ⟨isB_0 (fun q => q (isB_t hb94 c97)), rfl⟩ | exact ⟨isB_1 (isB_f hb94 c97), rfl⟩
  · refine pp_iconst dX5_isBeyond_100 ci_1 (q := 101) rfl ?_
    refine pp_goto (tgt := 105) dX5_isBeyond_101 (by decide) ?_
    refine ri_ret dX5_isBeyond_105 rfl (by decide) ?_
    first | exact ⟨isB_0 (fun q => q (isB_t hb94 c97)), rfl⟩ | exact ⟨isB_1 (isB_f hb94 c97), rfl⟩
set_option maxRecDepth 20000 in
set_option maxHeartbeats 4000000 in
theorem c_mis1 {ad : Nm → Nat} {g : Sg} {w : Nat} {A : AW} {a b : Int32} (hA : RW g w A) : PS mX5_isMissing 0 (ent mX5_isMissing [.ref (ad (10, w, 0)), .int (nI 1), .int a, .int b]) [] ad g (Ri (fun r g' => isB r (misP A 1 a b) ∧ g' = g)) := by
  show PP mX5_isMissing 0 [some (.ref (ad (10, w, 0))), some (.int (nI 1)), some (.int a), some (.int b)] [] (Rel ad g) _
  refine pp_iload_n dX5_isMissing_0 rfl (q := 1) rfl ?_
  refine pp_tswK (v := 1) (tgt := 78) dX5_isMissing_1 rfl (by decide) (by decide) (by decide) rfl (by decide) ?_
  refine pp_iconst dX5_isMissing_78 ci_0 (q := 79) rfl ?_
  refine ri_ret dX5_isMissing_79 rfl (by decide) ?_
  exact ⟨isB_0 (fun q => q), rfl⟩
set_option maxRecDepth 20000 in
set_option maxHeartbeats 4000000 in
theorem c_dwn1 {ad : Nm → Nat} {g : Sg} {w : Nat} {A : AW} {a : Int32} (hA : RW g w A) : PS mX5_isDown 0 (ent mX5_isDown [.ref (ad (10, w, 0)), .int (nI 1), .int a]) [] ad g (Ri (fun r g' => isB r (dwnP A 1 a) ∧ g' = g)) := by
  show PP mX5_isDown 0 [some (.ref (ad (10, w, 0))), some (.int (nI 1)), some (.int a)] [] (Rel ad g) _
  refine pp_iload_n dX5_isDown_0 rfl (q := 1) rfl ?_
  refine pp_tswOut (tgt := 46) dX5_isDown_1 (by decide) (by decide) ?_
  refine pp_iconst dX5_isDown_46 ci_0 (q := 47) rfl ?_
  refine ri_ret dX5_isDown_47 rfl (by decide) ?_
  exact ⟨isB_0 (fun q => q), rfl⟩
set_option maxRecDepth 20000 in
set_option maxHeartbeats 4000000 in
theorem c_nat1 {ad : Nm → Nat} {g : Sg} {w : Nat} {A : AW} {a b : Int32} (hA : RW g w A) : PS mX5_isNotAsTold 0 (ent mX5_isNotAsTold [.ref (ad (10, w, 0)), .int (nI 1), .int a, .int b]) [] ad g (Ri (fun r g' => isB r (natP A 1 a b) ∧ g' = g)) := by
  show PP mX5_isNotAsTold 0 [some (.ref (ad (10, w, 0))), some (.int (nI 1)), some (.int a), some (.int b)] [] (Rel ad g) _
  refine pp_iload_n dX5_isNotAsTold_0 rfl (q := 1) rfl ?_
  refine pp_tswK (v := 1) (tgt := 60) dX5_isNotAsTold_1 rfl (by decide) (by decide) (by decide) rfl (by decide) ?_
  refine pp_aload_n dX5_isNotAsTold_60 rfl isRf_r (q := 61) rfl ?_
  refine pp_iload_n dX5_isNotAsTold_61 rfl (q := 62) rfl ?_
  refine ps_callVr dX5_isNotAsTold_62 lk_X5_76 (by exact hA.1) (by rfl) (by rfl) (by rfl) (c_memB hA) (by rfl) (by exact Nat.le_of_ble_eq_true rfl) (by decide) (by decide) (by exact Nat.le_of_ble_eq_true rfl) (q := 65) rfl (fun r62 g62 h62 => ?_)
  obtain ⟨h62, rfl⟩ := And.intro h62.1 h62.2.symm
  rcases h62 with ⟨i62, hi62, e62, hd62, rfl⟩ | ⟨hn62, rfl⟩
  · change PP mX5_isNotAsTold 65 _ (Value.ref (ad (30, w, i62)) :: _) _ _
    refine pp_ifnull_r dX5_isNotAsTold_65 (q := 68) rfl ?_
    refine pp_iconst dX5_isNotAsTold_68 ci_1 (q := 69) rfl ?_
    refine pp_goto (tgt := 73) dX5_isNotAsTold_69 (by decide) ?_
    refine ri_ret dX5_isNotAsTold_73 rfl (by decide) ?_
    first | exact ⟨isB_1 ⟨i62, hi62, e62, hd62⟩, rfl⟩ | exact ⟨isB_0 hn62, rfl⟩
  · change PP mX5_isNotAsTold 65 _ (Value.null :: _) _ _
    refine pp_ifnull_n (tgt := 72) dX5_isNotAsTold_65 (by decide) ?_
    refine pp_iconst dX5_isNotAsTold_72 ci_0 (q := 73) rfl ?_
    refine ri_ret dX5_isNotAsTold_73 rfl (by decide) ?_
    first | exact ⟨isB_1 ⟨i62, hi62, e62, hd62⟩, rfl⟩ | exact ⟨isB_0 hn62, rfl⟩
set_option maxRecDepth 20000 in
set_option maxHeartbeats 4000000 in
theorem c_why1 {ad : Nm → Nat} {g : Sg} {w n : Nat} {A : AW} {a b : Int32} (hA : RW g w A) (hsz : gI g (20, w, 2) 3 = nI n) (hnb : n < 2 ^ 31) : PS mX5_whyRefused 0 (ent mX5_whyRefused [.ref (ad (10, w, 0)), .int (nI 1), .int a, .int b]) [] ad g (Ri (fun r g' => r = whyA A n 1 a b ∧ g' = g)) := by
  show PP mX5_whyRefused 0 [some (.ref (ad (10, w, 0))), some (.int (nI 1)), some (.int a), some (.int b), none] [] (Rel ad g) _
  refine pp_aload_n dX5_whyRefused_0 rfl isRf_r (q := 1) rfl ?_
  refine pp_iload_n dX5_whyRefused_1 rfl (q := 2) rfl ?_
  refine pp_iload_n dX5_whyRefused_2 rfl (q := 3) rfl ?_
  refine pp_iload_n dX5_whyRefused_3 rfl (q := 4) rfl ?_
  refine ps_callVi dX5_whyRefused_4 lk_X5_146 (by exact hA.1) (by rfl) (by rfl) (by rfl) (c_bey1 hA) (by rfl) (by exact Nat.le_of_ble_eq_true rfl) (by decide) (by decide) (by exact Nat.le_of_ble_eq_true rfl) (q := 7) rfl (fun r4 g4 h4 => ?_)
  obtain ⟨hb4, rfl⟩ := And.intro h4.1 h4.2.symm
  refine pp_if_eq (tgt := 13) dX5_whyRefused_7 (by decide) (q := 10) rfl (fun c7 => ?_) (fun c7 => ?_)
  · have hn4 := isB_f hb4 c7
    refine pp_aload_n dX5_whyRefused_13 rfl isRf_r (q := 14) rfl ?_
    refine pp_iload_n dX5_whyRefused_14 rfl (q := 15) rfl ?_
    refine pp_iload_n dX5_whyRefused_15 rfl (q := 16) rfl ?_
    refine pp_iload_n dX5_whyRefused_16 rfl (q := 17) rfl ?_
    refine ps_callVi dX5_whyRefused_17 lk_X5_150 (by exact hA.1) (by rfl) (by rfl) (by rfl) (c_mis1 hA) (by rfl) (by exact Nat.le_of_ble_eq_true rfl) (by decide) (by decide) (by exact Nat.le_of_ble_eq_true rfl) (q := 20) rfl (fun r17 g17 h17 => ?_)
    obtain ⟨hb17, rfl⟩ := And.intro h17.1 h17.2.symm
    refine pp_if_eq (tgt := 26) dX5_whyRefused_20 (by decide) (q := 23) rfl (fun c20 => ?_) (fun c20 => ?_)
    · have hn17 := isB_f hb17 c20
      refine pp_aload_n dX5_whyRefused_26 rfl isRf_r (q := 27) rfl ?_
      refine pp_iload_n dX5_whyRefused_27 rfl (q := 28) rfl ?_
      refine pp_iload_n dX5_whyRefused_28 rfl (q := 29) rfl ?_
      refine ps_callVi dX5_whyRefused_29 lk_X5_153 (by exact hA.1) (by rfl) (by rfl) (by rfl) (c_dwn1 hA) (by rfl) (by exact Nat.le_of_ble_eq_true rfl) (by decide) (by decide) (by exact Nat.le_of_ble_eq_true rfl) (q := 32) rfl (fun r29 g29 h29 => ?_)
      obtain ⟨hb29, rfl⟩ := And.intro h29.1 h29.2.symm
      refine pp_if_eq (tgt := 38) dX5_whyRefused_32 (by decide) (q := 35) rfl (fun c32 => ?_) (fun c32 => ?_)
      · have hn29 := isB_f hb29 c32
        refine pp_aload_n dX5_whyRefused_38 rfl isRf_r (q := 39) rfl ?_
        refine pp_iload_n dX5_whyRefused_39 rfl (q := 40) rfl ?_
        refine pp_iload_n dX5_whyRefused_40 rfl (q := 41) rfl ?_
        refine pp_iload_n dX5_whyRefused_41 rfl (q := 42) rfl ?_
        refine ps_callVi dX5_whyRefused_42 lk_X5_157 (by exact hA.1) (by rfl) (by rfl) (by rfl) (c_nat1 hA) (by rfl) (by exact Nat.le_of_ble_eq_true rfl) (by decide) (by decide) (by exact Nat.le_of_ble_eq_true rfl) (q := 45) rfl (fun r42 g42 h42 => ?_)
        obtain ⟨hb42, rfl⟩ := And.intro h42.1 h42.2.symm
        refine pp_if_eq (tgt := 51) dX5_whyRefused_45 (by decide) (q := 48) rfl (fun c45 => ?_) (fun c45 => ?_)
        · have hn42 := isB_f hb42 c45
          refine pp_aload_n dX5_whyRefused_51 rfl isRf_r (q := 52) rfl ?_
          refine ps_get dX5_whyRefused_52 fl_X5_28 hA.1 rfl rfl (q := 55) rfl ?_
          refine ps_callVi dX5_whyRefused_55 lk_X5_160 (by exact hA.1) (by rfl) (by rfl) (by rfl) (c_hasRoom hA.1 hA.2.1) (by rfl) (by exact Nat.le_of_ble_eq_true rfl) (by decide) (by decide) (by exact Nat.le_of_ble_eq_true rfl) (q := 58) rfl (fun r55 g55 h55 => ?_)
          obtain ⟨hb55, rfl⟩ := And.intro h55.1 h55.2.symm
          refine pp_if_eq (tgt := 78) dX5_whyRefused_58 (by decide) (q := 61) rfl (fun c58 => ?_) (fun c58 => ?_)
          · have hr := isB_f hb55 c58
            refine pp_iconst dX5_whyRefused_78 ci_0 (q := 79) rfl ?_
            refine pp_istore dX5_whyRefused_79 (by decide) (ls1_4 (nl1 rfl)) (q := 81) rfl ?_
            refine pp_iload dX5_whyRefused_81 rfl (q := 83) rfl ?_
            refine pp_if_eq (tgt := 90) dX5_whyRefused_83 (by decide) (q := 86) rfl (fun c83 => ?_) (fun c83 => absurd rfl c83)
            refine pp_bipush dX5_whyRefused_90 cb_m10 (q := 92) rfl ?_
            refine ri_ret dX5_whyRefused_92 rfl rfl ?_
            refine ⟨?_, rfl⟩
            unfold whyA
            rw [cIf_f hn4, cIf_f hn17, cIf_f hn29, cIf_f hn42]
            first | exact (cIf_t ⟨hr1, hr2⟩).symm | exact (cIf_f (fun q => absurd q.2 (by omega))).symm | exact (cIf_f (fun q => hr q.1)).symm
          · have hr1 := isB_t hb55 c58
            refine pp_aload_n dX5_whyRefused_61 rfl isRf_r (q := 62) rfl ?_
            refine ps_get dX5_whyRefused_62 fl_X5_37 hA.1 rfl rfl (q := 65) rfl ?_
            refine ps_get dX5_whyRefused_65 fl_X5_63 hA.1 rfl rfl (q := 68) rfl ?_
            rw [hsz]
            refine pp_sipush dX5_whyRefused_68 cs_4000 (q := 71) rfl ?_
            refine pp_icmp_ge (tgt := 78) dX5_whyRefused_71 (by decide) (q := 74) rfl (fun c71 => ?_) (fun c71 => ?_)
            · have hr2 := leT c71 (by decide) hnb
              refine pp_iconst dX5_whyRefused_78 ci_0 (q := 79) rfl ?_
              refine pp_istore dX5_whyRefused_79 (by decide) (ls1_4 (nl1 rfl)) (q := 81) rfl ?_
              refine pp_iload dX5_whyRefused_81 rfl (q := 83) rfl ?_
              refine pp_if_eq (tgt := 90) dX5_whyRefused_83 (by decide) (q := 86) rfl (fun c83 => ?_) (fun c83 => absurd rfl c83)
              refine pp_bipush dX5_whyRefused_90 cb_m10 (q := 92) rfl ?_
              refine ri_ret dX5_whyRefused_92 rfl rfl ?_
              refine ⟨?_, rfl⟩
              unfold whyA
              rw [cIf_f hn4, cIf_f hn17, cIf_f hn29, cIf_f hn42]
              first | exact (cIf_t ⟨hr1, hr2⟩).symm | exact (cIf_f (fun q => absurd q.2 (by omega))).symm | exact (cIf_f (fun q => hr q.1)).symm
            · have hr2 := leF c71 (by decide) hnb
              refine pp_iconst dX5_whyRefused_74 ci_1 (q := 75) rfl ?_
              refine pp_goto (tgt := 79) dX5_whyRefused_75 (by decide) ?_
              refine pp_istore dX5_whyRefused_79 (by decide) (ls1_4 (nl1 rfl)) (q := 81) rfl ?_
              refine pp_iload dX5_whyRefused_81 rfl (q := 83) rfl ?_
              refine pp_if_eq (tgt := 90) dX5_whyRefused_83 (by decide) (q := 86) rfl (fun c83 => absurd c83 nI1_ne) (fun c83 => ?_)
              refine pp_iconst dX5_whyRefused_86 ci_0 (q := 87) rfl ?_
              refine pp_goto (tgt := 92) dX5_whyRefused_87 (by decide) ?_
              refine ri_ret dX5_whyRefused_92 rfl rfl ?_
              refine ⟨?_, rfl⟩
              unfold whyA
              rw [cIf_f hn4, cIf_f hn17, cIf_f hn29, cIf_f hn42]
              first | exact (cIf_t ⟨hr1, hr2⟩).symm | exact (cIf_f (fun q => absurd q.2 (by omega))).symm | exact (cIf_f (fun q => hr q.1)).symm
        · have hp42 := isB_t hb42 c45
          refine pp_bipush dX5_whyRefused_48 cb_m9 (q := 50) rfl ?_
          refine ri_ret dX5_whyRefused_50 rfl rfl ?_
          exact ⟨by unfold whyA; rw [cIf_f hn4, cIf_f hn17, cIf_f hn29, cIf_t hp42], rfl⟩
      · have hp29 := isB_t hb29 c32
        refine pp_bipush dX5_whyRefused_35 cb_m8 (q := 37) rfl ?_
        refine ri_ret dX5_whyRefused_37 rfl rfl ?_
        exact ⟨by unfold whyA; rw [cIf_f hn4, cIf_f hn17, cIf_t hp29], rfl⟩
    · have hp17 := isB_t hb17 c20
      refine pp_bipush dX5_whyRefused_23 cb_m2 (q := 25) rfl ?_
      refine ri_ret dX5_whyRefused_25 rfl rfl ?_
      exact ⟨by unfold whyA; rw [cIf_f hn4, cIf_t hp17], rfl⟩
  · have hp4 := isB_t hb4 c7
    refine pp_bipush dX5_whyRefused_10 cb_m3 (q := 12) rfl ?_
    refine ri_ret dX5_whyRefused_12 rfl rfl ?_
    exact ⟨by unfold whyA; rw [cIf_t hp4], rfl⟩
set_option maxRecDepth 20000 in
set_option maxHeartbeats 4000000 in
theorem c_bey2 {ad : Nm → Nat} {g : Sg} {w : Nat} {A : AW} {a b : Int32} (hA : RW g w A) : PS mX5_isBeyond 0 (ent mX5_isBeyond [.ref (ad (10, w, 0)), .int (nI 2), .int a, .int b]) [] ad g (Ri (fun r g' => isB r (beyP A 2 a b) ∧ g' = g)) := by
  show PP mX5_isBeyond 0 [some (.ref (ad (10, w, 0))), some (.int (nI 2)), some (.int a), some (.int b)] [] (Rel ad g) _
  refine pp_iload_n dX5_isBeyond_0 rfl (q := 1) rfl ?_
  refine pp_tswK (v := 2) (tgt := 73) dX5_isBeyond_1 rfl (by decide) (by decide) (by decide) rfl (by decide) ?_
  refine pp_iload_n dX5_isBeyond_73 rfl (q := 74) rfl ?_
  refine ps_callNi dX5_isBeyond_74 lk_X5_69 (by rfl) c_isMB (by rfl) (by exact Nat.le_of_ble_eq_true rfl) (by decide) (by decide) (by exact Nat.le_of_ble_eq_true rfl) (q := 77) rfl (fun r74 g74 h74 => ?_)
  obtain ⟨hb74, rfl⟩ := And.intro h74.1 h74.2.symm
  refine pp_if_eq (tgt := 87) dX5_isBeyond_77 (by decide) (q := 80) rfl (fun c77 => ?_) (fun c77 => ?_)
  · refine pp_iconst dX5_isBeyond_87 ci_1 (q := 88) rfl ?_
    refine pp_goto (tgt := 92) dX5_isBeyond_88 (by decide) ?_
    refine ri_ret dX5_isBeyond_92 rfl (by decide) ?_
    first | exact ⟨isB_1 (Or.inl (isB_f hb74 c77)), rfl⟩ | exact ⟨isB_1 (Or.inr (isB_f hb81 c84)), rfl⟩ | exact ⟨isB_0 (fun q => q.elim (fun z => z (isB_t hb74 c77)) (fun z => z (isB_t hb81 c84))), rfl⟩
  · refine pp_iload_n dX5_isBeyond_80 rfl (q := 81) rfl ?_
    refine ps_callNi dX5_isBeyond_81 lk_X5_69 (by rfl) c_isMB (by rfl) (by exact Nat.le_of_ble_eq_true rfl) (by decide) (by decide) (by exact Nat.le_of_ble_eq_true rfl) (q := 84) rfl (fun r81 g81 h81 => ?_)
    obtain ⟨hb81, rfl⟩ := And.intro h81.1 h81.2.symm
    refine pp_if_ne (tgt := 91) dX5_isBeyond_84 (by decide) (q := 87) rfl (fun c84 => ?_) (fun c84 => ?_)
    · refine pp_iconst dX5_isBeyond_91 ci_0 (q := 92) rfl ?_
      refine ri_ret dX5_isBeyond_92 rfl (by decide) ?_
      first | exact ⟨isB_1 (Or.inl (isB_f hb74 c77)), rfl⟩ | exact ⟨isB_1 (Or.inr (isB_f hb81 c84)), rfl⟩ | exact ⟨isB_0 (fun q => q.elim (fun z => z (isB_t hb74 c77)) (fun z => z (isB_t hb81 c84))), rfl⟩
    · refine pp_iconst dX5_isBeyond_87 ci_1 (q := 88) rfl ?_
      refine pp_goto (tgt := 92) dX5_isBeyond_88 (by decide) ?_
      refine ri_ret dX5_isBeyond_92 rfl (by decide) ?_
      first | exact ⟨isB_1 (Or.inl (isB_f hb74 c77)), rfl⟩ | exact ⟨isB_1 (Or.inr (isB_f hb81 c84)), rfl⟩ | exact ⟨isB_0 (fun q => q.elim (fun z => z (isB_t hb74 c77)) (fun z => z (isB_t hb81 c84))), rfl⟩
set_option maxRecDepth 20000 in
set_option maxHeartbeats 4000000 in
theorem c_mis2 {ad : Nm → Nat} {g : Sg} {w : Nat} {A : AW} {a b : Int32} (hA : RW g w A) : PS mX5_isMissing 0 (ent mX5_isMissing [.ref (ad (10, w, 0)), .int (nI 2), .int a, .int b]) [] ad g (Ri (fun r g' => isB r (misP A 2 a b) ∧ g' = g)) := by
  show PP mX5_isMissing 0 [some (.ref (ad (10, w, 0))), some (.int (nI 2)), some (.int a), some (.int b)] [] (Rel ad g) _
  refine pp_iload_n dX5_isMissing_0 rfl (q := 1) rfl ?_
  refine pp_tswK (v := 2) (tgt := 80) dX5_isMissing_1 rfl (by decide) (by decide) (by decide) rfl (by decide) ?_
  refine pp_aload_n dX5_isMissing_80 rfl isRf_r (q := 81) rfl ?_
  refine pp_iload_n dX5_isMissing_81 rfl (q := 82) rfl ?_
  refine ps_callVr dX5_isMissing_82 lk_X5_76 (by exact hA.1) (by rfl) (by rfl) (by rfl) (c_memB hA) (by rfl) (by exact Nat.le_of_ble_eq_true rfl) (by decide) (by decide) (by exact Nat.le_of_ble_eq_true rfl) (q := 85) rfl (fun r82 g82 h82 => ?_)
  obtain ⟨h82, rfl⟩ := And.intro h82.1 h82.2.symm
  rcases h82 with ⟨i82, hi82, e82, hd82, rfl⟩ | ⟨hn82, rfl⟩
  · change PP mX5_isMissing 85 _ (Value.ref (ad (30, w, i82)) :: _) _ _
    refine pp_ifnull_r dX5_isMissing_85 (q := 88) rfl ?_
    refine pp_aload_n dX5_isMissing_88 rfl isRf_r (q := 89) rfl ?_
    refine pp_iload_n dX5_isMissing_89 rfl (q := 90) rfl ?_
    refine ps_callVr dX5_isMissing_90 lk_X5_76 (by exact hA.1) (by rfl) (by rfl) (by rfl) (c_memB hA) (by rfl) (by exact Nat.le_of_ble_eq_true rfl) (by decide) (by decide) (by exact Nat.le_of_ble_eq_true rfl) (q := 93) rfl (fun r90 g90 h90 => ?_)
    obtain ⟨h90, rfl⟩ := And.intro h90.1 h90.2.symm
    rcases h90 with ⟨i90, hi90, e90, hd90, rfl⟩ | ⟨hn90, rfl⟩
    · change PP mX5_isMissing 93 _ (Value.ref (ad (30, w, i90)) :: _) _ _
      refine pp_ifnonnull_r (tgt := 100) dX5_isMissing_93 (by decide) ?_
      refine pp_iconst dX5_isMissing_100 ci_0 (q := 101) rfl ?_
      refine ri_ret dX5_isMissing_101 rfl (by decide) ?_
      first | exact ⟨isB_0 (fun q => q.elim (fun z => z ⟨i82, hi82, e82, hd82⟩) (fun z => z ⟨i90, hi90, e90, hd90⟩)), rfl⟩ | exact ⟨isB_1 (Or.inr hn90), rfl⟩ | exact ⟨isB_1 (Or.inl hn82), rfl⟩
    · change PP mX5_isMissing 93 _ (Value.null :: _) _ _
      refine pp_ifnonnull_n dX5_isMissing_93 (q := 96) rfl ?_
      refine pp_iconst dX5_isMissing_96 ci_1 (q := 97) rfl ?_
      refine pp_goto (tgt := 101) dX5_isMissing_97 (by decide) ?_
      refine ri_ret dX5_isMissing_101 rfl (by decide) ?_
      first | exact ⟨isB_0 (fun q => q.elim (fun z => z ⟨i82, hi82, e82, hd82⟩) (fun z => z ⟨i90, hi90, e90, hd90⟩)), rfl⟩ | exact ⟨isB_1 (Or.inr hn90), rfl⟩ | exact ⟨isB_1 (Or.inl hn82), rfl⟩
  · change PP mX5_isMissing 85 _ (Value.null :: _) _ _
    refine pp_ifnull_n (tgt := 96) dX5_isMissing_85 (by decide) ?_
    refine pp_iconst dX5_isMissing_96 ci_1 (q := 97) rfl ?_
    refine pp_goto (tgt := 101) dX5_isMissing_97 (by decide) ?_
    refine ri_ret dX5_isMissing_101 rfl (by decide) ?_
    first | exact ⟨isB_0 (fun q => q.elim (fun z => z ⟨i82, hi82, e82, hd82⟩) (fun z => z ⟨i90, hi90, e90, hd90⟩)), rfl⟩ | exact ⟨isB_1 (Or.inr hn90), rfl⟩ | exact ⟨isB_1 (Or.inl hn82), rfl⟩
set_option maxRecDepth 20000 in
set_option maxHeartbeats 4000000 in
theorem c_dwn2 {ad : Nm → Nat} {g : Sg} {w : Nat} {A : AW} {a : Int32} (hA : RW g w A) : PS mX5_isDown 0 (ent mX5_isDown [.ref (ad (10, w, 0)), .int (nI 2), .int a]) [] ad g (Ri (fun r g' => isB r (dwnP A 2 a) ∧ g' = g)) := by
  show PP mX5_isDown 0 [some (.ref (ad (10, w, 0))), some (.int (nI 2)), some (.int a)] [] (Rel ad g) _
  refine pp_iload_n dX5_isDown_0 rfl (q := 1) rfl ?_
  refine pp_tswK (v := 2) (tgt := 32) dX5_isDown_1 rfl (by decide) (by decide) (by decide) rfl (by decide) ?_
  refine pp_aload_n dX5_isDown_32 rfl isRf_r (q := 33) rfl ?_
  refine pp_iload_n dX5_isDown_33 rfl (q := 34) rfl ?_
  refine ps_callVr dX5_isDown_34 lk_X5_171 (by exact hA.1) (by rfl) (by rfl) (by rfl) (c_upB hA) (by rfl) (by exact Nat.le_of_ble_eq_true rfl) (by decide) (by decide) (by exact Nat.le_of_ble_eq_true rfl) (q := 37) rfl (fun r34 g34 h34 => ?_)
  obtain ⟨h34, rfl⟩ := And.intro h34.1 h34.2.symm
  rcases h34 with ⟨i34, hi34, e34, hd34, rfl⟩ | ⟨hn34, rfl⟩
  · change PP mX5_isDown 37 _ (Value.ref (ad (30, w, i34)) :: _) _ _
    refine pp_ifnonnull_r (tgt := 44) dX5_isDown_37 (by decide) ?_
    refine pp_iconst dX5_isDown_44 ci_0 (q := 45) rfl ?_
    refine ri_ret dX5_isDown_45 rfl (by decide) ?_
    first | exact ⟨isB_0 (fun q => q ⟨i34, hi34, e34, hd34⟩), rfl⟩ | exact ⟨isB_1 hn34, rfl⟩
  · change PP mX5_isDown 37 _ (Value.null :: _) _ _
    refine pp_ifnonnull_n dX5_isDown_37 (q := 40) rfl ?_
    refine pp_iconst dX5_isDown_40 ci_1 (q := 41) rfl ?_
    refine pp_goto (tgt := 45) dX5_isDown_41 (by decide) ?_
    refine ri_ret dX5_isDown_45 rfl (by decide) ?_
    first | exact ⟨isB_0 (fun q => q ⟨i34, hi34, e34, hd34⟩), rfl⟩ | exact ⟨isB_1 hn34, rfl⟩
set_option maxRecDepth 20000 in
set_option maxHeartbeats 4000000 in
theorem c_nat2 {ad : Nm → Nat} {g : Sg} {w : Nat} {A : AW} {a b : Int32} (hA : RW g w A) : PS mX5_isNotAsTold 0 (ent mX5_isNotAsTold [.ref (ad (10, w, 0)), .int (nI 2), .int a, .int b]) [] ad g (Ri (fun r g' => isB r (natP A 2 a b) ∧ g' = g)) := by
  show PP mX5_isNotAsTold 0 [some (.ref (ad (10, w, 0))), some (.int (nI 2)), some (.int a), some (.int b)] [] (Rel ad g) _
  refine pp_iload_n dX5_isNotAsTold_0 rfl (q := 1) rfl ?_
  refine pp_tswK (v := 2) (tgt := 88) dX5_isNotAsTold_1 rfl (by decide) (by decide) (by decide) rfl (by decide) ?_
  refine pp_iload_n dX5_isNotAsTold_88 rfl (q := 89) rfl ?_
  refine pp_iload_n dX5_isNotAsTold_89 rfl (q := 90) rfl ?_
  refine pp_icmp_ne (tgt := 97) dX5_isNotAsTold_90 (by decide) (q := 93) rfl (fun c90 => ?_) (fun c90 => ?_)
  · refine pp_iconst dX5_isNotAsTold_97 ci_0 (q := 98) rfl ?_
    refine ri_ret dX5_isNotAsTold_98 rfl (by decide) ?_
    first | exact ⟨isB_1 c90, rfl⟩ | exact ⟨isB_0 c90, rfl⟩
  · refine pp_iconst dX5_isNotAsTold_93 ci_1 (q := 94) rfl ?_
    refine pp_goto (tgt := 98) dX5_isNotAsTold_94 (by decide) ?_
    refine ri_ret dX5_isNotAsTold_98 rfl (by decide) ?_
    first | exact ⟨isB_1 c90, rfl⟩ | exact ⟨isB_0 c90, rfl⟩
set_option maxRecDepth 20000 in
set_option maxHeartbeats 4000000 in
theorem c_why2 {ad : Nm → Nat} {g : Sg} {w n : Nat} {A : AW} {a b : Int32} (hA : RW g w A) (hsz : gI g (20, w, 2) 3 = nI n) (hnb : n < 2 ^ 31) : PS mX5_whyRefused 0 (ent mX5_whyRefused [.ref (ad (10, w, 0)), .int (nI 2), .int a, .int b]) [] ad g (Ri (fun r g' => r = whyA A n 2 a b ∧ g' = g)) := by
  show PP mX5_whyRefused 0 [some (.ref (ad (10, w, 0))), some (.int (nI 2)), some (.int a), some (.int b), none] [] (Rel ad g) _
  refine pp_aload_n dX5_whyRefused_0 rfl isRf_r (q := 1) rfl ?_
  refine pp_iload_n dX5_whyRefused_1 rfl (q := 2) rfl ?_
  refine pp_iload_n dX5_whyRefused_2 rfl (q := 3) rfl ?_
  refine pp_iload_n dX5_whyRefused_3 rfl (q := 4) rfl ?_
  refine ps_callVi dX5_whyRefused_4 lk_X5_146 (by exact hA.1) (by rfl) (by rfl) (by rfl) (c_bey2 hA) (by rfl) (by exact Nat.le_of_ble_eq_true rfl) (by decide) (by decide) (by exact Nat.le_of_ble_eq_true rfl) (q := 7) rfl (fun r4 g4 h4 => ?_)
  obtain ⟨hb4, rfl⟩ := And.intro h4.1 h4.2.symm
  refine pp_if_eq (tgt := 13) dX5_whyRefused_7 (by decide) (q := 10) rfl (fun c7 => ?_) (fun c7 => ?_)
  · have hn4 := isB_f hb4 c7
    refine pp_aload_n dX5_whyRefused_13 rfl isRf_r (q := 14) rfl ?_
    refine pp_iload_n dX5_whyRefused_14 rfl (q := 15) rfl ?_
    refine pp_iload_n dX5_whyRefused_15 rfl (q := 16) rfl ?_
    refine pp_iload_n dX5_whyRefused_16 rfl (q := 17) rfl ?_
    refine ps_callVi dX5_whyRefused_17 lk_X5_150 (by exact hA.1) (by rfl) (by rfl) (by rfl) (c_mis2 hA) (by rfl) (by exact Nat.le_of_ble_eq_true rfl) (by decide) (by decide) (by exact Nat.le_of_ble_eq_true rfl) (q := 20) rfl (fun r17 g17 h17 => ?_)
    obtain ⟨hb17, rfl⟩ := And.intro h17.1 h17.2.symm
    refine pp_if_eq (tgt := 26) dX5_whyRefused_20 (by decide) (q := 23) rfl (fun c20 => ?_) (fun c20 => ?_)
    · have hn17 := isB_f hb17 c20
      refine pp_aload_n dX5_whyRefused_26 rfl isRf_r (q := 27) rfl ?_
      refine pp_iload_n dX5_whyRefused_27 rfl (q := 28) rfl ?_
      refine pp_iload_n dX5_whyRefused_28 rfl (q := 29) rfl ?_
      refine ps_callVi dX5_whyRefused_29 lk_X5_153 (by exact hA.1) (by rfl) (by rfl) (by rfl) (c_dwn2 hA) (by rfl) (by exact Nat.le_of_ble_eq_true rfl) (by decide) (by decide) (by exact Nat.le_of_ble_eq_true rfl) (q := 32) rfl (fun r29 g29 h29 => ?_)
      obtain ⟨hb29, rfl⟩ := And.intro h29.1 h29.2.symm
      refine pp_if_eq (tgt := 38) dX5_whyRefused_32 (by decide) (q := 35) rfl (fun c32 => ?_) (fun c32 => ?_)
      · have hn29 := isB_f hb29 c32
        refine pp_aload_n dX5_whyRefused_38 rfl isRf_r (q := 39) rfl ?_
        refine pp_iload_n dX5_whyRefused_39 rfl (q := 40) rfl ?_
        refine pp_iload_n dX5_whyRefused_40 rfl (q := 41) rfl ?_
        refine pp_iload_n dX5_whyRefused_41 rfl (q := 42) rfl ?_
        refine ps_callVi dX5_whyRefused_42 lk_X5_157 (by exact hA.1) (by rfl) (by rfl) (by rfl) (c_nat2 hA) (by rfl) (by exact Nat.le_of_ble_eq_true rfl) (by decide) (by decide) (by exact Nat.le_of_ble_eq_true rfl) (q := 45) rfl (fun r42 g42 h42 => ?_)
        obtain ⟨hb42, rfl⟩ := And.intro h42.1 h42.2.symm
        refine pp_if_eq (tgt := 51) dX5_whyRefused_45 (by decide) (q := 48) rfl (fun c45 => ?_) (fun c45 => ?_)
        · have hn42 := isB_f hb42 c45
          refine pp_aload_n dX5_whyRefused_51 rfl isRf_r (q := 52) rfl ?_
          refine ps_get dX5_whyRefused_52 fl_X5_28 hA.1 rfl rfl (q := 55) rfl ?_
          refine ps_callVi dX5_whyRefused_55 lk_X5_160 (by exact hA.1) (by rfl) (by rfl) (by rfl) (c_hasRoom hA.1 hA.2.1) (by rfl) (by exact Nat.le_of_ble_eq_true rfl) (by decide) (by decide) (by exact Nat.le_of_ble_eq_true rfl) (q := 58) rfl (fun r55 g55 h55 => ?_)
          obtain ⟨hb55, rfl⟩ := And.intro h55.1 h55.2.symm
          refine pp_if_eq (tgt := 78) dX5_whyRefused_58 (by decide) (q := 61) rfl (fun c58 => ?_) (fun c58 => ?_)
          · have hr := isB_f hb55 c58
            refine pp_iconst dX5_whyRefused_78 ci_0 (q := 79) rfl ?_
            refine pp_istore dX5_whyRefused_79 (by decide) (ls1_4 (nl1 rfl)) (q := 81) rfl ?_
            refine pp_iload dX5_whyRefused_81 rfl (q := 83) rfl ?_
            refine pp_if_eq (tgt := 90) dX5_whyRefused_83 (by decide) (q := 86) rfl (fun c83 => ?_) (fun c83 => absurd rfl c83)
            refine pp_bipush dX5_whyRefused_90 cb_m10 (q := 92) rfl ?_
            refine ri_ret dX5_whyRefused_92 rfl rfl ?_
            refine ⟨?_, rfl⟩
            unfold whyA
            rw [cIf_f hn4, cIf_f hn17, cIf_f hn29, cIf_f hn42]
            first | exact (cIf_t ⟨hr1, hr2⟩).symm | exact (cIf_f (fun q => absurd q.2 (by omega))).symm | exact (cIf_f (fun q => hr q.1)).symm
          · have hr1 := isB_t hb55 c58
            refine pp_aload_n dX5_whyRefused_61 rfl isRf_r (q := 62) rfl ?_
            refine ps_get dX5_whyRefused_62 fl_X5_37 hA.1 rfl rfl (q := 65) rfl ?_
            refine ps_get dX5_whyRefused_65 fl_X5_63 hA.1 rfl rfl (q := 68) rfl ?_
            rw [hsz]
            refine pp_sipush dX5_whyRefused_68 cs_4000 (q := 71) rfl ?_
            refine pp_icmp_ge (tgt := 78) dX5_whyRefused_71 (by decide) (q := 74) rfl (fun c71 => ?_) (fun c71 => ?_)
            · have hr2 := leT c71 (by decide) hnb
              refine pp_iconst dX5_whyRefused_78 ci_0 (q := 79) rfl ?_
              refine pp_istore dX5_whyRefused_79 (by decide) (ls1_4 (nl1 rfl)) (q := 81) rfl ?_
              refine pp_iload dX5_whyRefused_81 rfl (q := 83) rfl ?_
              refine pp_if_eq (tgt := 90) dX5_whyRefused_83 (by decide) (q := 86) rfl (fun c83 => ?_) (fun c83 => absurd rfl c83)
              refine pp_bipush dX5_whyRefused_90 cb_m10 (q := 92) rfl ?_
              refine ri_ret dX5_whyRefused_92 rfl rfl ?_
              refine ⟨?_, rfl⟩
              unfold whyA
              rw [cIf_f hn4, cIf_f hn17, cIf_f hn29, cIf_f hn42]
              first | exact (cIf_t ⟨hr1, hr2⟩).symm | exact (cIf_f (fun q => absurd q.2 (by omega))).symm | exact (cIf_f (fun q => hr q.1)).symm
            · have hr2 := leF c71 (by decide) hnb
              refine pp_iconst dX5_whyRefused_74 ci_1 (q := 75) rfl ?_
              refine pp_goto (tgt := 79) dX5_whyRefused_75 (by decide) ?_
              refine pp_istore dX5_whyRefused_79 (by decide) (ls1_4 (nl1 rfl)) (q := 81) rfl ?_
              refine pp_iload dX5_whyRefused_81 rfl (q := 83) rfl ?_
              refine pp_if_eq (tgt := 90) dX5_whyRefused_83 (by decide) (q := 86) rfl (fun c83 => absurd c83 nI1_ne) (fun c83 => ?_)
              refine pp_iconst dX5_whyRefused_86 ci_0 (q := 87) rfl ?_
              refine pp_goto (tgt := 92) dX5_whyRefused_87 (by decide) ?_
              refine ri_ret dX5_whyRefused_92 rfl rfl ?_
              refine ⟨?_, rfl⟩
              unfold whyA
              rw [cIf_f hn4, cIf_f hn17, cIf_f hn29, cIf_f hn42]
              first | exact (cIf_t ⟨hr1, hr2⟩).symm | exact (cIf_f (fun q => absurd q.2 (by omega))).symm | exact (cIf_f (fun q => hr q.1)).symm
        · have hp42 := isB_t hb42 c45
          refine pp_bipush dX5_whyRefused_48 cb_m9 (q := 50) rfl ?_
          refine ri_ret dX5_whyRefused_50 rfl rfl ?_
          exact ⟨by unfold whyA; rw [cIf_f hn4, cIf_f hn17, cIf_f hn29, cIf_t hp42], rfl⟩
      · have hp29 := isB_t hb29 c32
        refine pp_bipush dX5_whyRefused_35 cb_m8 (q := 37) rfl ?_
        refine ri_ret dX5_whyRefused_37 rfl rfl ?_
        exact ⟨by unfold whyA; rw [cIf_f hn4, cIf_f hn17, cIf_t hp29], rfl⟩
    · have hp17 := isB_t hb17 c20
      refine pp_bipush dX5_whyRefused_23 cb_m2 (q := 25) rfl ?_
      refine ri_ret dX5_whyRefused_25 rfl rfl ?_
      exact ⟨by unfold whyA; rw [cIf_f hn4, cIf_t hp17], rfl⟩
  · have hp4 := isB_t hb4 c7
    refine pp_bipush dX5_whyRefused_10 cb_m3 (q := 12) rfl ?_
    refine ri_ret dX5_whyRefused_12 rfl rfl ?_
    exact ⟨by unfold whyA; rw [cIf_t hp4], rfl⟩
set_option maxRecDepth 20000 in
set_option maxHeartbeats 4000000 in
theorem c_bey3 {ad : Nm → Nat} {g : Sg} {w : Nat} {A : AW} {a b : Int32} (hA : RW g w A) : PS mX5_isBeyond 0 (ent mX5_isBeyond [.ref (ad (10, w, 0)), .int (nI 3), .int a, .int b]) [] ad g (Ri (fun r g' => isB r (beyP A 3 a b) ∧ g' = g)) := by
  show PP mX5_isBeyond 0 [some (.ref (ad (10, w, 0))), some (.int (nI 3)), some (.int a), some (.int b)] [] (Rel ad g) _
  refine pp_iload_n dX5_isBeyond_0 rfl (q := 1) rfl ?_
  refine pp_tswK (v := 3) (tgt := 93) dX5_isBeyond_1 rfl (by decide) (by decide) (by decide) rfl (by decide) ?_
  refine pp_iload_n dX5_isBeyond_93 rfl (q := 94) rfl ?_
  refine ps_callNi dX5_isBeyond_94 lk_X5_69 (by rfl) c_isMB (by rfl) (by exact Nat.le_of_ble_eq_true rfl) (by decide) (by decide) (by exact Nat.le_of_ble_eq_true rfl) (q := 97) rfl (fun r94 g94 h94 => ?_)
  obtain ⟨hb94, rfl⟩ := And.intro h94.1 h94.2.symm
  refine pp_if_ne (tgt := 104) dX5_isBeyond_97 (by decide) (q := 100) rfl (fun c97 => ?_) (fun c97 => ?_)
  · refine pp_iconst dX5_isBeyond_104 ci_0 (q := 105) rfl ?_
    refine ri_ret dX5_isBeyond_105 rfl (by decide) ?_
    first | exact ⟨isB_0 (fun q => q (isB_t hb94 c97)), rfl⟩ | exact ⟨isB_1 (isB_f hb94 c97), rfl⟩
  · refine pp_iconst dX5_isBeyond_100 ci_1 (q := 101) rfl ?_
    refine pp_goto (tgt := 105) dX5_isBeyond_101 (by decide) ?_
    refine ri_ret dX5_isBeyond_105 rfl (by decide) ?_
    first | exact ⟨isB_0 (fun q => q (isB_t hb94 c97)), rfl⟩ | exact ⟨isB_1 (isB_f hb94 c97), rfl⟩
set_option maxRecDepth 20000 in
set_option maxHeartbeats 4000000 in
theorem c_mis3 {ad : Nm → Nat} {g : Sg} {w : Nat} {A : AW} {a b : Int32} (hA : RW g w A) : PS mX5_isMissing 0 (ent mX5_isMissing [.ref (ad (10, w, 0)), .int (nI 3), .int a, .int b]) [] ad g (Ri (fun r g' => isB r (misP A 3 a b) ∧ g' = g)) := by
  show PP mX5_isMissing 0 [some (.ref (ad (10, w, 0))), some (.int (nI 3)), some (.int a), some (.int b)] [] (Rel ad g) _
  refine pp_iload_n dX5_isMissing_0 rfl (q := 1) rfl ?_
  refine pp_tswK (v := 3) (tgt := 102) dX5_isMissing_1 rfl (by decide) (by decide) (by decide) rfl (by decide) ?_
  refine pp_aload_n dX5_isMissing_102 rfl isRf_r (q := 103) rfl ?_
  refine pp_iload_n dX5_isMissing_103 rfl (q := 104) rfl ?_
  refine ps_callVr dX5_isMissing_104 lk_X5_76 (by exact hA.1) (by rfl) (by rfl) (by rfl) (c_memB hA) (by rfl) (by exact Nat.le_of_ble_eq_true rfl) (by decide) (by decide) (by exact Nat.le_of_ble_eq_true rfl) (q := 107) rfl (fun r104 g104 h104 => ?_)
  obtain ⟨h104, rfl⟩ := And.intro h104.1 h104.2.symm
  rcases h104 with ⟨i104, hi104, e104, hd104, rfl⟩ | ⟨hn104, rfl⟩
  · change PP mX5_isMissing 107 _ (Value.ref (ad (30, w, i104)) :: _) _ _
    refine pp_ifnonnull_r (tgt := 114) dX5_isMissing_107 (by decide) ?_
    refine pp_iconst dX5_isMissing_114 ci_0 (q := 115) rfl ?_
    refine ri_ret dX5_isMissing_115 rfl (by decide) ?_
    first | exact ⟨isB_0 (fun q => q ⟨i104, hi104, e104, hd104⟩), rfl⟩ | exact ⟨isB_1 hn104, rfl⟩
  · change PP mX5_isMissing 107 _ (Value.null :: _) _ _
    refine pp_ifnonnull_n dX5_isMissing_107 (q := 110) rfl ?_
    refine pp_iconst dX5_isMissing_110 ci_1 (q := 111) rfl ?_
    refine pp_goto (tgt := 115) dX5_isMissing_111 (by decide) ?_
    refine ri_ret dX5_isMissing_115 rfl (by decide) ?_
    first | exact ⟨isB_0 (fun q => q ⟨i104, hi104, e104, hd104⟩), rfl⟩ | exact ⟨isB_1 hn104, rfl⟩
set_option maxRecDepth 20000 in
set_option maxHeartbeats 4000000 in
theorem c_dwn3 {ad : Nm → Nat} {g : Sg} {w : Nat} {A : AW} {a : Int32} (hA : RW g w A) : PS mX5_isDown 0 (ent mX5_isDown [.ref (ad (10, w, 0)), .int (nI 3), .int a]) [] ad g (Ri (fun r g' => isB r (dwnP A 3 a) ∧ g' = g)) := by
  show PP mX5_isDown 0 [some (.ref (ad (10, w, 0))), some (.int (nI 3)), some (.int a)] [] (Rel ad g) _
  refine pp_iload_n dX5_isDown_0 rfl (q := 1) rfl ?_
  refine pp_tswK (v := 3) (tgt := 32) dX5_isDown_1 rfl (by decide) (by decide) (by decide) rfl (by decide) ?_
  refine pp_aload_n dX5_isDown_32 rfl isRf_r (q := 33) rfl ?_
  refine pp_iload_n dX5_isDown_33 rfl (q := 34) rfl ?_
  refine ps_callVr dX5_isDown_34 lk_X5_171 (by exact hA.1) (by rfl) (by rfl) (by rfl) (c_upB hA) (by rfl) (by exact Nat.le_of_ble_eq_true rfl) (by decide) (by decide) (by exact Nat.le_of_ble_eq_true rfl) (q := 37) rfl (fun r34 g34 h34 => ?_)
  obtain ⟨h34, rfl⟩ := And.intro h34.1 h34.2.symm
  rcases h34 with ⟨i34, hi34, e34, hd34, rfl⟩ | ⟨hn34, rfl⟩
  · change PP mX5_isDown 37 _ (Value.ref (ad (30, w, i34)) :: _) _ _
    refine pp_ifnonnull_r (tgt := 44) dX5_isDown_37 (by decide) ?_
    refine pp_iconst dX5_isDown_44 ci_0 (q := 45) rfl ?_
    refine ri_ret dX5_isDown_45 rfl (by decide) ?_
    first | exact ⟨isB_0 (fun q => q ⟨i34, hi34, e34, hd34⟩), rfl⟩ | exact ⟨isB_1 hn34, rfl⟩
  · change PP mX5_isDown 37 _ (Value.null :: _) _ _
    refine pp_ifnonnull_n dX5_isDown_37 (q := 40) rfl ?_
    refine pp_iconst dX5_isDown_40 ci_1 (q := 41) rfl ?_
    refine pp_goto (tgt := 45) dX5_isDown_41 (by decide) ?_
    refine ri_ret dX5_isDown_45 rfl (by decide) ?_
    first | exact ⟨isB_0 (fun q => q ⟨i34, hi34, e34, hd34⟩), rfl⟩ | exact ⟨isB_1 hn34, rfl⟩
set_option maxRecDepth 20000 in
set_option maxHeartbeats 4000000 in
theorem c_nat3 {ad : Nm → Nat} {g : Sg} {w : Nat} {A : AW} {a b : Int32} (hA : RW g w A) : PS mX5_isNotAsTold 0 (ent mX5_isNotAsTold [.ref (ad (10, w, 0)), .int (nI 3), .int a, .int b]) [] ad g (Ri (fun r g' => isB r (natP A 3 a b) ∧ g' = g)) := by
  show PP mX5_isNotAsTold 0 [some (.ref (ad (10, w, 0))), some (.int (nI 3)), some (.int a), some (.int b)] [] (Rel ad g) _
  refine pp_iload_n dX5_isNotAsTold_0 rfl (q := 1) rfl ?_
  refine pp_tswK (v := 3) (tgt := 99) dX5_isNotAsTold_1 rfl (by decide) (by decide) (by decide) rfl (by decide) ?_
  refine pp_iconst dX5_isNotAsTold_99 ci_0 (q := 100) rfl ?_
  refine ri_ret dX5_isNotAsTold_100 rfl (by decide) ?_
  exact ⟨isB_0 (fun q => q), rfl⟩
set_option maxRecDepth 20000 in
set_option maxHeartbeats 4000000 in
theorem c_why3 {ad : Nm → Nat} {g : Sg} {w n : Nat} {A : AW} {a b : Int32} (hA : RW g w A) (hsz : gI g (20, w, 2) 3 = nI n) (hnb : n < 2 ^ 31) : PS mX5_whyRefused 0 (ent mX5_whyRefused [.ref (ad (10, w, 0)), .int (nI 3), .int a, .int b]) [] ad g (Ri (fun r g' => r = whyA A n 3 a b ∧ g' = g)) := by
  show PP mX5_whyRefused 0 [some (.ref (ad (10, w, 0))), some (.int (nI 3)), some (.int a), some (.int b), none] [] (Rel ad g) _
  refine pp_aload_n dX5_whyRefused_0 rfl isRf_r (q := 1) rfl ?_
  refine pp_iload_n dX5_whyRefused_1 rfl (q := 2) rfl ?_
  refine pp_iload_n dX5_whyRefused_2 rfl (q := 3) rfl ?_
  refine pp_iload_n dX5_whyRefused_3 rfl (q := 4) rfl ?_
  refine ps_callVi dX5_whyRefused_4 lk_X5_146 (by exact hA.1) (by rfl) (by rfl) (by rfl) (c_bey3 hA) (by rfl) (by exact Nat.le_of_ble_eq_true rfl) (by decide) (by decide) (by exact Nat.le_of_ble_eq_true rfl) (q := 7) rfl (fun r4 g4 h4 => ?_)
  obtain ⟨hb4, rfl⟩ := And.intro h4.1 h4.2.symm
  refine pp_if_eq (tgt := 13) dX5_whyRefused_7 (by decide) (q := 10) rfl (fun c7 => ?_) (fun c7 => ?_)
  · have hn4 := isB_f hb4 c7
    refine pp_aload_n dX5_whyRefused_13 rfl isRf_r (q := 14) rfl ?_
    refine pp_iload_n dX5_whyRefused_14 rfl (q := 15) rfl ?_
    refine pp_iload_n dX5_whyRefused_15 rfl (q := 16) rfl ?_
    refine pp_iload_n dX5_whyRefused_16 rfl (q := 17) rfl ?_
    refine ps_callVi dX5_whyRefused_17 lk_X5_150 (by exact hA.1) (by rfl) (by rfl) (by rfl) (c_mis3 hA) (by rfl) (by exact Nat.le_of_ble_eq_true rfl) (by decide) (by decide) (by exact Nat.le_of_ble_eq_true rfl) (q := 20) rfl (fun r17 g17 h17 => ?_)
    obtain ⟨hb17, rfl⟩ := And.intro h17.1 h17.2.symm
    refine pp_if_eq (tgt := 26) dX5_whyRefused_20 (by decide) (q := 23) rfl (fun c20 => ?_) (fun c20 => ?_)
    · have hn17 := isB_f hb17 c20
      refine pp_aload_n dX5_whyRefused_26 rfl isRf_r (q := 27) rfl ?_
      refine pp_iload_n dX5_whyRefused_27 rfl (q := 28) rfl ?_
      refine pp_iload_n dX5_whyRefused_28 rfl (q := 29) rfl ?_
      refine ps_callVi dX5_whyRefused_29 lk_X5_153 (by exact hA.1) (by rfl) (by rfl) (by rfl) (c_dwn3 hA) (by rfl) (by exact Nat.le_of_ble_eq_true rfl) (by decide) (by decide) (by exact Nat.le_of_ble_eq_true rfl) (q := 32) rfl (fun r29 g29 h29 => ?_)
      obtain ⟨hb29, rfl⟩ := And.intro h29.1 h29.2.symm
      refine pp_if_eq (tgt := 38) dX5_whyRefused_32 (by decide) (q := 35) rfl (fun c32 => ?_) (fun c32 => ?_)
      · have hn29 := isB_f hb29 c32
        refine pp_aload_n dX5_whyRefused_38 rfl isRf_r (q := 39) rfl ?_
        refine pp_iload_n dX5_whyRefused_39 rfl (q := 40) rfl ?_
        refine pp_iload_n dX5_whyRefused_40 rfl (q := 41) rfl ?_
        refine pp_iload_n dX5_whyRefused_41 rfl (q := 42) rfl ?_
        refine ps_callVi dX5_whyRefused_42 lk_X5_157 (by exact hA.1) (by rfl) (by rfl) (by rfl) (c_nat3 hA) (by rfl) (by exact Nat.le_of_ble_eq_true rfl) (by decide) (by decide) (by exact Nat.le_of_ble_eq_true rfl) (q := 45) rfl (fun r42 g42 h42 => ?_)
        obtain ⟨hb42, rfl⟩ := And.intro h42.1 h42.2.symm
        refine pp_if_eq (tgt := 51) dX5_whyRefused_45 (by decide) (q := 48) rfl (fun c45 => ?_) (fun c45 => ?_)
        · have hn42 := isB_f hb42 c45
          refine pp_aload_n dX5_whyRefused_51 rfl isRf_r (q := 52) rfl ?_
          refine ps_get dX5_whyRefused_52 fl_X5_28 hA.1 rfl rfl (q := 55) rfl ?_
          refine ps_callVi dX5_whyRefused_55 lk_X5_160 (by exact hA.1) (by rfl) (by rfl) (by rfl) (c_hasRoom hA.1 hA.2.1) (by rfl) (by exact Nat.le_of_ble_eq_true rfl) (by decide) (by decide) (by exact Nat.le_of_ble_eq_true rfl) (q := 58) rfl (fun r55 g55 h55 => ?_)
          obtain ⟨hb55, rfl⟩ := And.intro h55.1 h55.2.symm
          refine pp_if_eq (tgt := 78) dX5_whyRefused_58 (by decide) (q := 61) rfl (fun c58 => ?_) (fun c58 => ?_)
          · have hr := isB_f hb55 c58
            refine pp_iconst dX5_whyRefused_78 ci_0 (q := 79) rfl ?_
            refine pp_istore dX5_whyRefused_79 (by decide) (ls1_4 (nl1 rfl)) (q := 81) rfl ?_
            refine pp_iload dX5_whyRefused_81 rfl (q := 83) rfl ?_
            refine pp_if_eq (tgt := 90) dX5_whyRefused_83 (by decide) (q := 86) rfl (fun c83 => ?_) (fun c83 => absurd rfl c83)
            refine pp_bipush dX5_whyRefused_90 cb_m10 (q := 92) rfl ?_
            refine ri_ret dX5_whyRefused_92 rfl rfl ?_
            refine ⟨?_, rfl⟩
            unfold whyA
            rw [cIf_f hn4, cIf_f hn17, cIf_f hn29, cIf_f hn42]
            first | exact (cIf_t ⟨hr1, hr2⟩).symm | exact (cIf_f (fun q => absurd q.2 (by omega))).symm | exact (cIf_f (fun q => hr q.1)).symm
          · have hr1 := isB_t hb55 c58
            refine pp_aload_n dX5_whyRefused_61 rfl isRf_r (q := 62) rfl ?_
            refine ps_get dX5_whyRefused_62 fl_X5_37 hA.1 rfl rfl (q := 65) rfl ?_
            refine ps_get dX5_whyRefused_65 fl_X5_63 hA.1 rfl rfl (q := 68) rfl ?_
            rw [hsz]
            refine pp_sipush dX5_whyRefused_68 cs_4000 (q := 71) rfl ?_
            refine pp_icmp_ge (tgt := 78) dX5_whyRefused_71 (by decide) (q := 74) rfl (fun c71 => ?_) (fun c71 => ?_)
            · have hr2 := leT c71 (by decide) hnb
              refine pp_iconst dX5_whyRefused_78 ci_0 (q := 79) rfl ?_
              refine pp_istore dX5_whyRefused_79 (by decide) (ls1_4 (nl1 rfl)) (q := 81) rfl ?_
              refine pp_iload dX5_whyRefused_81 rfl (q := 83) rfl ?_
              refine pp_if_eq (tgt := 90) dX5_whyRefused_83 (by decide) (q := 86) rfl (fun c83 => ?_) (fun c83 => absurd rfl c83)
              refine pp_bipush dX5_whyRefused_90 cb_m10 (q := 92) rfl ?_
              refine ri_ret dX5_whyRefused_92 rfl rfl ?_
              refine ⟨?_, rfl⟩
              unfold whyA
              rw [cIf_f hn4, cIf_f hn17, cIf_f hn29, cIf_f hn42]
              first | exact (cIf_t ⟨hr1, hr2⟩).symm | exact (cIf_f (fun q => absurd q.2 (by omega))).symm | exact (cIf_f (fun q => hr q.1)).symm
            · have hr2 := leF c71 (by decide) hnb
              refine pp_iconst dX5_whyRefused_74 ci_1 (q := 75) rfl ?_
              refine pp_goto (tgt := 79) dX5_whyRefused_75 (by decide) ?_
              refine pp_istore dX5_whyRefused_79 (by decide) (ls1_4 (nl1 rfl)) (q := 81) rfl ?_
              refine pp_iload dX5_whyRefused_81 rfl (q := 83) rfl ?_
              refine pp_if_eq (tgt := 90) dX5_whyRefused_83 (by decide) (q := 86) rfl (fun c83 => absurd c83 nI1_ne) (fun c83 => ?_)
              refine pp_iconst dX5_whyRefused_86 ci_0 (q := 87) rfl ?_
              refine pp_goto (tgt := 92) dX5_whyRefused_87 (by decide) ?_
              refine ri_ret dX5_whyRefused_92 rfl rfl ?_
              refine ⟨?_, rfl⟩
              unfold whyA
              rw [cIf_f hn4, cIf_f hn17, cIf_f hn29, cIf_f hn42]
              first | exact (cIf_t ⟨hr1, hr2⟩).symm | exact (cIf_f (fun q => absurd q.2 (by omega))).symm | exact (cIf_f (fun q => hr q.1)).symm
        · have hp42 := isB_t hb42 c45
          refine pp_bipush dX5_whyRefused_48 cb_m9 (q := 50) rfl ?_
          refine ri_ret dX5_whyRefused_50 rfl rfl ?_
          exact ⟨by unfold whyA; rw [cIf_f hn4, cIf_f hn17, cIf_f hn29, cIf_t hp42], rfl⟩
      · have hp29 := isB_t hb29 c32
        refine pp_bipush dX5_whyRefused_35 cb_m8 (q := 37) rfl ?_
        refine ri_ret dX5_whyRefused_37 rfl rfl ?_
        exact ⟨by unfold whyA; rw [cIf_f hn4, cIf_f hn17, cIf_t hp29], rfl⟩
    · have hp17 := isB_t hb17 c20
      refine pp_bipush dX5_whyRefused_23 cb_m2 (q := 25) rfl ?_
      refine ri_ret dX5_whyRefused_25 rfl rfl ?_
      exact ⟨by unfold whyA; rw [cIf_f hn4, cIf_t hp17], rfl⟩
  · have hp4 := isB_t hb4 c7
    refine pp_bipush dX5_whyRefused_10 cb_m3 (q := 12) rfl ?_
    refine ri_ret dX5_whyRefused_12 rfl rfl ?_
    exact ⟨by unfold whyA; rw [cIf_t hp4], rfl⟩
set_option maxRecDepth 20000 in
set_option maxHeartbeats 4000000 in
theorem c_bey4 {ad : Nm → Nat} {g : Sg} {w : Nat} {A : AW} {a b : Int32} (hA : RW g w A) : PS mX5_isBeyond 0 (ent mX5_isBeyond [.ref (ad (10, w, 0)), .int (nI 4), .int a, .int b]) [] ad g (Ri (fun r g' => isB r (beyP A 4 a b) ∧ g' = g)) := by
  show PP mX5_isBeyond 0 [some (.ref (ad (10, w, 0))), some (.int (nI 4)), some (.int a), some (.int b)] [] (Rel ad g) _
  refine pp_iload_n dX5_isBeyond_0 rfl (q := 1) rfl ?_
  refine pp_tswK (v := 4) (tgt := 93) dX5_isBeyond_1 rfl (by decide) (by decide) (by decide) rfl (by decide) ?_
  refine pp_iload_n dX5_isBeyond_93 rfl (q := 94) rfl ?_
  refine ps_callNi dX5_isBeyond_94 lk_X5_69 (by rfl) c_isMB (by rfl) (by exact Nat.le_of_ble_eq_true rfl) (by decide) (by decide) (by exact Nat.le_of_ble_eq_true rfl) (q := 97) rfl (fun r94 g94 h94 => ?_)
  obtain ⟨hb94, rfl⟩ := And.intro h94.1 h94.2.symm
  refine pp_if_ne (tgt := 104) dX5_isBeyond_97 (by decide) (q := 100) rfl (fun c97 => ?_) (fun c97 => ?_)
  · refine pp_iconst dX5_isBeyond_104 ci_0 (q := 105) rfl ?_
    refine ri_ret dX5_isBeyond_105 rfl (by decide) ?_
    first | exact ⟨isB_0 (fun q => q (isB_t hb94 c97)), rfl⟩ | exact ⟨isB_1 (isB_f hb94 c97), rfl⟩
  · refine pp_iconst dX5_isBeyond_100 ci_1 (q := 101) rfl ?_
    refine pp_goto (tgt := 105) dX5_isBeyond_101 (by decide) ?_
    refine ri_ret dX5_isBeyond_105 rfl (by decide) ?_
    first | exact ⟨isB_0 (fun q => q (isB_t hb94 c97)), rfl⟩ | exact ⟨isB_1 (isB_f hb94 c97), rfl⟩
set_option maxRecDepth 20000 in
set_option maxHeartbeats 4000000 in
theorem c_mis4 {ad : Nm → Nat} {g : Sg} {w : Nat} {A : AW} {a b : Int32} (hA : RW g w A) : PS mX5_isMissing 0 (ent mX5_isMissing [.ref (ad (10, w, 0)), .int (nI 4), .int a, .int b]) [] ad g (Ri (fun r g' => isB r (misP A 4 a b) ∧ g' = g)) := by
  show PP mX5_isMissing 0 [some (.ref (ad (10, w, 0))), some (.int (nI 4)), some (.int a), some (.int b)] [] (Rel ad g) _
  refine pp_iload_n dX5_isMissing_0 rfl (q := 1) rfl ?_
  refine pp_tswK (v := 4) (tgt := 102) dX5_isMissing_1 rfl (by decide) (by decide) (by decide) rfl (by decide) ?_
  refine pp_aload_n dX5_isMissing_102 rfl isRf_r (q := 103) rfl ?_
  refine pp_iload_n dX5_isMissing_103 rfl (q := 104) rfl ?_
  refine ps_callVr dX5_isMissing_104 lk_X5_76 (by exact hA.1) (by rfl) (by rfl) (by rfl) (c_memB hA) (by rfl) (by exact Nat.le_of_ble_eq_true rfl) (by decide) (by decide) (by exact Nat.le_of_ble_eq_true rfl) (q := 107) rfl (fun r104 g104 h104 => ?_)
  obtain ⟨h104, rfl⟩ := And.intro h104.1 h104.2.symm
  rcases h104 with ⟨i104, hi104, e104, hd104, rfl⟩ | ⟨hn104, rfl⟩
  · change PP mX5_isMissing 107 _ (Value.ref (ad (30, w, i104)) :: _) _ _
    refine pp_ifnonnull_r (tgt := 114) dX5_isMissing_107 (by decide) ?_
    refine pp_iconst dX5_isMissing_114 ci_0 (q := 115) rfl ?_
    refine ri_ret dX5_isMissing_115 rfl (by decide) ?_
    first | exact ⟨isB_0 (fun q => q ⟨i104, hi104, e104, hd104⟩), rfl⟩ | exact ⟨isB_1 hn104, rfl⟩
  · change PP mX5_isMissing 107 _ (Value.null :: _) _ _
    refine pp_ifnonnull_n dX5_isMissing_107 (q := 110) rfl ?_
    refine pp_iconst dX5_isMissing_110 ci_1 (q := 111) rfl ?_
    refine pp_goto (tgt := 115) dX5_isMissing_111 (by decide) ?_
    refine ri_ret dX5_isMissing_115 rfl (by decide) ?_
    first | exact ⟨isB_0 (fun q => q ⟨i104, hi104, e104, hd104⟩), rfl⟩ | exact ⟨isB_1 hn104, rfl⟩
set_option maxRecDepth 20000 in
set_option maxHeartbeats 4000000 in
theorem c_dwn4 {ad : Nm → Nat} {g : Sg} {w : Nat} {A : AW} {a : Int32} (hA : RW g w A) : PS mX5_isDown 0 (ent mX5_isDown [.ref (ad (10, w, 0)), .int (nI 4), .int a]) [] ad g (Ri (fun r g' => isB r (dwnP A 4 a) ∧ g' = g)) := by
  show PP mX5_isDown 0 [some (.ref (ad (10, w, 0))), some (.int (nI 4)), some (.int a)] [] (Rel ad g) _
  refine pp_iload_n dX5_isDown_0 rfl (q := 1) rfl ?_
  refine pp_tswK (v := 4) (tgt := 32) dX5_isDown_1 rfl (by decide) (by decide) (by decide) rfl (by decide) ?_
  refine pp_aload_n dX5_isDown_32 rfl isRf_r (q := 33) rfl ?_
  refine pp_iload_n dX5_isDown_33 rfl (q := 34) rfl ?_
  refine ps_callVr dX5_isDown_34 lk_X5_171 (by exact hA.1) (by rfl) (by rfl) (by rfl) (c_upB hA) (by rfl) (by exact Nat.le_of_ble_eq_true rfl) (by decide) (by decide) (by exact Nat.le_of_ble_eq_true rfl) (q := 37) rfl (fun r34 g34 h34 => ?_)
  obtain ⟨h34, rfl⟩ := And.intro h34.1 h34.2.symm
  rcases h34 with ⟨i34, hi34, e34, hd34, rfl⟩ | ⟨hn34, rfl⟩
  · change PP mX5_isDown 37 _ (Value.ref (ad (30, w, i34)) :: _) _ _
    refine pp_ifnonnull_r (tgt := 44) dX5_isDown_37 (by decide) ?_
    refine pp_iconst dX5_isDown_44 ci_0 (q := 45) rfl ?_
    refine ri_ret dX5_isDown_45 rfl (by decide) ?_
    first | exact ⟨isB_0 (fun q => q ⟨i34, hi34, e34, hd34⟩), rfl⟩ | exact ⟨isB_1 hn34, rfl⟩
  · change PP mX5_isDown 37 _ (Value.null :: _) _ _
    refine pp_ifnonnull_n dX5_isDown_37 (q := 40) rfl ?_
    refine pp_iconst dX5_isDown_40 ci_1 (q := 41) rfl ?_
    refine pp_goto (tgt := 45) dX5_isDown_41 (by decide) ?_
    refine ri_ret dX5_isDown_45 rfl (by decide) ?_
    first | exact ⟨isB_0 (fun q => q ⟨i34, hi34, e34, hd34⟩), rfl⟩ | exact ⟨isB_1 hn34, rfl⟩
set_option maxRecDepth 20000 in
set_option maxHeartbeats 4000000 in
theorem c_nat4 {ad : Nm → Nat} {g : Sg} {w : Nat} {A : AW} {a b : Int32} (hA : RW g w A) : PS mX5_isNotAsTold 0 (ent mX5_isNotAsTold [.ref (ad (10, w, 0)), .int (nI 4), .int a, .int b]) [] ad g (Ri (fun r g' => isB r (natP A 4 a b) ∧ g' = g)) := by
  show PP mX5_isNotAsTold 0 [some (.ref (ad (10, w, 0))), some (.int (nI 4)), some (.int a), some (.int b)] [] (Rel ad g) _
  refine pp_iload_n dX5_isNotAsTold_0 rfl (q := 1) rfl ?_
  refine pp_tswK (v := 4) (tgt := 99) dX5_isNotAsTold_1 rfl (by decide) (by decide) (by decide) rfl (by decide) ?_
  refine pp_iconst dX5_isNotAsTold_99 ci_0 (q := 100) rfl ?_
  refine ri_ret dX5_isNotAsTold_100 rfl (by decide) ?_
  exact ⟨isB_0 (fun q => q), rfl⟩
set_option maxRecDepth 20000 in
set_option maxHeartbeats 4000000 in
theorem c_why4 {ad : Nm → Nat} {g : Sg} {w n : Nat} {A : AW} {a b : Int32} (hA : RW g w A) (hsz : gI g (20, w, 2) 3 = nI n) (hnb : n < 2 ^ 31) : PS mX5_whyRefused 0 (ent mX5_whyRefused [.ref (ad (10, w, 0)), .int (nI 4), .int a, .int b]) [] ad g (Ri (fun r g' => r = whyA A n 4 a b ∧ g' = g)) := by
  show PP mX5_whyRefused 0 [some (.ref (ad (10, w, 0))), some (.int (nI 4)), some (.int a), some (.int b), none] [] (Rel ad g) _
  refine pp_aload_n dX5_whyRefused_0 rfl isRf_r (q := 1) rfl ?_
  refine pp_iload_n dX5_whyRefused_1 rfl (q := 2) rfl ?_
  refine pp_iload_n dX5_whyRefused_2 rfl (q := 3) rfl ?_
  refine pp_iload_n dX5_whyRefused_3 rfl (q := 4) rfl ?_
  refine ps_callVi dX5_whyRefused_4 lk_X5_146 (by exact hA.1) (by rfl) (by rfl) (by rfl) (c_bey4 hA) (by rfl) (by exact Nat.le_of_ble_eq_true rfl) (by decide) (by decide) (by exact Nat.le_of_ble_eq_true rfl) (q := 7) rfl (fun r4 g4 h4 => ?_)
  obtain ⟨hb4, rfl⟩ := And.intro h4.1 h4.2.symm
  refine pp_if_eq (tgt := 13) dX5_whyRefused_7 (by decide) (q := 10) rfl (fun c7 => ?_) (fun c7 => ?_)
  · have hn4 := isB_f hb4 c7
    refine pp_aload_n dX5_whyRefused_13 rfl isRf_r (q := 14) rfl ?_
    refine pp_iload_n dX5_whyRefused_14 rfl (q := 15) rfl ?_
    refine pp_iload_n dX5_whyRefused_15 rfl (q := 16) rfl ?_
    refine pp_iload_n dX5_whyRefused_16 rfl (q := 17) rfl ?_
    refine ps_callVi dX5_whyRefused_17 lk_X5_150 (by exact hA.1) (by rfl) (by rfl) (by rfl) (c_mis4 hA) (by rfl) (by exact Nat.le_of_ble_eq_true rfl) (by decide) (by decide) (by exact Nat.le_of_ble_eq_true rfl) (q := 20) rfl (fun r17 g17 h17 => ?_)
    obtain ⟨hb17, rfl⟩ := And.intro h17.1 h17.2.symm
    refine pp_if_eq (tgt := 26) dX5_whyRefused_20 (by decide) (q := 23) rfl (fun c20 => ?_) (fun c20 => ?_)
    · have hn17 := isB_f hb17 c20
      refine pp_aload_n dX5_whyRefused_26 rfl isRf_r (q := 27) rfl ?_
      refine pp_iload_n dX5_whyRefused_27 rfl (q := 28) rfl ?_
      refine pp_iload_n dX5_whyRefused_28 rfl (q := 29) rfl ?_
      refine ps_callVi dX5_whyRefused_29 lk_X5_153 (by exact hA.1) (by rfl) (by rfl) (by rfl) (c_dwn4 hA) (by rfl) (by exact Nat.le_of_ble_eq_true rfl) (by decide) (by decide) (by exact Nat.le_of_ble_eq_true rfl) (q := 32) rfl (fun r29 g29 h29 => ?_)
      obtain ⟨hb29, rfl⟩ := And.intro h29.1 h29.2.symm
      refine pp_if_eq (tgt := 38) dX5_whyRefused_32 (by decide) (q := 35) rfl (fun c32 => ?_) (fun c32 => ?_)
      · have hn29 := isB_f hb29 c32
        refine pp_aload_n dX5_whyRefused_38 rfl isRf_r (q := 39) rfl ?_
        refine pp_iload_n dX5_whyRefused_39 rfl (q := 40) rfl ?_
        refine pp_iload_n dX5_whyRefused_40 rfl (q := 41) rfl ?_
        refine pp_iload_n dX5_whyRefused_41 rfl (q := 42) rfl ?_
        refine ps_callVi dX5_whyRefused_42 lk_X5_157 (by exact hA.1) (by rfl) (by rfl) (by rfl) (c_nat4 hA) (by rfl) (by exact Nat.le_of_ble_eq_true rfl) (by decide) (by decide) (by exact Nat.le_of_ble_eq_true rfl) (q := 45) rfl (fun r42 g42 h42 => ?_)
        obtain ⟨hb42, rfl⟩ := And.intro h42.1 h42.2.symm
        refine pp_if_eq (tgt := 51) dX5_whyRefused_45 (by decide) (q := 48) rfl (fun c45 => ?_) (fun c45 => ?_)
        · have hn42 := isB_f hb42 c45
          refine pp_aload_n dX5_whyRefused_51 rfl isRf_r (q := 52) rfl ?_
          refine ps_get dX5_whyRefused_52 fl_X5_28 hA.1 rfl rfl (q := 55) rfl ?_
          refine ps_callVi dX5_whyRefused_55 lk_X5_160 (by exact hA.1) (by rfl) (by rfl) (by rfl) (c_hasRoom hA.1 hA.2.1) (by rfl) (by exact Nat.le_of_ble_eq_true rfl) (by decide) (by decide) (by exact Nat.le_of_ble_eq_true rfl) (q := 58) rfl (fun r55 g55 h55 => ?_)
          obtain ⟨hb55, rfl⟩ := And.intro h55.1 h55.2.symm
          refine pp_if_eq (tgt := 78) dX5_whyRefused_58 (by decide) (q := 61) rfl (fun c58 => ?_) (fun c58 => ?_)
          · have hr := isB_f hb55 c58
            refine pp_iconst dX5_whyRefused_78 ci_0 (q := 79) rfl ?_
            refine pp_istore dX5_whyRefused_79 (by decide) (ls1_4 (nl1 rfl)) (q := 81) rfl ?_
            refine pp_iload dX5_whyRefused_81 rfl (q := 83) rfl ?_
            refine pp_if_eq (tgt := 90) dX5_whyRefused_83 (by decide) (q := 86) rfl (fun c83 => ?_) (fun c83 => absurd rfl c83)
            refine pp_bipush dX5_whyRefused_90 cb_m10 (q := 92) rfl ?_
            refine ri_ret dX5_whyRefused_92 rfl rfl ?_
            refine ⟨?_, rfl⟩
            unfold whyA
            rw [cIf_f hn4, cIf_f hn17, cIf_f hn29, cIf_f hn42]
            first | exact (cIf_t ⟨hr1, hr2⟩).symm | exact (cIf_f (fun q => absurd q.2 (by omega))).symm | exact (cIf_f (fun q => hr q.1)).symm
          · have hr1 := isB_t hb55 c58
            refine pp_aload_n dX5_whyRefused_61 rfl isRf_r (q := 62) rfl ?_
            refine ps_get dX5_whyRefused_62 fl_X5_37 hA.1 rfl rfl (q := 65) rfl ?_
            refine ps_get dX5_whyRefused_65 fl_X5_63 hA.1 rfl rfl (q := 68) rfl ?_
            rw [hsz]
            refine pp_sipush dX5_whyRefused_68 cs_4000 (q := 71) rfl ?_
            refine pp_icmp_ge (tgt := 78) dX5_whyRefused_71 (by decide) (q := 74) rfl (fun c71 => ?_) (fun c71 => ?_)
            · have hr2 := leT c71 (by decide) hnb
              refine pp_iconst dX5_whyRefused_78 ci_0 (q := 79) rfl ?_
              refine pp_istore dX5_whyRefused_79 (by decide) (ls1_4 (nl1 rfl)) (q := 81) rfl ?_
              refine pp_iload dX5_whyRefused_81 rfl (q := 83) rfl ?_
              refine pp_if_eq (tgt := 90) dX5_whyRefused_83 (by decide) (q := 86) rfl (fun c83 => ?_) (fun c83 => absurd rfl c83)
              refine pp_bipush dX5_whyRefused_90 cb_m10 (q := 92) rfl ?_
              refine ri_ret dX5_whyRefused_92 rfl rfl ?_
              refine ⟨?_, rfl⟩
              unfold whyA
              rw [cIf_f hn4, cIf_f hn17, cIf_f hn29, cIf_f hn42]
              first | exact (cIf_t ⟨hr1, hr2⟩).symm | exact (cIf_f (fun q => absurd q.2 (by omega))).symm | exact (cIf_f (fun q => hr q.1)).symm
            · have hr2 := leF c71 (by decide) hnb
              refine pp_iconst dX5_whyRefused_74 ci_1 (q := 75) rfl ?_
              refine pp_goto (tgt := 79) dX5_whyRefused_75 (by decide) ?_
              refine pp_istore dX5_whyRefused_79 (by decide) (ls1_4 (nl1 rfl)) (q := 81) rfl ?_
              refine pp_iload dX5_whyRefused_81 rfl (q := 83) rfl ?_
              refine pp_if_eq (tgt := 90) dX5_whyRefused_83 (by decide) (q := 86) rfl (fun c83 => absurd c83 nI1_ne) (fun c83 => ?_)
              refine pp_iconst dX5_whyRefused_86 ci_0 (q := 87) rfl ?_
              refine pp_goto (tgt := 92) dX5_whyRefused_87 (by decide) ?_
              refine ri_ret dX5_whyRefused_92 rfl rfl ?_
              refine ⟨?_, rfl⟩
              unfold whyA
              rw [cIf_f hn4, cIf_f hn17, cIf_f hn29, cIf_f hn42]
              first | exact (cIf_t ⟨hr1, hr2⟩).symm | exact (cIf_f (fun q => absurd q.2 (by omega))).symm | exact (cIf_f (fun q => hr q.1)).symm
        · have hp42 := isB_t hb42 c45
          refine pp_bipush dX5_whyRefused_48 cb_m9 (q := 50) rfl ?_
          refine ri_ret dX5_whyRefused_50 rfl rfl ?_
          exact ⟨by unfold whyA; rw [cIf_f hn4, cIf_f hn17, cIf_f hn29, cIf_t hp42], rfl⟩
      · have hp29 := isB_t hb29 c32
        refine pp_bipush dX5_whyRefused_35 cb_m8 (q := 37) rfl ?_
        refine ri_ret dX5_whyRefused_37 rfl rfl ?_
        exact ⟨by unfold whyA; rw [cIf_f hn4, cIf_f hn17, cIf_t hp29], rfl⟩
    · have hp17 := isB_t hb17 c20
      refine pp_bipush dX5_whyRefused_23 cb_m2 (q := 25) rfl ?_
      refine ri_ret dX5_whyRefused_25 rfl rfl ?_
      exact ⟨by unfold whyA; rw [cIf_f hn4, cIf_t hp17], rfl⟩
  · have hp4 := isB_t hb4 c7
    refine pp_bipush dX5_whyRefused_10 cb_m3 (q := 12) rfl ?_
    refine ri_ret dX5_whyRefused_12 rfl rfl ?_
    exact ⟨by unfold whyA; rw [cIf_t hp4], rfl⟩
set_option maxRecDepth 20000 in
set_option maxHeartbeats 4000000 in
theorem c_bey5 {ad : Nm → Nat} {g : Sg} {w : Nat} {A : AW} {a b : Int32} (hA : RW g w A) : PS mX5_isBeyond 0 (ent mX5_isBeyond [.ref (ad (10, w, 0)), .int (nI 5), .int a, .int b]) [] ad g (Ri (fun r g' => isB r (beyP A 5 a b) ∧ g' = g)) := by
  show PP mX5_isBeyond 0 [some (.ref (ad (10, w, 0))), some (.int (nI 5)), some (.int a), some (.int b)] [] (Rel ad g) _
  refine pp_iload_n dX5_isBeyond_0 rfl (q := 1) rfl ?_
  refine pp_tswK (v := 5) (tgt := 93) dX5_isBeyond_1 rfl (by decide) (by decide) (by decide) rfl (by decide) ?_
  refine pp_iload_n dX5_isBeyond_93 rfl (q := 94) rfl ?_
  refine ps_callNi dX5_isBeyond_94 lk_X5_69 (by rfl) c_isMB (by rfl) (by exact Nat.le_of_ble_eq_true rfl) (by decide) (by decide) (by exact Nat.le_of_ble_eq_true rfl) (q := 97) rfl (fun r94 g94 h94 => ?_)
  obtain ⟨hb94, rfl⟩ := And.intro h94.1 h94.2.symm
  refine pp_if_ne (tgt := 104) dX5_isBeyond_97 (by decide) (q := 100) rfl (fun c97 => ?_) (fun c97 => ?_)
  · refine pp_iconst dX5_isBeyond_104 ci_0 (q := 105) rfl ?_
    refine ri_ret dX5_isBeyond_105 rfl (by decide) ?_
    first | exact ⟨isB_0 (fun q => q (isB_t hb94 c97)), rfl⟩ | exact ⟨isB_1 (isB_f hb94 c97), rfl⟩
  · refine pp_iconst dX5_isBeyond_100 ci_1 (q := 101) rfl ?_
    refine pp_goto (tgt := 105) dX5_isBeyond_101 (by decide) ?_
    refine ri_ret dX5_isBeyond_105 rfl (by decide) ?_
    first | exact ⟨isB_0 (fun q => q (isB_t hb94 c97)), rfl⟩ | exact ⟨isB_1 (isB_f hb94 c97), rfl⟩
set_option maxRecDepth 20000 in
set_option maxHeartbeats 4000000 in
theorem c_mis5 {ad : Nm → Nat} {g : Sg} {w : Nat} {A : AW} {a b : Int32} (hA : RW g w A) : PS mX5_isMissing 0 (ent mX5_isMissing [.ref (ad (10, w, 0)), .int (nI 5), .int a, .int b]) [] ad g (Ri (fun r g' => isB r (misP A 5 a b) ∧ g' = g)) := by
  show PP mX5_isMissing 0 [some (.ref (ad (10, w, 0))), some (.int (nI 5)), some (.int a), some (.int b)] [] (Rel ad g) _
  refine pp_iload_n dX5_isMissing_0 rfl (q := 1) rfl ?_
  refine pp_tswK (v := 5) (tgt := 102) dX5_isMissing_1 rfl (by decide) (by decide) (by decide) rfl (by decide) ?_
  refine pp_aload_n dX5_isMissing_102 rfl isRf_r (q := 103) rfl ?_
  refine pp_iload_n dX5_isMissing_103 rfl (q := 104) rfl ?_
  refine ps_callVr dX5_isMissing_104 lk_X5_76 (by exact hA.1) (by rfl) (by rfl) (by rfl) (c_memB hA) (by rfl) (by exact Nat.le_of_ble_eq_true rfl) (by decide) (by decide) (by exact Nat.le_of_ble_eq_true rfl) (q := 107) rfl (fun r104 g104 h104 => ?_)
  obtain ⟨h104, rfl⟩ := And.intro h104.1 h104.2.symm
  rcases h104 with ⟨i104, hi104, e104, hd104, rfl⟩ | ⟨hn104, rfl⟩
  · change PP mX5_isMissing 107 _ (Value.ref (ad (30, w, i104)) :: _) _ _
    refine pp_ifnonnull_r (tgt := 114) dX5_isMissing_107 (by decide) ?_
    refine pp_iconst dX5_isMissing_114 ci_0 (q := 115) rfl ?_
    refine ri_ret dX5_isMissing_115 rfl (by decide) ?_
    first | exact ⟨isB_0 (fun q => q ⟨i104, hi104, e104, hd104⟩), rfl⟩ | exact ⟨isB_1 hn104, rfl⟩
  · change PP mX5_isMissing 107 _ (Value.null :: _) _ _
    refine pp_ifnonnull_n dX5_isMissing_107 (q := 110) rfl ?_
    refine pp_iconst dX5_isMissing_110 ci_1 (q := 111) rfl ?_
    refine pp_goto (tgt := 115) dX5_isMissing_111 (by decide) ?_
    refine ri_ret dX5_isMissing_115 rfl (by decide) ?_
    first | exact ⟨isB_0 (fun q => q ⟨i104, hi104, e104, hd104⟩), rfl⟩ | exact ⟨isB_1 hn104, rfl⟩
set_option maxRecDepth 20000 in
set_option maxHeartbeats 4000000 in
theorem c_dwn5 {ad : Nm → Nat} {g : Sg} {w : Nat} {A : AW} {a : Int32} (hA : RW g w A) : PS mX5_isDown 0 (ent mX5_isDown [.ref (ad (10, w, 0)), .int (nI 5), .int a]) [] ad g (Ri (fun r g' => isB r (dwnP A 5 a) ∧ g' = g)) := by
  show PP mX5_isDown 0 [some (.ref (ad (10, w, 0))), some (.int (nI 5)), some (.int a)] [] (Rel ad g) _
  refine pp_iload_n dX5_isDown_0 rfl (q := 1) rfl ?_
  refine pp_tswK (v := 5) (tgt := 32) dX5_isDown_1 rfl (by decide) (by decide) (by decide) rfl (by decide) ?_
  refine pp_aload_n dX5_isDown_32 rfl isRf_r (q := 33) rfl ?_
  refine pp_iload_n dX5_isDown_33 rfl (q := 34) rfl ?_
  refine ps_callVr dX5_isDown_34 lk_X5_171 (by exact hA.1) (by rfl) (by rfl) (by rfl) (c_upB hA) (by rfl) (by exact Nat.le_of_ble_eq_true rfl) (by decide) (by decide) (by exact Nat.le_of_ble_eq_true rfl) (q := 37) rfl (fun r34 g34 h34 => ?_)
  obtain ⟨h34, rfl⟩ := And.intro h34.1 h34.2.symm
  rcases h34 with ⟨i34, hi34, e34, hd34, rfl⟩ | ⟨hn34, rfl⟩
  · change PP mX5_isDown 37 _ (Value.ref (ad (30, w, i34)) :: _) _ _
    refine pp_ifnonnull_r (tgt := 44) dX5_isDown_37 (by decide) ?_
    refine pp_iconst dX5_isDown_44 ci_0 (q := 45) rfl ?_
    refine ri_ret dX5_isDown_45 rfl (by decide) ?_
    first | exact ⟨isB_0 (fun q => q ⟨i34, hi34, e34, hd34⟩), rfl⟩ | exact ⟨isB_1 hn34, rfl⟩
  · change PP mX5_isDown 37 _ (Value.null :: _) _ _
    refine pp_ifnonnull_n dX5_isDown_37 (q := 40) rfl ?_
    refine pp_iconst dX5_isDown_40 ci_1 (q := 41) rfl ?_
    refine pp_goto (tgt := 45) dX5_isDown_41 (by decide) ?_
    refine ri_ret dX5_isDown_45 rfl (by decide) ?_
    first | exact ⟨isB_0 (fun q => q ⟨i34, hi34, e34, hd34⟩), rfl⟩ | exact ⟨isB_1 hn34, rfl⟩
set_option maxRecDepth 20000 in
set_option maxHeartbeats 4000000 in
theorem c_nat5 {ad : Nm → Nat} {g : Sg} {w : Nat} {A : AW} {a b : Int32} (hA : RW g w A) : PS mX5_isNotAsTold 0 (ent mX5_isNotAsTold [.ref (ad (10, w, 0)), .int (nI 5), .int a, .int b]) [] ad g (Ri (fun r g' => isB r (natP A 5 a b) ∧ g' = g)) := by
  show PP mX5_isNotAsTold 0 [some (.ref (ad (10, w, 0))), some (.int (nI 5)), some (.int a), some (.int b)] [] (Rel ad g) _
  refine pp_iload_n dX5_isNotAsTold_0 rfl (q := 1) rfl ?_
  refine pp_tswK (v := 5) (tgt := 99) dX5_isNotAsTold_1 rfl (by decide) (by decide) (by decide) rfl (by decide) ?_
  refine pp_iconst dX5_isNotAsTold_99 ci_0 (q := 100) rfl ?_
  refine ri_ret dX5_isNotAsTold_100 rfl (by decide) ?_
  exact ⟨isB_0 (fun q => q), rfl⟩
set_option maxRecDepth 20000 in
set_option maxHeartbeats 4000000 in
theorem c_why5 {ad : Nm → Nat} {g : Sg} {w n : Nat} {A : AW} {a b : Int32} (hA : RW g w A) (hsz : gI g (20, w, 2) 3 = nI n) (hnb : n < 2 ^ 31) : PS mX5_whyRefused 0 (ent mX5_whyRefused [.ref (ad (10, w, 0)), .int (nI 5), .int a, .int b]) [] ad g (Ri (fun r g' => r = whyA A n 5 a b ∧ g' = g)) := by
  show PP mX5_whyRefused 0 [some (.ref (ad (10, w, 0))), some (.int (nI 5)), some (.int a), some (.int b), none] [] (Rel ad g) _
  refine pp_aload_n dX5_whyRefused_0 rfl isRf_r (q := 1) rfl ?_
  refine pp_iload_n dX5_whyRefused_1 rfl (q := 2) rfl ?_
  refine pp_iload_n dX5_whyRefused_2 rfl (q := 3) rfl ?_
  refine pp_iload_n dX5_whyRefused_3 rfl (q := 4) rfl ?_
  refine ps_callVi dX5_whyRefused_4 lk_X5_146 (by exact hA.1) (by rfl) (by rfl) (by rfl) (c_bey5 hA) (by rfl) (by exact Nat.le_of_ble_eq_true rfl) (by decide) (by decide) (by exact Nat.le_of_ble_eq_true rfl) (q := 7) rfl (fun r4 g4 h4 => ?_)
  obtain ⟨hb4, rfl⟩ := And.intro h4.1 h4.2.symm
  refine pp_if_eq (tgt := 13) dX5_whyRefused_7 (by decide) (q := 10) rfl (fun c7 => ?_) (fun c7 => ?_)
  · have hn4 := isB_f hb4 c7
    refine pp_aload_n dX5_whyRefused_13 rfl isRf_r (q := 14) rfl ?_
    refine pp_iload_n dX5_whyRefused_14 rfl (q := 15) rfl ?_
    refine pp_iload_n dX5_whyRefused_15 rfl (q := 16) rfl ?_
    refine pp_iload_n dX5_whyRefused_16 rfl (q := 17) rfl ?_
    refine ps_callVi dX5_whyRefused_17 lk_X5_150 (by exact hA.1) (by rfl) (by rfl) (by rfl) (c_mis5 hA) (by rfl) (by exact Nat.le_of_ble_eq_true rfl) (by decide) (by decide) (by exact Nat.le_of_ble_eq_true rfl) (q := 20) rfl (fun r17 g17 h17 => ?_)
    obtain ⟨hb17, rfl⟩ := And.intro h17.1 h17.2.symm
    refine pp_if_eq (tgt := 26) dX5_whyRefused_20 (by decide) (q := 23) rfl (fun c20 => ?_) (fun c20 => ?_)
    · have hn17 := isB_f hb17 c20
      refine pp_aload_n dX5_whyRefused_26 rfl isRf_r (q := 27) rfl ?_
      refine pp_iload_n dX5_whyRefused_27 rfl (q := 28) rfl ?_
      refine pp_iload_n dX5_whyRefused_28 rfl (q := 29) rfl ?_
      refine ps_callVi dX5_whyRefused_29 lk_X5_153 (by exact hA.1) (by rfl) (by rfl) (by rfl) (c_dwn5 hA) (by rfl) (by exact Nat.le_of_ble_eq_true rfl) (by decide) (by decide) (by exact Nat.le_of_ble_eq_true rfl) (q := 32) rfl (fun r29 g29 h29 => ?_)
      obtain ⟨hb29, rfl⟩ := And.intro h29.1 h29.2.symm
      refine pp_if_eq (tgt := 38) dX5_whyRefused_32 (by decide) (q := 35) rfl (fun c32 => ?_) (fun c32 => ?_)
      · have hn29 := isB_f hb29 c32
        refine pp_aload_n dX5_whyRefused_38 rfl isRf_r (q := 39) rfl ?_
        refine pp_iload_n dX5_whyRefused_39 rfl (q := 40) rfl ?_
        refine pp_iload_n dX5_whyRefused_40 rfl (q := 41) rfl ?_
        refine pp_iload_n dX5_whyRefused_41 rfl (q := 42) rfl ?_
        refine ps_callVi dX5_whyRefused_42 lk_X5_157 (by exact hA.1) (by rfl) (by rfl) (by rfl) (c_nat5 hA) (by rfl) (by exact Nat.le_of_ble_eq_true rfl) (by decide) (by decide) (by exact Nat.le_of_ble_eq_true rfl) (q := 45) rfl (fun r42 g42 h42 => ?_)
        obtain ⟨hb42, rfl⟩ := And.intro h42.1 h42.2.symm
        refine pp_if_eq (tgt := 51) dX5_whyRefused_45 (by decide) (q := 48) rfl (fun c45 => ?_) (fun c45 => ?_)
        · have hn42 := isB_f hb42 c45
          refine pp_aload_n dX5_whyRefused_51 rfl isRf_r (q := 52) rfl ?_
          refine ps_get dX5_whyRefused_52 fl_X5_28 hA.1 rfl rfl (q := 55) rfl ?_
          refine ps_callVi dX5_whyRefused_55 lk_X5_160 (by exact hA.1) (by rfl) (by rfl) (by rfl) (c_hasRoom hA.1 hA.2.1) (by rfl) (by exact Nat.le_of_ble_eq_true rfl) (by decide) (by decide) (by exact Nat.le_of_ble_eq_true rfl) (q := 58) rfl (fun r55 g55 h55 => ?_)
          obtain ⟨hb55, rfl⟩ := And.intro h55.1 h55.2.symm
          refine pp_if_eq (tgt := 78) dX5_whyRefused_58 (by decide) (q := 61) rfl (fun c58 => ?_) (fun c58 => ?_)
          · have hr := isB_f hb55 c58
            refine pp_iconst dX5_whyRefused_78 ci_0 (q := 79) rfl ?_
            refine pp_istore dX5_whyRefused_79 (by decide) (ls1_4 (nl1 rfl)) (q := 81) rfl ?_
            refine pp_iload dX5_whyRefused_81 rfl (q := 83) rfl ?_
            refine pp_if_eq (tgt := 90) dX5_whyRefused_83 (by decide) (q := 86) rfl (fun c83 => ?_) (fun c83 => absurd rfl c83)
            refine pp_bipush dX5_whyRefused_90 cb_m10 (q := 92) rfl ?_
            refine ri_ret dX5_whyRefused_92 rfl rfl ?_
            refine ⟨?_, rfl⟩
            unfold whyA
            rw [cIf_f hn4, cIf_f hn17, cIf_f hn29, cIf_f hn42]
            first | exact (cIf_t ⟨hr1, hr2⟩).symm | exact (cIf_f (fun q => absurd q.2 (by omega))).symm | exact (cIf_f (fun q => hr q.1)).symm
          · have hr1 := isB_t hb55 c58
            refine pp_aload_n dX5_whyRefused_61 rfl isRf_r (q := 62) rfl ?_
            refine ps_get dX5_whyRefused_62 fl_X5_37 hA.1 rfl rfl (q := 65) rfl ?_
            refine ps_get dX5_whyRefused_65 fl_X5_63 hA.1 rfl rfl (q := 68) rfl ?_
            rw [hsz]
            refine pp_sipush dX5_whyRefused_68 cs_4000 (q := 71) rfl ?_
            refine pp_icmp_ge (tgt := 78) dX5_whyRefused_71 (by decide) (q := 74) rfl (fun c71 => ?_) (fun c71 => ?_)
            · have hr2 := leT c71 (by decide) hnb
              refine pp_iconst dX5_whyRefused_78 ci_0 (q := 79) rfl ?_
              refine pp_istore dX5_whyRefused_79 (by decide) (ls1_4 (nl1 rfl)) (q := 81) rfl ?_
              refine pp_iload dX5_whyRefused_81 rfl (q := 83) rfl ?_
              refine pp_if_eq (tgt := 90) dX5_whyRefused_83 (by decide) (q := 86) rfl (fun c83 => ?_) (fun c83 => absurd rfl c83)
              refine pp_bipush dX5_whyRefused_90 cb_m10 (q := 92) rfl ?_
              refine ri_ret dX5_whyRefused_92 rfl rfl ?_
              refine ⟨?_, rfl⟩
              unfold whyA
              rw [cIf_f hn4, cIf_f hn17, cIf_f hn29, cIf_f hn42]
              first | exact (cIf_t ⟨hr1, hr2⟩).symm | exact (cIf_f (fun q => absurd q.2 (by omega))).symm | exact (cIf_f (fun q => hr q.1)).symm
            · have hr2 := leF c71 (by decide) hnb
              refine pp_iconst dX5_whyRefused_74 ci_1 (q := 75) rfl ?_
              refine pp_goto (tgt := 79) dX5_whyRefused_75 (by decide) ?_
              refine pp_istore dX5_whyRefused_79 (by decide) (ls1_4 (nl1 rfl)) (q := 81) rfl ?_
              refine pp_iload dX5_whyRefused_81 rfl (q := 83) rfl ?_
              refine pp_if_eq (tgt := 90) dX5_whyRefused_83 (by decide) (q := 86) rfl (fun c83 => absurd c83 nI1_ne) (fun c83 => ?_)
              refine pp_iconst dX5_whyRefused_86 ci_0 (q := 87) rfl ?_
              refine pp_goto (tgt := 92) dX5_whyRefused_87 (by decide) ?_
              refine ri_ret dX5_whyRefused_92 rfl rfl ?_
              refine ⟨?_, rfl⟩
              unfold whyA
              rw [cIf_f hn4, cIf_f hn17, cIf_f hn29, cIf_f hn42]
              first | exact (cIf_t ⟨hr1, hr2⟩).symm | exact (cIf_f (fun q => absurd q.2 (by omega))).symm | exact (cIf_f (fun q => hr q.1)).symm
        · have hp42 := isB_t hb42 c45
          refine pp_bipush dX5_whyRefused_48 cb_m9 (q := 50) rfl ?_
          refine ri_ret dX5_whyRefused_50 rfl rfl ?_
          exact ⟨by unfold whyA; rw [cIf_f hn4, cIf_f hn17, cIf_f hn29, cIf_t hp42], rfl⟩
      · have hp29 := isB_t hb29 c32
        refine pp_bipush dX5_whyRefused_35 cb_m8 (q := 37) rfl ?_
        refine ri_ret dX5_whyRefused_37 rfl rfl ?_
        exact ⟨by unfold whyA; rw [cIf_f hn4, cIf_f hn17, cIf_t hp29], rfl⟩
    · have hp17 := isB_t hb17 c20
      refine pp_bipush dX5_whyRefused_23 cb_m2 (q := 25) rfl ?_
      refine ri_ret dX5_whyRefused_25 rfl rfl ?_
      exact ⟨by unfold whyA; rw [cIf_f hn4, cIf_t hp17], rfl⟩
  · have hp4 := isB_t hb4 c7
    refine pp_bipush dX5_whyRefused_10 cb_m3 (q := 12) rfl ?_
    refine ri_ret dX5_whyRefused_12 rfl rfl ?_
    exact ⟨by unfold whyA; rw [cIf_t hp4], rfl⟩
set_option maxRecDepth 20000 in
set_option maxHeartbeats 4000000 in
theorem c_bey6 {ad : Nm → Nat} {g : Sg} {w : Nat} {A : AW} {a b : Int32} (hA : RW g w A) : PS mX5_isBeyond 0 (ent mX5_isBeyond [.ref (ad (10, w, 0)), .int (nI 6), .int a, .int b]) [] ad g (Ri (fun r g' => isB r (beyP A 6 a b) ∧ g' = g)) := by
  show PP mX5_isBeyond 0 [some (.ref (ad (10, w, 0))), some (.int (nI 6)), some (.int a), some (.int b)] [] (Rel ad g) _
  refine pp_iload_n dX5_isBeyond_0 rfl (q := 1) rfl ?_
  refine pp_tswK (v := 6) (tgt := 93) dX5_isBeyond_1 rfl (by decide) (by decide) (by decide) rfl (by decide) ?_
  refine pp_iload_n dX5_isBeyond_93 rfl (q := 94) rfl ?_
  refine ps_callNi dX5_isBeyond_94 lk_X5_69 (by rfl) c_isMB (by rfl) (by exact Nat.le_of_ble_eq_true rfl) (by decide) (by decide) (by exact Nat.le_of_ble_eq_true rfl) (q := 97) rfl (fun r94 g94 h94 => ?_)
  obtain ⟨hb94, rfl⟩ := And.intro h94.1 h94.2.symm
  refine pp_if_ne (tgt := 104) dX5_isBeyond_97 (by decide) (q := 100) rfl (fun c97 => ?_) (fun c97 => ?_)
  · refine pp_iconst dX5_isBeyond_104 ci_0 (q := 105) rfl ?_
    refine ri_ret dX5_isBeyond_105 rfl (by decide) ?_
    first | exact ⟨isB_0 (fun q => q (isB_t hb94 c97)), rfl⟩ | exact ⟨isB_1 (isB_f hb94 c97), rfl⟩
  · refine pp_iconst dX5_isBeyond_100 ci_1 (q := 101) rfl ?_
    refine pp_goto (tgt := 105) dX5_isBeyond_101 (by decide) ?_
    refine ri_ret dX5_isBeyond_105 rfl (by decide) ?_
    first | exact ⟨isB_0 (fun q => q (isB_t hb94 c97)), rfl⟩ | exact ⟨isB_1 (isB_f hb94 c97), rfl⟩
set_option maxRecDepth 20000 in
set_option maxHeartbeats 4000000 in
theorem c_mis6 {ad : Nm → Nat} {g : Sg} {w : Nat} {A : AW} {a b : Int32} (hA : RW g w A) : PS mX5_isMissing 0 (ent mX5_isMissing [.ref (ad (10, w, 0)), .int (nI 6), .int a, .int b]) [] ad g (Ri (fun r g' => isB r (misP A 6 a b) ∧ g' = g)) := by
  show PP mX5_isMissing 0 [some (.ref (ad (10, w, 0))), some (.int (nI 6)), some (.int a), some (.int b)] [] (Rel ad g) _
  refine pp_iload_n dX5_isMissing_0 rfl (q := 1) rfl ?_
  refine pp_tswK (v := 6) (tgt := 102) dX5_isMissing_1 rfl (by decide) (by decide) (by decide) rfl (by decide) ?_
  refine pp_aload_n dX5_isMissing_102 rfl isRf_r (q := 103) rfl ?_
  refine pp_iload_n dX5_isMissing_103 rfl (q := 104) rfl ?_
  refine ps_callVr dX5_isMissing_104 lk_X5_76 (by exact hA.1) (by rfl) (by rfl) (by rfl) (c_memB hA) (by rfl) (by exact Nat.le_of_ble_eq_true rfl) (by decide) (by decide) (by exact Nat.le_of_ble_eq_true rfl) (q := 107) rfl (fun r104 g104 h104 => ?_)
  obtain ⟨h104, rfl⟩ := And.intro h104.1 h104.2.symm
  rcases h104 with ⟨i104, hi104, e104, hd104, rfl⟩ | ⟨hn104, rfl⟩
  · change PP mX5_isMissing 107 _ (Value.ref (ad (30, w, i104)) :: _) _ _
    refine pp_ifnonnull_r (tgt := 114) dX5_isMissing_107 (by decide) ?_
    refine pp_iconst dX5_isMissing_114 ci_0 (q := 115) rfl ?_
    refine ri_ret dX5_isMissing_115 rfl (by decide) ?_
    first | exact ⟨isB_0 (fun q => q ⟨i104, hi104, e104, hd104⟩), rfl⟩ | exact ⟨isB_1 hn104, rfl⟩
  · change PP mX5_isMissing 107 _ (Value.null :: _) _ _
    refine pp_ifnonnull_n dX5_isMissing_107 (q := 110) rfl ?_
    refine pp_iconst dX5_isMissing_110 ci_1 (q := 111) rfl ?_
    refine pp_goto (tgt := 115) dX5_isMissing_111 (by decide) ?_
    refine ri_ret dX5_isMissing_115 rfl (by decide) ?_
    first | exact ⟨isB_0 (fun q => q ⟨i104, hi104, e104, hd104⟩), rfl⟩ | exact ⟨isB_1 hn104, rfl⟩
set_option maxRecDepth 20000 in
set_option maxHeartbeats 4000000 in
theorem c_dwn6 {ad : Nm → Nat} {g : Sg} {w : Nat} {A : AW} {a : Int32} (hA : RW g w A) : PS mX5_isDown 0 (ent mX5_isDown [.ref (ad (10, w, 0)), .int (nI 6), .int a]) [] ad g (Ri (fun r g' => isB r (dwnP A 6 a) ∧ g' = g)) := by
  show PP mX5_isDown 0 [some (.ref (ad (10, w, 0))), some (.int (nI 6)), some (.int a)] [] (Rel ad g) _
  refine pp_iload_n dX5_isDown_0 rfl (q := 1) rfl ?_
  refine pp_tswOut (tgt := 46) dX5_isDown_1 (by decide) (by decide) ?_
  refine pp_iconst dX5_isDown_46 ci_0 (q := 47) rfl ?_
  refine ri_ret dX5_isDown_47 rfl (by decide) ?_
  exact ⟨isB_0 (fun q => q), rfl⟩
set_option maxRecDepth 20000 in
set_option maxHeartbeats 4000000 in
theorem c_nat6 {ad : Nm → Nat} {g : Sg} {w : Nat} {A : AW} {a b : Int32} (hA : RW g w A) : PS mX5_isNotAsTold 0 (ent mX5_isNotAsTold [.ref (ad (10, w, 0)), .int (nI 6), .int a, .int b]) [] ad g (Ri (fun r g' => isB r (natP A 6 a b) ∧ g' = g)) := by
  show PP mX5_isNotAsTold 0 [some (.ref (ad (10, w, 0))), some (.int (nI 6)), some (.int a), some (.int b)] [] (Rel ad g) _
  refine pp_iload_n dX5_isNotAsTold_0 rfl (q := 1) rfl ?_
  refine pp_tswK (v := 6) (tgt := 74) dX5_isNotAsTold_1 rfl (by decide) (by decide) (by decide) rfl (by decide) ?_
  refine pp_aload_n dX5_isNotAsTold_74 rfl isRf_r (q := 75) rfl ?_
  refine pp_iload_n dX5_isNotAsTold_75 rfl (q := 76) rfl ?_
  refine ps_callVr dX5_isNotAsTold_76 lk_X5_171 (by exact hA.1) (by rfl) (by rfl) (by rfl) (c_upB hA) (by rfl) (by exact Nat.le_of_ble_eq_true rfl) (by decide) (by decide) (by exact Nat.le_of_ble_eq_true rfl) (q := 79) rfl (fun r76 g76 h76 => ?_)
  obtain ⟨h76, rfl⟩ := And.intro h76.1 h76.2.symm
  rcases h76 with ⟨i76, hi76, e76, hd76, rfl⟩ | ⟨hn76, rfl⟩
  · change PP mX5_isNotAsTold 79 _ (Value.ref (ad (30, w, i76)) :: _) _ _
    refine pp_ifnull_r dX5_isNotAsTold_79 (q := 82) rfl ?_
    refine pp_iconst dX5_isNotAsTold_82 ci_1 (q := 83) rfl ?_
    refine pp_goto (tgt := 87) dX5_isNotAsTold_83 (by decide) ?_
    refine ri_ret dX5_isNotAsTold_87 rfl (by decide) ?_
    first | exact ⟨isB_1 ⟨i76, hi76, e76, hd76⟩, rfl⟩ | exact ⟨isB_0 hn76, rfl⟩
  · change PP mX5_isNotAsTold 79 _ (Value.null :: _) _ _
    refine pp_ifnull_n (tgt := 86) dX5_isNotAsTold_79 (by decide) ?_
    refine pp_iconst dX5_isNotAsTold_86 ci_0 (q := 87) rfl ?_
    refine ri_ret dX5_isNotAsTold_87 rfl (by decide) ?_
    first | exact ⟨isB_1 ⟨i76, hi76, e76, hd76⟩, rfl⟩ | exact ⟨isB_0 hn76, rfl⟩
set_option maxRecDepth 20000 in
set_option maxHeartbeats 4000000 in
theorem c_why6 {ad : Nm → Nat} {g : Sg} {w n : Nat} {A : AW} {a b : Int32} (hA : RW g w A) (hsz : gI g (20, w, 2) 3 = nI n) (hnb : n < 2 ^ 31) : PS mX5_whyRefused 0 (ent mX5_whyRefused [.ref (ad (10, w, 0)), .int (nI 6), .int a, .int b]) [] ad g (Ri (fun r g' => r = whyA A n 6 a b ∧ g' = g)) := by
  show PP mX5_whyRefused 0 [some (.ref (ad (10, w, 0))), some (.int (nI 6)), some (.int a), some (.int b), none] [] (Rel ad g) _
  refine pp_aload_n dX5_whyRefused_0 rfl isRf_r (q := 1) rfl ?_
  refine pp_iload_n dX5_whyRefused_1 rfl (q := 2) rfl ?_
  refine pp_iload_n dX5_whyRefused_2 rfl (q := 3) rfl ?_
  refine pp_iload_n dX5_whyRefused_3 rfl (q := 4) rfl ?_
  refine ps_callVi dX5_whyRefused_4 lk_X5_146 (by exact hA.1) (by rfl) (by rfl) (by rfl) (c_bey6 hA) (by rfl) (by exact Nat.le_of_ble_eq_true rfl) (by decide) (by decide) (by exact Nat.le_of_ble_eq_true rfl) (q := 7) rfl (fun r4 g4 h4 => ?_)
  obtain ⟨hb4, rfl⟩ := And.intro h4.1 h4.2.symm
  refine pp_if_eq (tgt := 13) dX5_whyRefused_7 (by decide) (q := 10) rfl (fun c7 => ?_) (fun c7 => ?_)
  · have hn4 := isB_f hb4 c7
    refine pp_aload_n dX5_whyRefused_13 rfl isRf_r (q := 14) rfl ?_
    refine pp_iload_n dX5_whyRefused_14 rfl (q := 15) rfl ?_
    refine pp_iload_n dX5_whyRefused_15 rfl (q := 16) rfl ?_
    refine pp_iload_n dX5_whyRefused_16 rfl (q := 17) rfl ?_
    refine ps_callVi dX5_whyRefused_17 lk_X5_150 (by exact hA.1) (by rfl) (by rfl) (by rfl) (c_mis6 hA) (by rfl) (by exact Nat.le_of_ble_eq_true rfl) (by decide) (by decide) (by exact Nat.le_of_ble_eq_true rfl) (q := 20) rfl (fun r17 g17 h17 => ?_)
    obtain ⟨hb17, rfl⟩ := And.intro h17.1 h17.2.symm
    refine pp_if_eq (tgt := 26) dX5_whyRefused_20 (by decide) (q := 23) rfl (fun c20 => ?_) (fun c20 => ?_)
    · have hn17 := isB_f hb17 c20
      refine pp_aload_n dX5_whyRefused_26 rfl isRf_r (q := 27) rfl ?_
      refine pp_iload_n dX5_whyRefused_27 rfl (q := 28) rfl ?_
      refine pp_iload_n dX5_whyRefused_28 rfl (q := 29) rfl ?_
      refine ps_callVi dX5_whyRefused_29 lk_X5_153 (by exact hA.1) (by rfl) (by rfl) (by rfl) (c_dwn6 hA) (by rfl) (by exact Nat.le_of_ble_eq_true rfl) (by decide) (by decide) (by exact Nat.le_of_ble_eq_true rfl) (q := 32) rfl (fun r29 g29 h29 => ?_)
      obtain ⟨hb29, rfl⟩ := And.intro h29.1 h29.2.symm
      refine pp_if_eq (tgt := 38) dX5_whyRefused_32 (by decide) (q := 35) rfl (fun c32 => ?_) (fun c32 => ?_)
      · have hn29 := isB_f hb29 c32
        refine pp_aload_n dX5_whyRefused_38 rfl isRf_r (q := 39) rfl ?_
        refine pp_iload_n dX5_whyRefused_39 rfl (q := 40) rfl ?_
        refine pp_iload_n dX5_whyRefused_40 rfl (q := 41) rfl ?_
        refine pp_iload_n dX5_whyRefused_41 rfl (q := 42) rfl ?_
        refine ps_callVi dX5_whyRefused_42 lk_X5_157 (by exact hA.1) (by rfl) (by rfl) (by rfl) (c_nat6 hA) (by rfl) (by exact Nat.le_of_ble_eq_true rfl) (by decide) (by decide) (by exact Nat.le_of_ble_eq_true rfl) (q := 45) rfl (fun r42 g42 h42 => ?_)
        obtain ⟨hb42, rfl⟩ := And.intro h42.1 h42.2.symm
        refine pp_if_eq (tgt := 51) dX5_whyRefused_45 (by decide) (q := 48) rfl (fun c45 => ?_) (fun c45 => ?_)
        · have hn42 := isB_f hb42 c45
          refine pp_aload_n dX5_whyRefused_51 rfl isRf_r (q := 52) rfl ?_
          refine ps_get dX5_whyRefused_52 fl_X5_28 hA.1 rfl rfl (q := 55) rfl ?_
          refine ps_callVi dX5_whyRefused_55 lk_X5_160 (by exact hA.1) (by rfl) (by rfl) (by rfl) (c_hasRoom hA.1 hA.2.1) (by rfl) (by exact Nat.le_of_ble_eq_true rfl) (by decide) (by decide) (by exact Nat.le_of_ble_eq_true rfl) (q := 58) rfl (fun r55 g55 h55 => ?_)
          obtain ⟨hb55, rfl⟩ := And.intro h55.1 h55.2.symm
          refine pp_if_eq (tgt := 78) dX5_whyRefused_58 (by decide) (q := 61) rfl (fun c58 => ?_) (fun c58 => ?_)
          · have hr := isB_f hb55 c58
            refine pp_iconst dX5_whyRefused_78 ci_0 (q := 79) rfl ?_
            refine pp_istore dX5_whyRefused_79 (by decide) (ls1_4 (nl1 rfl)) (q := 81) rfl ?_
            refine pp_iload dX5_whyRefused_81 rfl (q := 83) rfl ?_
            refine pp_if_eq (tgt := 90) dX5_whyRefused_83 (by decide) (q := 86) rfl (fun c83 => ?_) (fun c83 => absurd rfl c83)
            refine pp_bipush dX5_whyRefused_90 cb_m10 (q := 92) rfl ?_
            refine ri_ret dX5_whyRefused_92 rfl rfl ?_
            refine ⟨?_, rfl⟩
            unfold whyA
            rw [cIf_f hn4, cIf_f hn17, cIf_f hn29, cIf_f hn42]
            first | exact (cIf_t ⟨hr1, hr2⟩).symm | exact (cIf_f (fun q => absurd q.2 (by omega))).symm | exact (cIf_f (fun q => hr q.1)).symm
          · have hr1 := isB_t hb55 c58
            refine pp_aload_n dX5_whyRefused_61 rfl isRf_r (q := 62) rfl ?_
            refine ps_get dX5_whyRefused_62 fl_X5_37 hA.1 rfl rfl (q := 65) rfl ?_
            refine ps_get dX5_whyRefused_65 fl_X5_63 hA.1 rfl rfl (q := 68) rfl ?_
            rw [hsz]
            refine pp_sipush dX5_whyRefused_68 cs_4000 (q := 71) rfl ?_
            refine pp_icmp_ge (tgt := 78) dX5_whyRefused_71 (by decide) (q := 74) rfl (fun c71 => ?_) (fun c71 => ?_)
            · have hr2 := leT c71 (by decide) hnb
              refine pp_iconst dX5_whyRefused_78 ci_0 (q := 79) rfl ?_
              refine pp_istore dX5_whyRefused_79 (by decide) (ls1_4 (nl1 rfl)) (q := 81) rfl ?_
              refine pp_iload dX5_whyRefused_81 rfl (q := 83) rfl ?_
              refine pp_if_eq (tgt := 90) dX5_whyRefused_83 (by decide) (q := 86) rfl (fun c83 => ?_) (fun c83 => absurd rfl c83)
              refine pp_bipush dX5_whyRefused_90 cb_m10 (q := 92) rfl ?_
              refine ri_ret dX5_whyRefused_92 rfl rfl ?_
              refine ⟨?_, rfl⟩
              unfold whyA
              rw [cIf_f hn4, cIf_f hn17, cIf_f hn29, cIf_f hn42]
              first | exact (cIf_t ⟨hr1, hr2⟩).symm | exact (cIf_f (fun q => absurd q.2 (by omega))).symm | exact (cIf_f (fun q => hr q.1)).symm
            · have hr2 := leF c71 (by decide) hnb
              refine pp_iconst dX5_whyRefused_74 ci_1 (q := 75) rfl ?_
              refine pp_goto (tgt := 79) dX5_whyRefused_75 (by decide) ?_
              refine pp_istore dX5_whyRefused_79 (by decide) (ls1_4 (nl1 rfl)) (q := 81) rfl ?_
              refine pp_iload dX5_whyRefused_81 rfl (q := 83) rfl ?_
              refine pp_if_eq (tgt := 90) dX5_whyRefused_83 (by decide) (q := 86) rfl (fun c83 => absurd c83 nI1_ne) (fun c83 => ?_)
              refine pp_iconst dX5_whyRefused_86 ci_0 (q := 87) rfl ?_
              refine pp_goto (tgt := 92) dX5_whyRefused_87 (by decide) ?_
              refine ri_ret dX5_whyRefused_92 rfl rfl ?_
              refine ⟨?_, rfl⟩
              unfold whyA
              rw [cIf_f hn4, cIf_f hn17, cIf_f hn29, cIf_f hn42]
              first | exact (cIf_t ⟨hr1, hr2⟩).symm | exact (cIf_f (fun q => absurd q.2 (by omega))).symm | exact (cIf_f (fun q => hr q.1)).symm
        · have hp42 := isB_t hb42 c45
          refine pp_bipush dX5_whyRefused_48 cb_m9 (q := 50) rfl ?_
          refine ri_ret dX5_whyRefused_50 rfl rfl ?_
          exact ⟨by unfold whyA; rw [cIf_f hn4, cIf_f hn17, cIf_f hn29, cIf_t hp42], rfl⟩
      · have hp29 := isB_t hb29 c32
        refine pp_bipush dX5_whyRefused_35 cb_m8 (q := 37) rfl ?_
        refine ri_ret dX5_whyRefused_37 rfl rfl ?_
        exact ⟨by unfold whyA; rw [cIf_f hn4, cIf_f hn17, cIf_t hp29], rfl⟩
    · have hp17 := isB_t hb17 c20
      refine pp_bipush dX5_whyRefused_23 cb_m2 (q := 25) rfl ?_
      refine ri_ret dX5_whyRefused_25 rfl rfl ?_
      exact ⟨by unfold whyA; rw [cIf_f hn4, cIf_t hp17], rfl⟩
  · have hp4 := isB_t hb4 c7
    refine pp_bipush dX5_whyRefused_10 cb_m3 (q := 12) rfl ?_
    refine ri_ret dX5_whyRefused_12 rfl rfl ?_
    exact ⟨by unfold whyA; rw [cIf_t hp4], rfl⟩
set_option maxRecDepth 20000 in
set_option maxHeartbeats 4000000 in
theorem c_bey7 {ad : Nm → Nat} {g : Sg} {w : Nat} {A : AW} {a b : Int32} (hA : RW g w A) : PS mX5_isBeyond 0 (ent mX5_isBeyond [.ref (ad (10, w, 0)), .int (nI 7), .int a, .int b]) [] ad g (Ri (fun r g' => isB r (beyP A 7 a b) ∧ g' = g)) := by
  show PP mX5_isBeyond 0 [some (.ref (ad (10, w, 0))), some (.int (nI 7)), some (.int a), some (.int b)] [] (Rel ad g) _
  refine pp_iload_n dX5_isBeyond_0 rfl (q := 1) rfl ?_
  refine pp_tswK (v := 7) (tgt := 56) dX5_isBeyond_1 rfl (by decide) (by decide) (by decide) rfl (by decide) ?_
  refine pp_aload_n dX5_isBeyond_56 rfl isRf_r (q := 57) rfl ?_
  refine ps_get dX5_isBeyond_57 fl_X5_28 hA.1 rfl rfl (q := 60) rfl ?_
  refine pp_iload_n dX5_isBeyond_60 rfl (q := 61) rfl ?_
  refine ps_callVi dX5_isBeyond_61 lk_X5_164 (by exact hA.1) (by rfl) (by rfl) (by rfl) (c_hasLetter hA.1 hA.2.1) (by rfl) (by exact Nat.le_of_ble_eq_true rfl) (by decide) (by decide) (by exact Nat.le_of_ble_eq_true rfl) (q := 64) rfl (fun r61 g61 h61 => ?_)
  obtain ⟨hb61, rfl⟩ := And.intro h61.1 h61.2.symm
  refine pp_if_ne (tgt := 71) dX5_isBeyond_64 (by decide) (q := 67) rfl (fun c64 => ?_) (fun c64 => ?_)
  · refine pp_iconst dX5_isBeyond_71 ci_0 (q := 72) rfl ?_
    refine ri_ret dX5_isBeyond_72 rfl (by decide) ?_
    first | exact ⟨isB_0 (fun q => q (isB_t hb61 c64)), rfl⟩ | exact ⟨isB_1 (isB_f hb61 c64), rfl⟩
  · refine pp_iconst dX5_isBeyond_67 ci_1 (q := 68) rfl ?_
    refine pp_goto (tgt := 72) dX5_isBeyond_68 (by decide) ?_
    refine ri_ret dX5_isBeyond_72 rfl (by decide) ?_
    first | exact ⟨isB_0 (fun q => q (isB_t hb61 c64)), rfl⟩ | exact ⟨isB_1 (isB_f hb61 c64), rfl⟩
set_option maxRecDepth 20000 in
set_option maxHeartbeats 4000000 in
theorem c_mis7 {ad : Nm → Nat} {g : Sg} {w : Nat} {A : AW} {a b : Int32} (hA : RW g w A) (hb : ¬ beyP A 7 a b) : PS mX5_isMissing 0 (ent mX5_isMissing [.ref (ad (10, w, 0)), .int (nI 7), .int a, .int b]) [] ad g (Ri (fun r g' => isB r (misP A 7 a b) ∧ g' = g)) := by
  obtain ⟨l, hl, rfl⟩ : isLt A a := Classical.not_not.mp hb
  show PP mX5_isMissing 0 [some (.ref (ad (10, w, 0))), some (.int (nI 7)), some (.int (nI l)), some (.int b)] [] (Rel ad g) _
  refine pp_iload_n dX5_isMissing_0 rfl (q := 1) rfl ?_
  refine pp_tswK (v := 7) (tgt := 60) dX5_isMissing_1 rfl (by decide) (by decide) (by decide) rfl (by decide) ?_
  refine pp_aload_n dX5_isMissing_60 rfl isRf_r (q := 61) rfl ?_
  refine ps_get dX5_isMissing_61 fl_X5_28 hA.1 rfl rfl (q := 64) rfl ?_
  refine pp_iload_n dX5_isMissing_64 rfl (q := 65) rfl ?_
  refine pp_iconst dX5_isMissing_65 ci_5 (q := 66) rfl ?_
  refine ps_callVi dX5_isMissing_66 lk_X5_167 (by exact hA.1) (by rfl) (by rfl) (by rfl) (c_ofLetter (c := 5) hA.1 hA.2.1 hl (by decide)) (by rfl) (by exact Nat.le_of_ble_eq_true rfl) (by decide) (by decide) (by exact Nat.le_of_ble_eq_true rfl) (q := 69) rfl (fun r66 g66 h66 => ?_)
  obtain ⟨rfl, rfl⟩ := And.intro h66.1.symm h66.2.symm
  refine pp_if_eq (tgt := 76) dX5_isMissing_69 (by decide) (q := 72) rfl (fun c69 => ?_) (fun c69 => ?_)
  · refine pp_iconst dX5_isMissing_76 ci_0 (q := 77) rfl ?_
    refine ri_ret dX5_isMissing_77 rfl (by decide) ?_
    first | exact ⟨isB_0 (fun ⟨l', q1, q2, q3⟩ => q3 (by have e := eqT q2 (by have := hA.2.1.1.bd; omega) (by have := hA.2.1.1.bd; omega); subst e; exact c69)), rfl⟩ | exact ⟨isB_1 ⟨l, hl, rfl, c69⟩, rfl⟩
  · refine pp_iconst dX5_isMissing_72 ci_1 (q := 73) rfl ?_
    refine pp_goto (tgt := 77) dX5_isMissing_73 (by decide) ?_
    refine ri_ret dX5_isMissing_77 rfl (by decide) ?_
    first | exact ⟨isB_0 (fun ⟨l', q1, q2, q3⟩ => q3 (by have e := eqT q2 (by have := hA.2.1.1.bd; omega) (by have := hA.2.1.1.bd; omega); subst e; exact c69)), rfl⟩ | exact ⟨isB_1 ⟨l, hl, rfl, c69⟩, rfl⟩
set_option maxRecDepth 20000 in
set_option maxHeartbeats 4000000 in
theorem c_dwn7 {ad : Nm → Nat} {g : Sg} {w : Nat} {A : AW} {a : Int32} (hA : RW g w A) : PS mX5_isDown 0 (ent mX5_isDown [.ref (ad (10, w, 0)), .int (nI 7), .int a]) [] ad g (Ri (fun r g' => isB r (dwnP A 7 a) ∧ g' = g)) := by
  show PP mX5_isDown 0 [some (.ref (ad (10, w, 0))), some (.int (nI 7)), some (.int a)] [] (Rel ad g) _
  refine pp_iload_n dX5_isDown_0 rfl (q := 1) rfl ?_
  refine pp_tswOut (tgt := 46) dX5_isDown_1 (by decide) (by decide) ?_
  refine pp_iconst dX5_isDown_46 ci_0 (q := 47) rfl ?_
  refine ri_ret dX5_isDown_47 rfl (by decide) ?_
  exact ⟨isB_0 (fun q => q), rfl⟩
set_option maxRecDepth 20000 in
set_option maxHeartbeats 4000000 in
theorem c_nat7 {ad : Nm → Nat} {g : Sg} {w : Nat} {A : AW} {a b : Int32} (hA : RW g w A) : PS mX5_isNotAsTold 0 (ent mX5_isNotAsTold [.ref (ad (10, w, 0)), .int (nI 7), .int a, .int b]) [] ad g (Ri (fun r g' => isB r (natP A 7 a b) ∧ g' = g)) := by
  show PP mX5_isNotAsTold 0 [some (.ref (ad (10, w, 0))), some (.int (nI 7)), some (.int a), some (.int b)] [] (Rel ad g) _
  refine pp_iload_n dX5_isNotAsTold_0 rfl (q := 1) rfl ?_
  refine pp_tswK (v := 7) (tgt := 99) dX5_isNotAsTold_1 rfl (by decide) (by decide) (by decide) rfl (by decide) ?_
  refine pp_iconst dX5_isNotAsTold_99 ci_0 (q := 100) rfl ?_
  refine ri_ret dX5_isNotAsTold_100 rfl (by decide) ?_
  exact ⟨isB_0 (fun q => q), rfl⟩
set_option maxRecDepth 20000 in
set_option maxHeartbeats 4000000 in
theorem c_why7 {ad : Nm → Nat} {g : Sg} {w n : Nat} {A : AW} {a b : Int32} (hA : RW g w A) (hsz : gI g (20, w, 2) 3 = nI n) (hnb : n < 2 ^ 31) : PS mX5_whyRefused 0 (ent mX5_whyRefused [.ref (ad (10, w, 0)), .int (nI 7), .int a, .int b]) [] ad g (Ri (fun r g' => r = whyA A n 7 a b ∧ g' = g)) := by
  show PP mX5_whyRefused 0 [some (.ref (ad (10, w, 0))), some (.int (nI 7)), some (.int a), some (.int b), none] [] (Rel ad g) _
  refine pp_aload_n dX5_whyRefused_0 rfl isRf_r (q := 1) rfl ?_
  refine pp_iload_n dX5_whyRefused_1 rfl (q := 2) rfl ?_
  refine pp_iload_n dX5_whyRefused_2 rfl (q := 3) rfl ?_
  refine pp_iload_n dX5_whyRefused_3 rfl (q := 4) rfl ?_
  refine ps_callVi dX5_whyRefused_4 lk_X5_146 (by exact hA.1) (by rfl) (by rfl) (by rfl) (c_bey7 hA) (by rfl) (by exact Nat.le_of_ble_eq_true rfl) (by decide) (by decide) (by exact Nat.le_of_ble_eq_true rfl) (q := 7) rfl (fun r4 g4 h4 => ?_)
  obtain ⟨hb4, rfl⟩ := And.intro h4.1 h4.2.symm
  refine pp_if_eq (tgt := 13) dX5_whyRefused_7 (by decide) (q := 10) rfl (fun c7 => ?_) (fun c7 => ?_)
  · have hn4 := isB_f hb4 c7
    refine pp_aload_n dX5_whyRefused_13 rfl isRf_r (q := 14) rfl ?_
    refine pp_iload_n dX5_whyRefused_14 rfl (q := 15) rfl ?_
    refine pp_iload_n dX5_whyRefused_15 rfl (q := 16) rfl ?_
    refine pp_iload_n dX5_whyRefused_16 rfl (q := 17) rfl ?_
    refine ps_callVi dX5_whyRefused_17 lk_X5_150 (by exact hA.1) (by rfl) (by rfl) (by rfl) (c_mis7 hA hn4) (by rfl) (by exact Nat.le_of_ble_eq_true rfl) (by decide) (by decide) (by exact Nat.le_of_ble_eq_true rfl) (q := 20) rfl (fun r17 g17 h17 => ?_)
    obtain ⟨hb17, rfl⟩ := And.intro h17.1 h17.2.symm
    refine pp_if_eq (tgt := 26) dX5_whyRefused_20 (by decide) (q := 23) rfl (fun c20 => ?_) (fun c20 => ?_)
    · have hn17 := isB_f hb17 c20
      refine pp_aload_n dX5_whyRefused_26 rfl isRf_r (q := 27) rfl ?_
      refine pp_iload_n dX5_whyRefused_27 rfl (q := 28) rfl ?_
      refine pp_iload_n dX5_whyRefused_28 rfl (q := 29) rfl ?_
      refine ps_callVi dX5_whyRefused_29 lk_X5_153 (by exact hA.1) (by rfl) (by rfl) (by rfl) (c_dwn7 hA) (by rfl) (by exact Nat.le_of_ble_eq_true rfl) (by decide) (by decide) (by exact Nat.le_of_ble_eq_true rfl) (q := 32) rfl (fun r29 g29 h29 => ?_)
      obtain ⟨hb29, rfl⟩ := And.intro h29.1 h29.2.symm
      refine pp_if_eq (tgt := 38) dX5_whyRefused_32 (by decide) (q := 35) rfl (fun c32 => ?_) (fun c32 => ?_)
      · have hn29 := isB_f hb29 c32
        refine pp_aload_n dX5_whyRefused_38 rfl isRf_r (q := 39) rfl ?_
        refine pp_iload_n dX5_whyRefused_39 rfl (q := 40) rfl ?_
        refine pp_iload_n dX5_whyRefused_40 rfl (q := 41) rfl ?_
        refine pp_iload_n dX5_whyRefused_41 rfl (q := 42) rfl ?_
        refine ps_callVi dX5_whyRefused_42 lk_X5_157 (by exact hA.1) (by rfl) (by rfl) (by rfl) (c_nat7 hA) (by rfl) (by exact Nat.le_of_ble_eq_true rfl) (by decide) (by decide) (by exact Nat.le_of_ble_eq_true rfl) (q := 45) rfl (fun r42 g42 h42 => ?_)
        obtain ⟨hb42, rfl⟩ := And.intro h42.1 h42.2.symm
        refine pp_if_eq (tgt := 51) dX5_whyRefused_45 (by decide) (q := 48) rfl (fun c45 => ?_) (fun c45 => ?_)
        · have hn42 := isB_f hb42 c45
          refine pp_aload_n dX5_whyRefused_51 rfl isRf_r (q := 52) rfl ?_
          refine ps_get dX5_whyRefused_52 fl_X5_28 hA.1 rfl rfl (q := 55) rfl ?_
          refine ps_callVi dX5_whyRefused_55 lk_X5_160 (by exact hA.1) (by rfl) (by rfl) (by rfl) (c_hasRoom hA.1 hA.2.1) (by rfl) (by exact Nat.le_of_ble_eq_true rfl) (by decide) (by decide) (by exact Nat.le_of_ble_eq_true rfl) (q := 58) rfl (fun r55 g55 h55 => ?_)
          obtain ⟨hb55, rfl⟩ := And.intro h55.1 h55.2.symm
          refine pp_if_eq (tgt := 78) dX5_whyRefused_58 (by decide) (q := 61) rfl (fun c58 => ?_) (fun c58 => ?_)
          · have hr := isB_f hb55 c58
            refine pp_iconst dX5_whyRefused_78 ci_0 (q := 79) rfl ?_
            refine pp_istore dX5_whyRefused_79 (by decide) (ls1_4 (nl1 rfl)) (q := 81) rfl ?_
            refine pp_iload dX5_whyRefused_81 rfl (q := 83) rfl ?_
            refine pp_if_eq (tgt := 90) dX5_whyRefused_83 (by decide) (q := 86) rfl (fun c83 => ?_) (fun c83 => absurd rfl c83)
            refine pp_bipush dX5_whyRefused_90 cb_m10 (q := 92) rfl ?_
            refine ri_ret dX5_whyRefused_92 rfl rfl ?_
            refine ⟨?_, rfl⟩
            unfold whyA
            rw [cIf_f hn4, cIf_f hn17, cIf_f hn29, cIf_f hn42]
            first | exact (cIf_t ⟨hr1, hr2⟩).symm | exact (cIf_f (fun q => absurd q.2 (by omega))).symm | exact (cIf_f (fun q => hr q.1)).symm
          · have hr1 := isB_t hb55 c58
            refine pp_aload_n dX5_whyRefused_61 rfl isRf_r (q := 62) rfl ?_
            refine ps_get dX5_whyRefused_62 fl_X5_37 hA.1 rfl rfl (q := 65) rfl ?_
            refine ps_get dX5_whyRefused_65 fl_X5_63 hA.1 rfl rfl (q := 68) rfl ?_
            rw [hsz]
            refine pp_sipush dX5_whyRefused_68 cs_4000 (q := 71) rfl ?_
            refine pp_icmp_ge (tgt := 78) dX5_whyRefused_71 (by decide) (q := 74) rfl (fun c71 => ?_) (fun c71 => ?_)
            · have hr2 := leT c71 (by decide) hnb
              refine pp_iconst dX5_whyRefused_78 ci_0 (q := 79) rfl ?_
              refine pp_istore dX5_whyRefused_79 (by decide) (ls1_4 (nl1 rfl)) (q := 81) rfl ?_
              refine pp_iload dX5_whyRefused_81 rfl (q := 83) rfl ?_
              refine pp_if_eq (tgt := 90) dX5_whyRefused_83 (by decide) (q := 86) rfl (fun c83 => ?_) (fun c83 => absurd rfl c83)
              refine pp_bipush dX5_whyRefused_90 cb_m10 (q := 92) rfl ?_
              refine ri_ret dX5_whyRefused_92 rfl rfl ?_
              refine ⟨?_, rfl⟩
              unfold whyA
              rw [cIf_f hn4, cIf_f hn17, cIf_f hn29, cIf_f hn42]
              first | exact (cIf_t ⟨hr1, hr2⟩).symm | exact (cIf_f (fun q => absurd q.2 (by omega))).symm | exact (cIf_f (fun q => hr q.1)).symm
            · have hr2 := leF c71 (by decide) hnb
              refine pp_iconst dX5_whyRefused_74 ci_1 (q := 75) rfl ?_
              refine pp_goto (tgt := 79) dX5_whyRefused_75 (by decide) ?_
              refine pp_istore dX5_whyRefused_79 (by decide) (ls1_4 (nl1 rfl)) (q := 81) rfl ?_
              refine pp_iload dX5_whyRefused_81 rfl (q := 83) rfl ?_
              refine pp_if_eq (tgt := 90) dX5_whyRefused_83 (by decide) (q := 86) rfl (fun c83 => absurd c83 nI1_ne) (fun c83 => ?_)
              refine pp_iconst dX5_whyRefused_86 ci_0 (q := 87) rfl ?_
              refine pp_goto (tgt := 92) dX5_whyRefused_87 (by decide) ?_
              refine ri_ret dX5_whyRefused_92 rfl rfl ?_
              refine ⟨?_, rfl⟩
              unfold whyA
              rw [cIf_f hn4, cIf_f hn17, cIf_f hn29, cIf_f hn42]
              first | exact (cIf_t ⟨hr1, hr2⟩).symm | exact (cIf_f (fun q => absurd q.2 (by omega))).symm | exact (cIf_f (fun q => hr q.1)).symm
        · have hp42 := isB_t hb42 c45
          refine pp_bipush dX5_whyRefused_48 cb_m9 (q := 50) rfl ?_
          refine ri_ret dX5_whyRefused_50 rfl rfl ?_
          exact ⟨by unfold whyA; rw [cIf_f hn4, cIf_f hn17, cIf_f hn29, cIf_t hp42], rfl⟩
      · have hp29 := isB_t hb29 c32
        refine pp_bipush dX5_whyRefused_35 cb_m8 (q := 37) rfl ?_
        refine ri_ret dX5_whyRefused_37 rfl rfl ?_
        exact ⟨by unfold whyA; rw [cIf_f hn4, cIf_f hn17, cIf_t hp29], rfl⟩
    · have hp17 := isB_t hb17 c20
      refine pp_bipush dX5_whyRefused_23 cb_m2 (q := 25) rfl ?_
      refine ri_ret dX5_whyRefused_25 rfl rfl ?_
      exact ⟨by unfold whyA; rw [cIf_f hn4, cIf_t hp17], rfl⟩
  · have hp4 := isB_t hb4 c7
    refine pp_bipush dX5_whyRefused_10 cb_m3 (q := 12) rfl ?_
    refine ri_ret dX5_whyRefused_12 rfl rfl ?_
    exact ⟨by unfold whyA; rw [cIf_t hp4], rfl⟩
set_option maxRecDepth 20000 in
set_option maxHeartbeats 4000000 in
theorem c_bey8 {ad : Nm → Nat} {g : Sg} {w : Nat} {A : AW} {a b : Int32} (hA : RW g w A) : PS mX5_isBeyond 0 (ent mX5_isBeyond [.ref (ad (10, w, 0)), .int (nI 8), .int a, .int b]) [] ad g (Ri (fun r g' => isB r (beyP A 8 a b) ∧ g' = g)) := by
  show PP mX5_isBeyond 0 [some (.ref (ad (10, w, 0))), some (.int (nI 8)), some (.int a), some (.int b)] [] (Rel ad g) _
  refine pp_iload_n dX5_isBeyond_0 rfl (q := 1) rfl ?_
  refine pp_tswK (v := 8) (tgt := 56) dX5_isBeyond_1 rfl (by decide) (by decide) (by decide) rfl (by decide) ?_
  refine pp_aload_n dX5_isBeyond_56 rfl isRf_r (q := 57) rfl ?_
  refine ps_get dX5_isBeyond_57 fl_X5_28 hA.1 rfl rfl (q := 60) rfl ?_
  refine pp_iload_n dX5_isBeyond_60 rfl (q := 61) rfl ?_
  refine ps_callVi dX5_isBeyond_61 lk_X5_164 (by exact hA.1) (by rfl) (by rfl) (by rfl) (c_hasLetter hA.1 hA.2.1) (by rfl) (by exact Nat.le_of_ble_eq_true rfl) (by decide) (by decide) (by exact Nat.le_of_ble_eq_true rfl) (q := 64) rfl (fun r61 g61 h61 => ?_)
  obtain ⟨hb61, rfl⟩ := And.intro h61.1 h61.2.symm
  refine pp_if_ne (tgt := 71) dX5_isBeyond_64 (by decide) (q := 67) rfl (fun c64 => ?_) (fun c64 => ?_)
  · refine pp_iconst dX5_isBeyond_71 ci_0 (q := 72) rfl ?_
    refine ri_ret dX5_isBeyond_72 rfl (by decide) ?_
    first | exact ⟨isB_0 (fun q => q (isB_t hb61 c64)), rfl⟩ | exact ⟨isB_1 (isB_f hb61 c64), rfl⟩
  · refine pp_iconst dX5_isBeyond_67 ci_1 (q := 68) rfl ?_
    refine pp_goto (tgt := 72) dX5_isBeyond_68 (by decide) ?_
    refine ri_ret dX5_isBeyond_72 rfl (by decide) ?_
    first | exact ⟨isB_0 (fun q => q (isB_t hb61 c64)), rfl⟩ | exact ⟨isB_1 (isB_f hb61 c64), rfl⟩
set_option maxRecDepth 20000 in
set_option maxHeartbeats 4000000 in
theorem c_mis8 {ad : Nm → Nat} {g : Sg} {w : Nat} {A : AW} {a b : Int32} (hA : RW g w A) (hb : ¬ beyP A 8 a b) : PS mX5_isMissing 0 (ent mX5_isMissing [.ref (ad (10, w, 0)), .int (nI 8), .int a, .int b]) [] ad g (Ri (fun r g' => isB r (misP A 8 a b) ∧ g' = g)) := by
  obtain ⟨l, hl, rfl⟩ : isLt A a := Classical.not_not.mp hb
  show PP mX5_isMissing 0 [some (.ref (ad (10, w, 0))), some (.int (nI 8)), some (.int (nI l)), some (.int b)] [] (Rel ad g) _
  refine pp_iload_n dX5_isMissing_0 rfl (q := 1) rfl ?_
  refine pp_tswK (v := 8) (tgt := 60) dX5_isMissing_1 rfl (by decide) (by decide) (by decide) rfl (by decide) ?_
  refine pp_aload_n dX5_isMissing_60 rfl isRf_r (q := 61) rfl ?_
  refine ps_get dX5_isMissing_61 fl_X5_28 hA.1 rfl rfl (q := 64) rfl ?_
  refine pp_iload_n dX5_isMissing_64 rfl (q := 65) rfl ?_
  refine pp_iconst dX5_isMissing_65 ci_5 (q := 66) rfl ?_
  refine ps_callVi dX5_isMissing_66 lk_X5_167 (by exact hA.1) (by rfl) (by rfl) (by rfl) (c_ofLetter (c := 5) hA.1 hA.2.1 hl (by decide)) (by rfl) (by exact Nat.le_of_ble_eq_true rfl) (by decide) (by decide) (by exact Nat.le_of_ble_eq_true rfl) (q := 69) rfl (fun r66 g66 h66 => ?_)
  obtain ⟨rfl, rfl⟩ := And.intro h66.1.symm h66.2.symm
  refine pp_if_eq (tgt := 76) dX5_isMissing_69 (by decide) (q := 72) rfl (fun c69 => ?_) (fun c69 => ?_)
  · refine pp_iconst dX5_isMissing_76 ci_0 (q := 77) rfl ?_
    refine ri_ret dX5_isMissing_77 rfl (by decide) ?_
    first | exact ⟨isB_0 (fun ⟨l', q1, q2, q3⟩ => q3 (by have e := eqT q2 (by have := hA.2.1.1.bd; omega) (by have := hA.2.1.1.bd; omega); subst e; exact c69)), rfl⟩ | exact ⟨isB_1 ⟨l, hl, rfl, c69⟩, rfl⟩
  · refine pp_iconst dX5_isMissing_72 ci_1 (q := 73) rfl ?_
    refine pp_goto (tgt := 77) dX5_isMissing_73 (by decide) ?_
    refine ri_ret dX5_isMissing_77 rfl (by decide) ?_
    first | exact ⟨isB_0 (fun ⟨l', q1, q2, q3⟩ => q3 (by have e := eqT q2 (by have := hA.2.1.1.bd; omega) (by have := hA.2.1.1.bd; omega); subst e; exact c69)), rfl⟩ | exact ⟨isB_1 ⟨l, hl, rfl, c69⟩, rfl⟩
set_option maxRecDepth 20000 in
set_option maxHeartbeats 4000000 in
theorem c_dwn8 {ad : Nm → Nat} {g : Sg} {w : Nat} {A : AW} {a : Int32} (hA : RW g w A) : PS mX5_isDown 0 (ent mX5_isDown [.ref (ad (10, w, 0)), .int (nI 8), .int a]) [] ad g (Ri (fun r g' => isB r (dwnP A 8 a) ∧ g' = g)) := by
  show PP mX5_isDown 0 [some (.ref (ad (10, w, 0))), some (.int (nI 8)), some (.int a)] [] (Rel ad g) _
  refine pp_iload_n dX5_isDown_0 rfl (q := 1) rfl ?_
  refine pp_tswOut (tgt := 46) dX5_isDown_1 (by decide) (by decide) ?_
  refine pp_iconst dX5_isDown_46 ci_0 (q := 47) rfl ?_
  refine ri_ret dX5_isDown_47 rfl (by decide) ?_
  exact ⟨isB_0 (fun q => q), rfl⟩
set_option maxRecDepth 20000 in
set_option maxHeartbeats 4000000 in
theorem c_nat8 {ad : Nm → Nat} {g : Sg} {w : Nat} {A : AW} {a b : Int32} (hA : RW g w A) : PS mX5_isNotAsTold 0 (ent mX5_isNotAsTold [.ref (ad (10, w, 0)), .int (nI 8), .int a, .int b]) [] ad g (Ri (fun r g' => isB r (natP A 8 a b) ∧ g' = g)) := by
  show PP mX5_isNotAsTold 0 [some (.ref (ad (10, w, 0))), some (.int (nI 8)), some (.int a), some (.int b)] [] (Rel ad g) _
  refine pp_iload_n dX5_isNotAsTold_0 rfl (q := 1) rfl ?_
  refine pp_tswK (v := 8) (tgt := 99) dX5_isNotAsTold_1 rfl (by decide) (by decide) (by decide) rfl (by decide) ?_
  refine pp_iconst dX5_isNotAsTold_99 ci_0 (q := 100) rfl ?_
  refine ri_ret dX5_isNotAsTold_100 rfl (by decide) ?_
  exact ⟨isB_0 (fun q => q), rfl⟩
set_option maxRecDepth 20000 in
set_option maxHeartbeats 4000000 in
theorem c_why8 {ad : Nm → Nat} {g : Sg} {w n : Nat} {A : AW} {a b : Int32} (hA : RW g w A) (hsz : gI g (20, w, 2) 3 = nI n) (hnb : n < 2 ^ 31) : PS mX5_whyRefused 0 (ent mX5_whyRefused [.ref (ad (10, w, 0)), .int (nI 8), .int a, .int b]) [] ad g (Ri (fun r g' => r = whyA A n 8 a b ∧ g' = g)) := by
  show PP mX5_whyRefused 0 [some (.ref (ad (10, w, 0))), some (.int (nI 8)), some (.int a), some (.int b), none] [] (Rel ad g) _
  refine pp_aload_n dX5_whyRefused_0 rfl isRf_r (q := 1) rfl ?_
  refine pp_iload_n dX5_whyRefused_1 rfl (q := 2) rfl ?_
  refine pp_iload_n dX5_whyRefused_2 rfl (q := 3) rfl ?_
  refine pp_iload_n dX5_whyRefused_3 rfl (q := 4) rfl ?_
  refine ps_callVi dX5_whyRefused_4 lk_X5_146 (by exact hA.1) (by rfl) (by rfl) (by rfl) (c_bey8 hA) (by rfl) (by exact Nat.le_of_ble_eq_true rfl) (by decide) (by decide) (by exact Nat.le_of_ble_eq_true rfl) (q := 7) rfl (fun r4 g4 h4 => ?_)
  obtain ⟨hb4, rfl⟩ := And.intro h4.1 h4.2.symm
  refine pp_if_eq (tgt := 13) dX5_whyRefused_7 (by decide) (q := 10) rfl (fun c7 => ?_) (fun c7 => ?_)
  · have hn4 := isB_f hb4 c7
    refine pp_aload_n dX5_whyRefused_13 rfl isRf_r (q := 14) rfl ?_
    refine pp_iload_n dX5_whyRefused_14 rfl (q := 15) rfl ?_
    refine pp_iload_n dX5_whyRefused_15 rfl (q := 16) rfl ?_
    refine pp_iload_n dX5_whyRefused_16 rfl (q := 17) rfl ?_
    refine ps_callVi dX5_whyRefused_17 lk_X5_150 (by exact hA.1) (by rfl) (by rfl) (by rfl) (c_mis8 hA hn4) (by rfl) (by exact Nat.le_of_ble_eq_true rfl) (by decide) (by decide) (by exact Nat.le_of_ble_eq_true rfl) (q := 20) rfl (fun r17 g17 h17 => ?_)
    obtain ⟨hb17, rfl⟩ := And.intro h17.1 h17.2.symm
    refine pp_if_eq (tgt := 26) dX5_whyRefused_20 (by decide) (q := 23) rfl (fun c20 => ?_) (fun c20 => ?_)
    · have hn17 := isB_f hb17 c20
      refine pp_aload_n dX5_whyRefused_26 rfl isRf_r (q := 27) rfl ?_
      refine pp_iload_n dX5_whyRefused_27 rfl (q := 28) rfl ?_
      refine pp_iload_n dX5_whyRefused_28 rfl (q := 29) rfl ?_
      refine ps_callVi dX5_whyRefused_29 lk_X5_153 (by exact hA.1) (by rfl) (by rfl) (by rfl) (c_dwn8 hA) (by rfl) (by exact Nat.le_of_ble_eq_true rfl) (by decide) (by decide) (by exact Nat.le_of_ble_eq_true rfl) (q := 32) rfl (fun r29 g29 h29 => ?_)
      obtain ⟨hb29, rfl⟩ := And.intro h29.1 h29.2.symm
      refine pp_if_eq (tgt := 38) dX5_whyRefused_32 (by decide) (q := 35) rfl (fun c32 => ?_) (fun c32 => ?_)
      · have hn29 := isB_f hb29 c32
        refine pp_aload_n dX5_whyRefused_38 rfl isRf_r (q := 39) rfl ?_
        refine pp_iload_n dX5_whyRefused_39 rfl (q := 40) rfl ?_
        refine pp_iload_n dX5_whyRefused_40 rfl (q := 41) rfl ?_
        refine pp_iload_n dX5_whyRefused_41 rfl (q := 42) rfl ?_
        refine ps_callVi dX5_whyRefused_42 lk_X5_157 (by exact hA.1) (by rfl) (by rfl) (by rfl) (c_nat8 hA) (by rfl) (by exact Nat.le_of_ble_eq_true rfl) (by decide) (by decide) (by exact Nat.le_of_ble_eq_true rfl) (q := 45) rfl (fun r42 g42 h42 => ?_)
        obtain ⟨hb42, rfl⟩ := And.intro h42.1 h42.2.symm
        refine pp_if_eq (tgt := 51) dX5_whyRefused_45 (by decide) (q := 48) rfl (fun c45 => ?_) (fun c45 => ?_)
        · have hn42 := isB_f hb42 c45
          refine pp_aload_n dX5_whyRefused_51 rfl isRf_r (q := 52) rfl ?_
          refine ps_get dX5_whyRefused_52 fl_X5_28 hA.1 rfl rfl (q := 55) rfl ?_
          refine ps_callVi dX5_whyRefused_55 lk_X5_160 (by exact hA.1) (by rfl) (by rfl) (by rfl) (c_hasRoom hA.1 hA.2.1) (by rfl) (by exact Nat.le_of_ble_eq_true rfl) (by decide) (by decide) (by exact Nat.le_of_ble_eq_true rfl) (q := 58) rfl (fun r55 g55 h55 => ?_)
          obtain ⟨hb55, rfl⟩ := And.intro h55.1 h55.2.symm
          refine pp_if_eq (tgt := 78) dX5_whyRefused_58 (by decide) (q := 61) rfl (fun c58 => ?_) (fun c58 => ?_)
          · have hr := isB_f hb55 c58
            refine pp_iconst dX5_whyRefused_78 ci_0 (q := 79) rfl ?_
            refine pp_istore dX5_whyRefused_79 (by decide) (ls1_4 (nl1 rfl)) (q := 81) rfl ?_
            refine pp_iload dX5_whyRefused_81 rfl (q := 83) rfl ?_
            refine pp_if_eq (tgt := 90) dX5_whyRefused_83 (by decide) (q := 86) rfl (fun c83 => ?_) (fun c83 => absurd rfl c83)
            refine pp_bipush dX5_whyRefused_90 cb_m10 (q := 92) rfl ?_
            refine ri_ret dX5_whyRefused_92 rfl rfl ?_
            refine ⟨?_, rfl⟩
            unfold whyA
            rw [cIf_f hn4, cIf_f hn17, cIf_f hn29, cIf_f hn42]
            first | exact (cIf_t ⟨hr1, hr2⟩).symm | exact (cIf_f (fun q => absurd q.2 (by omega))).symm | exact (cIf_f (fun q => hr q.1)).symm
          · have hr1 := isB_t hb55 c58
            refine pp_aload_n dX5_whyRefused_61 rfl isRf_r (q := 62) rfl ?_
            refine ps_get dX5_whyRefused_62 fl_X5_37 hA.1 rfl rfl (q := 65) rfl ?_
            refine ps_get dX5_whyRefused_65 fl_X5_63 hA.1 rfl rfl (q := 68) rfl ?_
            rw [hsz]
            refine pp_sipush dX5_whyRefused_68 cs_4000 (q := 71) rfl ?_
            refine pp_icmp_ge (tgt := 78) dX5_whyRefused_71 (by decide) (q := 74) rfl (fun c71 => ?_) (fun c71 => ?_)
            · have hr2 := leT c71 (by decide) hnb
              refine pp_iconst dX5_whyRefused_78 ci_0 (q := 79) rfl ?_
              refine pp_istore dX5_whyRefused_79 (by decide) (ls1_4 (nl1 rfl)) (q := 81) rfl ?_
              refine pp_iload dX5_whyRefused_81 rfl (q := 83) rfl ?_
              refine pp_if_eq (tgt := 90) dX5_whyRefused_83 (by decide) (q := 86) rfl (fun c83 => ?_) (fun c83 => absurd rfl c83)
              refine pp_bipush dX5_whyRefused_90 cb_m10 (q := 92) rfl ?_
              refine ri_ret dX5_whyRefused_92 rfl rfl ?_
              refine ⟨?_, rfl⟩
              unfold whyA
              rw [cIf_f hn4, cIf_f hn17, cIf_f hn29, cIf_f hn42]
              first | exact (cIf_t ⟨hr1, hr2⟩).symm | exact (cIf_f (fun q => absurd q.2 (by omega))).symm | exact (cIf_f (fun q => hr q.1)).symm
            · have hr2 := leF c71 (by decide) hnb
              refine pp_iconst dX5_whyRefused_74 ci_1 (q := 75) rfl ?_
              refine pp_goto (tgt := 79) dX5_whyRefused_75 (by decide) ?_
              refine pp_istore dX5_whyRefused_79 (by decide) (ls1_4 (nl1 rfl)) (q := 81) rfl ?_
              refine pp_iload dX5_whyRefused_81 rfl (q := 83) rfl ?_
              refine pp_if_eq (tgt := 90) dX5_whyRefused_83 (by decide) (q := 86) rfl (fun c83 => absurd c83 nI1_ne) (fun c83 => ?_)
              refine pp_iconst dX5_whyRefused_86 ci_0 (q := 87) rfl ?_
              refine pp_goto (tgt := 92) dX5_whyRefused_87 (by decide) ?_
              refine ri_ret dX5_whyRefused_92 rfl rfl ?_
              refine ⟨?_, rfl⟩
              unfold whyA
              rw [cIf_f hn4, cIf_f hn17, cIf_f hn29, cIf_f hn42]
              first | exact (cIf_t ⟨hr1, hr2⟩).symm | exact (cIf_f (fun q => absurd q.2 (by omega))).symm | exact (cIf_f (fun q => hr q.1)).symm
        · have hp42 := isB_t hb42 c45
          refine pp_bipush dX5_whyRefused_48 cb_m9 (q := 50) rfl ?_
          refine ri_ret dX5_whyRefused_50 rfl rfl ?_
          exact ⟨by unfold whyA; rw [cIf_f hn4, cIf_f hn17, cIf_f hn29, cIf_t hp42], rfl⟩
      · have hp29 := isB_t hb29 c32
        refine pp_bipush dX5_whyRefused_35 cb_m8 (q := 37) rfl ?_
        refine ri_ret dX5_whyRefused_37 rfl rfl ?_
        exact ⟨by unfold whyA; rw [cIf_f hn4, cIf_f hn17, cIf_t hp29], rfl⟩
    · have hp17 := isB_t hb17 c20
      refine pp_bipush dX5_whyRefused_23 cb_m2 (q := 25) rfl ?_
      refine ri_ret dX5_whyRefused_25 rfl rfl ?_
      exact ⟨by unfold whyA; rw [cIf_f hn4, cIf_t hp17], rfl⟩
  · have hp4 := isB_t hb4 c7
    refine pp_bipush dX5_whyRefused_10 cb_m3 (q := 12) rfl ?_
    refine ri_ret dX5_whyRefused_12 rfl rfl ?_
    exact ⟨by unfold whyA; rw [cIf_t hp4], rfl⟩
set_option maxRecDepth 20000 in
set_option maxHeartbeats 4000000 in
theorem c_bey9 {ad : Nm → Nat} {g : Sg} {w : Nat} {A : AW} {a b : Int32} (hA : RW g w A) : PS mX5_isBeyond 0 (ent mX5_isBeyond [.ref (ad (10, w, 0)), .int (nI 9), .int a, .int b]) [] ad g (Ri (fun r g' => isB r (beyP A 9 a b) ∧ g' = g)) := by
  show PP mX5_isBeyond 0 [some (.ref (ad (10, w, 0))), some (.int (nI 9)), some (.int a), some (.int b)] [] (Rel ad g) _
  refine pp_iload_n dX5_isBeyond_0 rfl (q := 1) rfl ?_
  refine pp_tswK (v := 9) (tgt := 56) dX5_isBeyond_1 rfl (by decide) (by decide) (by decide) rfl (by decide) ?_
  refine pp_aload_n dX5_isBeyond_56 rfl isRf_r (q := 57) rfl ?_
  refine ps_get dX5_isBeyond_57 fl_X5_28 hA.1 rfl rfl (q := 60) rfl ?_
  refine pp_iload_n dX5_isBeyond_60 rfl (q := 61) rfl ?_
  refine ps_callVi dX5_isBeyond_61 lk_X5_164 (by exact hA.1) (by rfl) (by rfl) (by rfl) (c_hasLetter hA.1 hA.2.1) (by rfl) (by exact Nat.le_of_ble_eq_true rfl) (by decide) (by decide) (by exact Nat.le_of_ble_eq_true rfl) (q := 64) rfl (fun r61 g61 h61 => ?_)
  obtain ⟨hb61, rfl⟩ := And.intro h61.1 h61.2.symm
  refine pp_if_ne (tgt := 71) dX5_isBeyond_64 (by decide) (q := 67) rfl (fun c64 => ?_) (fun c64 => ?_)
  · refine pp_iconst dX5_isBeyond_71 ci_0 (q := 72) rfl ?_
    refine ri_ret dX5_isBeyond_72 rfl (by decide) ?_
    first | exact ⟨isB_0 (fun q => q (isB_t hb61 c64)), rfl⟩ | exact ⟨isB_1 (isB_f hb61 c64), rfl⟩
  · refine pp_iconst dX5_isBeyond_67 ci_1 (q := 68) rfl ?_
    refine pp_goto (tgt := 72) dX5_isBeyond_68 (by decide) ?_
    refine ri_ret dX5_isBeyond_72 rfl (by decide) ?_
    first | exact ⟨isB_0 (fun q => q (isB_t hb61 c64)), rfl⟩ | exact ⟨isB_1 (isB_f hb61 c64), rfl⟩
set_option maxRecDepth 20000 in
set_option maxHeartbeats 4000000 in
theorem c_mis9 {ad : Nm → Nat} {g : Sg} {w : Nat} {A : AW} {a b : Int32} (hA : RW g w A) (hb : ¬ beyP A 9 a b) : PS mX5_isMissing 0 (ent mX5_isMissing [.ref (ad (10, w, 0)), .int (nI 9), .int a, .int b]) [] ad g (Ri (fun r g' => isB r (misP A 9 a b) ∧ g' = g)) := by
  obtain ⟨l, hl, rfl⟩ : isLt A a := Classical.not_not.mp hb
  show PP mX5_isMissing 0 [some (.ref (ad (10, w, 0))), some (.int (nI 9)), some (.int (nI l)), some (.int b)] [] (Rel ad g) _
  refine pp_iload_n dX5_isMissing_0 rfl (q := 1) rfl ?_
  refine pp_tswK (v := 9) (tgt := 60) dX5_isMissing_1 rfl (by decide) (by decide) (by decide) rfl (by decide) ?_
  refine pp_aload_n dX5_isMissing_60 rfl isRf_r (q := 61) rfl ?_
  refine ps_get dX5_isMissing_61 fl_X5_28 hA.1 rfl rfl (q := 64) rfl ?_
  refine pp_iload_n dX5_isMissing_64 rfl (q := 65) rfl ?_
  refine pp_iconst dX5_isMissing_65 ci_5 (q := 66) rfl ?_
  refine ps_callVi dX5_isMissing_66 lk_X5_167 (by exact hA.1) (by rfl) (by rfl) (by rfl) (c_ofLetter (c := 5) hA.1 hA.2.1 hl (by decide)) (by rfl) (by exact Nat.le_of_ble_eq_true rfl) (by decide) (by decide) (by exact Nat.le_of_ble_eq_true rfl) (q := 69) rfl (fun r66 g66 h66 => ?_)
  obtain ⟨rfl, rfl⟩ := And.intro h66.1.symm h66.2.symm
  refine pp_if_eq (tgt := 76) dX5_isMissing_69 (by decide) (q := 72) rfl (fun c69 => ?_) (fun c69 => ?_)
  · refine pp_iconst dX5_isMissing_76 ci_0 (q := 77) rfl ?_
    refine ri_ret dX5_isMissing_77 rfl (by decide) ?_
    first | exact ⟨isB_0 (fun ⟨l', q1, q2, q3⟩ => q3 (by have e := eqT q2 (by have := hA.2.1.1.bd; omega) (by have := hA.2.1.1.bd; omega); subst e; exact c69)), rfl⟩ | exact ⟨isB_1 ⟨l, hl, rfl, c69⟩, rfl⟩
  · refine pp_iconst dX5_isMissing_72 ci_1 (q := 73) rfl ?_
    refine pp_goto (tgt := 77) dX5_isMissing_73 (by decide) ?_
    refine ri_ret dX5_isMissing_77 rfl (by decide) ?_
    first | exact ⟨isB_0 (fun ⟨l', q1, q2, q3⟩ => q3 (by have e := eqT q2 (by have := hA.2.1.1.bd; omega) (by have := hA.2.1.1.bd; omega); subst e; exact c69)), rfl⟩ | exact ⟨isB_1 ⟨l, hl, rfl, c69⟩, rfl⟩
set_option maxRecDepth 20000 in
set_option maxHeartbeats 4000000 in
theorem c_dwn9 {ad : Nm → Nat} {g : Sg} {w : Nat} {A : AW} {a : Int32} (hA : RW g w A) : PS mX5_isDown 0 (ent mX5_isDown [.ref (ad (10, w, 0)), .int (nI 9), .int a]) [] ad g (Ri (fun r g' => isB r (dwnP A 9 a) ∧ g' = g)) := by
  show PP mX5_isDown 0 [some (.ref (ad (10, w, 0))), some (.int (nI 9)), some (.int a)] [] (Rel ad g) _
  refine pp_iload_n dX5_isDown_0 rfl (q := 1) rfl ?_
  refine pp_tswOut (tgt := 46) dX5_isDown_1 (by decide) (by decide) ?_
  refine pp_iconst dX5_isDown_46 ci_0 (q := 47) rfl ?_
  refine ri_ret dX5_isDown_47 rfl (by decide) ?_
  exact ⟨isB_0 (fun q => q), rfl⟩
set_option maxRecDepth 20000 in
set_option maxHeartbeats 4000000 in
theorem c_nat9 {ad : Nm → Nat} {g : Sg} {w : Nat} {A : AW} {a b : Int32} (hA : RW g w A) : PS mX5_isNotAsTold 0 (ent mX5_isNotAsTold [.ref (ad (10, w, 0)), .int (nI 9), .int a, .int b]) [] ad g (Ri (fun r g' => isB r (natP A 9 a b) ∧ g' = g)) := by
  show PP mX5_isNotAsTold 0 [some (.ref (ad (10, w, 0))), some (.int (nI 9)), some (.int a), some (.int b)] [] (Rel ad g) _
  refine pp_iload_n dX5_isNotAsTold_0 rfl (q := 1) rfl ?_
  refine pp_tswK (v := 9) (tgt := 99) dX5_isNotAsTold_1 rfl (by decide) (by decide) (by decide) rfl (by decide) ?_
  refine pp_iconst dX5_isNotAsTold_99 ci_0 (q := 100) rfl ?_
  refine ri_ret dX5_isNotAsTold_100 rfl (by decide) ?_
  exact ⟨isB_0 (fun q => q), rfl⟩
set_option maxRecDepth 20000 in
set_option maxHeartbeats 4000000 in
theorem c_why9 {ad : Nm → Nat} {g : Sg} {w n : Nat} {A : AW} {a b : Int32} (hA : RW g w A) (hsz : gI g (20, w, 2) 3 = nI n) (hnb : n < 2 ^ 31) : PS mX5_whyRefused 0 (ent mX5_whyRefused [.ref (ad (10, w, 0)), .int (nI 9), .int a, .int b]) [] ad g (Ri (fun r g' => r = whyA A n 9 a b ∧ g' = g)) := by
  show PP mX5_whyRefused 0 [some (.ref (ad (10, w, 0))), some (.int (nI 9)), some (.int a), some (.int b), none] [] (Rel ad g) _
  refine pp_aload_n dX5_whyRefused_0 rfl isRf_r (q := 1) rfl ?_
  refine pp_iload_n dX5_whyRefused_1 rfl (q := 2) rfl ?_
  refine pp_iload_n dX5_whyRefused_2 rfl (q := 3) rfl ?_
  refine pp_iload_n dX5_whyRefused_3 rfl (q := 4) rfl ?_
  refine ps_callVi dX5_whyRefused_4 lk_X5_146 (by exact hA.1) (by rfl) (by rfl) (by rfl) (c_bey9 hA) (by rfl) (by exact Nat.le_of_ble_eq_true rfl) (by decide) (by decide) (by exact Nat.le_of_ble_eq_true rfl) (q := 7) rfl (fun r4 g4 h4 => ?_)
  obtain ⟨hb4, rfl⟩ := And.intro h4.1 h4.2.symm
  refine pp_if_eq (tgt := 13) dX5_whyRefused_7 (by decide) (q := 10) rfl (fun c7 => ?_) (fun c7 => ?_)
  · have hn4 := isB_f hb4 c7
    refine pp_aload_n dX5_whyRefused_13 rfl isRf_r (q := 14) rfl ?_
    refine pp_iload_n dX5_whyRefused_14 rfl (q := 15) rfl ?_
    refine pp_iload_n dX5_whyRefused_15 rfl (q := 16) rfl ?_
    refine pp_iload_n dX5_whyRefused_16 rfl (q := 17) rfl ?_
    refine ps_callVi dX5_whyRefused_17 lk_X5_150 (by exact hA.1) (by rfl) (by rfl) (by rfl) (c_mis9 hA hn4) (by rfl) (by exact Nat.le_of_ble_eq_true rfl) (by decide) (by decide) (by exact Nat.le_of_ble_eq_true rfl) (q := 20) rfl (fun r17 g17 h17 => ?_)
    obtain ⟨hb17, rfl⟩ := And.intro h17.1 h17.2.symm
    refine pp_if_eq (tgt := 26) dX5_whyRefused_20 (by decide) (q := 23) rfl (fun c20 => ?_) (fun c20 => ?_)
    · have hn17 := isB_f hb17 c20
      refine pp_aload_n dX5_whyRefused_26 rfl isRf_r (q := 27) rfl ?_
      refine pp_iload_n dX5_whyRefused_27 rfl (q := 28) rfl ?_
      refine pp_iload_n dX5_whyRefused_28 rfl (q := 29) rfl ?_
      refine ps_callVi dX5_whyRefused_29 lk_X5_153 (by exact hA.1) (by rfl) (by rfl) (by rfl) (c_dwn9 hA) (by rfl) (by exact Nat.le_of_ble_eq_true rfl) (by decide) (by decide) (by exact Nat.le_of_ble_eq_true rfl) (q := 32) rfl (fun r29 g29 h29 => ?_)
      obtain ⟨hb29, rfl⟩ := And.intro h29.1 h29.2.symm
      refine pp_if_eq (tgt := 38) dX5_whyRefused_32 (by decide) (q := 35) rfl (fun c32 => ?_) (fun c32 => ?_)
      · have hn29 := isB_f hb29 c32
        refine pp_aload_n dX5_whyRefused_38 rfl isRf_r (q := 39) rfl ?_
        refine pp_iload_n dX5_whyRefused_39 rfl (q := 40) rfl ?_
        refine pp_iload_n dX5_whyRefused_40 rfl (q := 41) rfl ?_
        refine pp_iload_n dX5_whyRefused_41 rfl (q := 42) rfl ?_
        refine ps_callVi dX5_whyRefused_42 lk_X5_157 (by exact hA.1) (by rfl) (by rfl) (by rfl) (c_nat9 hA) (by rfl) (by exact Nat.le_of_ble_eq_true rfl) (by decide) (by decide) (by exact Nat.le_of_ble_eq_true rfl) (q := 45) rfl (fun r42 g42 h42 => ?_)
        obtain ⟨hb42, rfl⟩ := And.intro h42.1 h42.2.symm
        refine pp_if_eq (tgt := 51) dX5_whyRefused_45 (by decide) (q := 48) rfl (fun c45 => ?_) (fun c45 => ?_)
        · have hn42 := isB_f hb42 c45
          refine pp_aload_n dX5_whyRefused_51 rfl isRf_r (q := 52) rfl ?_
          refine ps_get dX5_whyRefused_52 fl_X5_28 hA.1 rfl rfl (q := 55) rfl ?_
          refine ps_callVi dX5_whyRefused_55 lk_X5_160 (by exact hA.1) (by rfl) (by rfl) (by rfl) (c_hasRoom hA.1 hA.2.1) (by rfl) (by exact Nat.le_of_ble_eq_true rfl) (by decide) (by decide) (by exact Nat.le_of_ble_eq_true rfl) (q := 58) rfl (fun r55 g55 h55 => ?_)
          obtain ⟨hb55, rfl⟩ := And.intro h55.1 h55.2.symm
          refine pp_if_eq (tgt := 78) dX5_whyRefused_58 (by decide) (q := 61) rfl (fun c58 => ?_) (fun c58 => ?_)
          · have hr := isB_f hb55 c58
            refine pp_iconst dX5_whyRefused_78 ci_0 (q := 79) rfl ?_
            refine pp_istore dX5_whyRefused_79 (by decide) (ls1_4 (nl1 rfl)) (q := 81) rfl ?_
            refine pp_iload dX5_whyRefused_81 rfl (q := 83) rfl ?_
            refine pp_if_eq (tgt := 90) dX5_whyRefused_83 (by decide) (q := 86) rfl (fun c83 => ?_) (fun c83 => absurd rfl c83)
            refine pp_bipush dX5_whyRefused_90 cb_m10 (q := 92) rfl ?_
            refine ri_ret dX5_whyRefused_92 rfl rfl ?_
            refine ⟨?_, rfl⟩
            unfold whyA
            rw [cIf_f hn4, cIf_f hn17, cIf_f hn29, cIf_f hn42]
            first | exact (cIf_t ⟨hr1, hr2⟩).symm | exact (cIf_f (fun q => absurd q.2 (by omega))).symm | exact (cIf_f (fun q => hr q.1)).symm
          · have hr1 := isB_t hb55 c58
            refine pp_aload_n dX5_whyRefused_61 rfl isRf_r (q := 62) rfl ?_
            refine ps_get dX5_whyRefused_62 fl_X5_37 hA.1 rfl rfl (q := 65) rfl ?_
            refine ps_get dX5_whyRefused_65 fl_X5_63 hA.1 rfl rfl (q := 68) rfl ?_
            rw [hsz]
            refine pp_sipush dX5_whyRefused_68 cs_4000 (q := 71) rfl ?_
            refine pp_icmp_ge (tgt := 78) dX5_whyRefused_71 (by decide) (q := 74) rfl (fun c71 => ?_) (fun c71 => ?_)
            · have hr2 := leT c71 (by decide) hnb
              refine pp_iconst dX5_whyRefused_78 ci_0 (q := 79) rfl ?_
              refine pp_istore dX5_whyRefused_79 (by decide) (ls1_4 (nl1 rfl)) (q := 81) rfl ?_
              refine pp_iload dX5_whyRefused_81 rfl (q := 83) rfl ?_
              refine pp_if_eq (tgt := 90) dX5_whyRefused_83 (by decide) (q := 86) rfl (fun c83 => ?_) (fun c83 => absurd rfl c83)
              refine pp_bipush dX5_whyRefused_90 cb_m10 (q := 92) rfl ?_
              refine ri_ret dX5_whyRefused_92 rfl rfl ?_
              refine ⟨?_, rfl⟩
              unfold whyA
              rw [cIf_f hn4, cIf_f hn17, cIf_f hn29, cIf_f hn42]
              first | exact (cIf_t ⟨hr1, hr2⟩).symm | exact (cIf_f (fun q => absurd q.2 (by omega))).symm | exact (cIf_f (fun q => hr q.1)).symm
            · have hr2 := leF c71 (by decide) hnb
              refine pp_iconst dX5_whyRefused_74 ci_1 (q := 75) rfl ?_
              refine pp_goto (tgt := 79) dX5_whyRefused_75 (by decide) ?_
              refine pp_istore dX5_whyRefused_79 (by decide) (ls1_4 (nl1 rfl)) (q := 81) rfl ?_
              refine pp_iload dX5_whyRefused_81 rfl (q := 83) rfl ?_
              refine pp_if_eq (tgt := 90) dX5_whyRefused_83 (by decide) (q := 86) rfl (fun c83 => absurd c83 nI1_ne) (fun c83 => ?_)
              refine pp_iconst dX5_whyRefused_86 ci_0 (q := 87) rfl ?_
              refine pp_goto (tgt := 92) dX5_whyRefused_87 (by decide) ?_
              refine ri_ret dX5_whyRefused_92 rfl rfl ?_
              refine ⟨?_, rfl⟩
              unfold whyA
              rw [cIf_f hn4, cIf_f hn17, cIf_f hn29, cIf_f hn42]
              first | exact (cIf_t ⟨hr1, hr2⟩).symm | exact (cIf_f (fun q => absurd q.2 (by omega))).symm | exact (cIf_f (fun q => hr q.1)).symm
        · have hp42 := isB_t hb42 c45
          refine pp_bipush dX5_whyRefused_48 cb_m9 (q := 50) rfl ?_
          refine ri_ret dX5_whyRefused_50 rfl rfl ?_
          exact ⟨by unfold whyA; rw [cIf_f hn4, cIf_f hn17, cIf_f hn29, cIf_t hp42], rfl⟩
      · have hp29 := isB_t hb29 c32
        refine pp_bipush dX5_whyRefused_35 cb_m8 (q := 37) rfl ?_
        refine ri_ret dX5_whyRefused_37 rfl rfl ?_
        exact ⟨by unfold whyA; rw [cIf_f hn4, cIf_f hn17, cIf_t hp29], rfl⟩
    · have hp17 := isB_t hb17 c20
      refine pp_bipush dX5_whyRefused_23 cb_m2 (q := 25) rfl ?_
      refine ri_ret dX5_whyRefused_25 rfl rfl ?_
      exact ⟨by unfold whyA; rw [cIf_f hn4, cIf_t hp17], rfl⟩
  · have hp4 := isB_t hb4 c7
    refine pp_bipush dX5_whyRefused_10 cb_m3 (q := 12) rfl ?_
    refine ri_ret dX5_whyRefused_12 rfl rfl ?_
    exact ⟨by unfold whyA; rw [cIf_t hp4], rfl⟩
set_option maxRecDepth 20000 in
set_option maxHeartbeats 4000000 in
theorem c_bey10 {ad : Nm → Nat} {g : Sg} {w : Nat} {A : AW} {a b : Int32} (hA : RW g w A) : PS mX5_isBeyond 0 (ent mX5_isBeyond [.ref (ad (10, w, 0)), .int (nI 10), .int a, .int b]) [] ad g (Ri (fun r g' => isB r (beyP A 10 a b) ∧ g' = g)) := by
  show PP mX5_isBeyond 0 [some (.ref (ad (10, w, 0))), some (.int (nI 10)), some (.int a), some (.int b)] [] (Rel ad g) _
  refine pp_iload_n dX5_isBeyond_0 rfl (q := 1) rfl ?_
  refine pp_tswK (v := 10) (tgt := 73) dX5_isBeyond_1 rfl (by decide) (by decide) (by decide) rfl (by decide) ?_
  refine pp_iload_n dX5_isBeyond_73 rfl (q := 74) rfl ?_
  refine ps_callNi dX5_isBeyond_74 lk_X5_69 (by rfl) c_isMB (by rfl) (by exact Nat.le_of_ble_eq_true rfl) (by decide) (by decide) (by exact Nat.le_of_ble_eq_true rfl) (q := 77) rfl (fun r74 g74 h74 => ?_)
  obtain ⟨hb74, rfl⟩ := And.intro h74.1 h74.2.symm
  refine pp_if_eq (tgt := 87) dX5_isBeyond_77 (by decide) (q := 80) rfl (fun c77 => ?_) (fun c77 => ?_)
  · refine pp_iconst dX5_isBeyond_87 ci_1 (q := 88) rfl ?_
    refine pp_goto (tgt := 92) dX5_isBeyond_88 (by decide) ?_
    refine ri_ret dX5_isBeyond_92 rfl (by decide) ?_
    first | exact ⟨isB_1 (Or.inl (isB_f hb74 c77)), rfl⟩ | exact ⟨isB_1 (Or.inr (isB_f hb81 c84)), rfl⟩ | exact ⟨isB_0 (fun q => q.elim (fun z => z (isB_t hb74 c77)) (fun z => z (isB_t hb81 c84))), rfl⟩
  · refine pp_iload_n dX5_isBeyond_80 rfl (q := 81) rfl ?_
    refine ps_callNi dX5_isBeyond_81 lk_X5_69 (by rfl) c_isMB (by rfl) (by exact Nat.le_of_ble_eq_true rfl) (by decide) (by decide) (by exact Nat.le_of_ble_eq_true rfl) (q := 84) rfl (fun r81 g81 h81 => ?_)
    obtain ⟨hb81, rfl⟩ := And.intro h81.1 h81.2.symm
    refine pp_if_ne (tgt := 91) dX5_isBeyond_84 (by decide) (q := 87) rfl (fun c84 => ?_) (fun c84 => ?_)
    · refine pp_iconst dX5_isBeyond_91 ci_0 (q := 92) rfl ?_
      refine ri_ret dX5_isBeyond_92 rfl (by decide) ?_
      first | exact ⟨isB_1 (Or.inl (isB_f hb74 c77)), rfl⟩ | exact ⟨isB_1 (Or.inr (isB_f hb81 c84)), rfl⟩ | exact ⟨isB_0 (fun q => q.elim (fun z => z (isB_t hb74 c77)) (fun z => z (isB_t hb81 c84))), rfl⟩
    · refine pp_iconst dX5_isBeyond_87 ci_1 (q := 88) rfl ?_
      refine pp_goto (tgt := 92) dX5_isBeyond_88 (by decide) ?_
      refine ri_ret dX5_isBeyond_92 rfl (by decide) ?_
      first | exact ⟨isB_1 (Or.inl (isB_f hb74 c77)), rfl⟩ | exact ⟨isB_1 (Or.inr (isB_f hb81 c84)), rfl⟩ | exact ⟨isB_0 (fun q => q.elim (fun z => z (isB_t hb74 c77)) (fun z => z (isB_t hb81 c84))), rfl⟩
set_option maxRecDepth 20000 in
set_option maxHeartbeats 4000000 in
theorem c_mis10 {ad : Nm → Nat} {g : Sg} {w : Nat} {A : AW} {a b : Int32} (hA : RW g w A) : PS mX5_isMissing 0 (ent mX5_isMissing [.ref (ad (10, w, 0)), .int (nI 10), .int a, .int b]) [] ad g (Ri (fun r g' => isB r (misP A 10 a b) ∧ g' = g)) := by
  show PP mX5_isMissing 0 [some (.ref (ad (10, w, 0))), some (.int (nI 10)), some (.int a), some (.int b)] [] (Rel ad g) _
  refine pp_iload_n dX5_isMissing_0 rfl (q := 1) rfl ?_
  refine pp_tswK (v := 10) (tgt := 78) dX5_isMissing_1 rfl (by decide) (by decide) (by decide) rfl (by decide) ?_
  refine pp_iconst dX5_isMissing_78 ci_0 (q := 79) rfl ?_
  refine ri_ret dX5_isMissing_79 rfl (by decide) ?_
  exact ⟨isB_0 (fun q => q), rfl⟩
set_option maxRecDepth 20000 in
set_option maxHeartbeats 4000000 in
theorem c_dwn10 {ad : Nm → Nat} {g : Sg} {w : Nat} {A : AW} {a : Int32} (hA : RW g w A) : PS mX5_isDown 0 (ent mX5_isDown [.ref (ad (10, w, 0)), .int (nI 10), .int a]) [] ad g (Ri (fun r g' => isB r (dwnP A 10 a) ∧ g' = g)) := by
  show PP mX5_isDown 0 [some (.ref (ad (10, w, 0))), some (.int (nI 10)), some (.int a)] [] (Rel ad g) _
  refine pp_iload_n dX5_isDown_0 rfl (q := 1) rfl ?_
  refine pp_tswOut (tgt := 46) dX5_isDown_1 (by decide) (by decide) ?_
  refine pp_iconst dX5_isDown_46 ci_0 (q := 47) rfl ?_
  refine ri_ret dX5_isDown_47 rfl (by decide) ?_
  exact ⟨isB_0 (fun q => q), rfl⟩
set_option maxRecDepth 20000 in
set_option maxHeartbeats 4000000 in
theorem c_nat10 {ad : Nm → Nat} {g : Sg} {w : Nat} {A : AW} {a b : Int32} (hA : RW g w A) : PS mX5_isNotAsTold 0 (ent mX5_isNotAsTold [.ref (ad (10, w, 0)), .int (nI 10), .int a, .int b]) [] ad g (Ri (fun r g' => isB r (natP A 10 a b) ∧ g' = g)) := by
  show PP mX5_isNotAsTold 0 [some (.ref (ad (10, w, 0))), some (.int (nI 10)), some (.int a), some (.int b)] [] (Rel ad g) _
  refine pp_iload_n dX5_isNotAsTold_0 rfl (q := 1) rfl ?_
  refine pp_tswK (v := 10) (tgt := 88) dX5_isNotAsTold_1 rfl (by decide) (by decide) (by decide) rfl (by decide) ?_
  refine pp_iload_n dX5_isNotAsTold_88 rfl (q := 89) rfl ?_
  refine pp_iload_n dX5_isNotAsTold_89 rfl (q := 90) rfl ?_
  refine pp_icmp_ne (tgt := 97) dX5_isNotAsTold_90 (by decide) (q := 93) rfl (fun c90 => ?_) (fun c90 => ?_)
  · refine pp_iconst dX5_isNotAsTold_97 ci_0 (q := 98) rfl ?_
    refine ri_ret dX5_isNotAsTold_98 rfl (by decide) ?_
    first | exact ⟨isB_1 c90, rfl⟩ | exact ⟨isB_0 c90, rfl⟩
  · refine pp_iconst dX5_isNotAsTold_93 ci_1 (q := 94) rfl ?_
    refine pp_goto (tgt := 98) dX5_isNotAsTold_94 (by decide) ?_
    refine ri_ret dX5_isNotAsTold_98 rfl (by decide) ?_
    first | exact ⟨isB_1 c90, rfl⟩ | exact ⟨isB_0 c90, rfl⟩
set_option maxRecDepth 20000 in
set_option maxHeartbeats 4000000 in
theorem c_why10 {ad : Nm → Nat} {g : Sg} {w n : Nat} {A : AW} {a b : Int32} (hA : RW g w A) (hsz : gI g (20, w, 2) 3 = nI n) (hnb : n < 2 ^ 31) : PS mX5_whyRefused 0 (ent mX5_whyRefused [.ref (ad (10, w, 0)), .int (nI 10), .int a, .int b]) [] ad g (Ri (fun r g' => r = whyA A n 10 a b ∧ g' = g)) := by
  show PP mX5_whyRefused 0 [some (.ref (ad (10, w, 0))), some (.int (nI 10)), some (.int a), some (.int b), none] [] (Rel ad g) _
  refine pp_aload_n dX5_whyRefused_0 rfl isRf_r (q := 1) rfl ?_
  refine pp_iload_n dX5_whyRefused_1 rfl (q := 2) rfl ?_
  refine pp_iload_n dX5_whyRefused_2 rfl (q := 3) rfl ?_
  refine pp_iload_n dX5_whyRefused_3 rfl (q := 4) rfl ?_
  refine ps_callVi dX5_whyRefused_4 lk_X5_146 (by exact hA.1) (by rfl) (by rfl) (by rfl) (c_bey10 hA) (by rfl) (by exact Nat.le_of_ble_eq_true rfl) (by decide) (by decide) (by exact Nat.le_of_ble_eq_true rfl) (q := 7) rfl (fun r4 g4 h4 => ?_)
  obtain ⟨hb4, rfl⟩ := And.intro h4.1 h4.2.symm
  refine pp_if_eq (tgt := 13) dX5_whyRefused_7 (by decide) (q := 10) rfl (fun c7 => ?_) (fun c7 => ?_)
  · have hn4 := isB_f hb4 c7
    refine pp_aload_n dX5_whyRefused_13 rfl isRf_r (q := 14) rfl ?_
    refine pp_iload_n dX5_whyRefused_14 rfl (q := 15) rfl ?_
    refine pp_iload_n dX5_whyRefused_15 rfl (q := 16) rfl ?_
    refine pp_iload_n dX5_whyRefused_16 rfl (q := 17) rfl ?_
    refine ps_callVi dX5_whyRefused_17 lk_X5_150 (by exact hA.1) (by rfl) (by rfl) (by rfl) (c_mis10 hA) (by rfl) (by exact Nat.le_of_ble_eq_true rfl) (by decide) (by decide) (by exact Nat.le_of_ble_eq_true rfl) (q := 20) rfl (fun r17 g17 h17 => ?_)
    obtain ⟨hb17, rfl⟩ := And.intro h17.1 h17.2.symm
    refine pp_if_eq (tgt := 26) dX5_whyRefused_20 (by decide) (q := 23) rfl (fun c20 => ?_) (fun c20 => ?_)
    · have hn17 := isB_f hb17 c20
      refine pp_aload_n dX5_whyRefused_26 rfl isRf_r (q := 27) rfl ?_
      refine pp_iload_n dX5_whyRefused_27 rfl (q := 28) rfl ?_
      refine pp_iload_n dX5_whyRefused_28 rfl (q := 29) rfl ?_
      refine ps_callVi dX5_whyRefused_29 lk_X5_153 (by exact hA.1) (by rfl) (by rfl) (by rfl) (c_dwn10 hA) (by rfl) (by exact Nat.le_of_ble_eq_true rfl) (by decide) (by decide) (by exact Nat.le_of_ble_eq_true rfl) (q := 32) rfl (fun r29 g29 h29 => ?_)
      obtain ⟨hb29, rfl⟩ := And.intro h29.1 h29.2.symm
      refine pp_if_eq (tgt := 38) dX5_whyRefused_32 (by decide) (q := 35) rfl (fun c32 => ?_) (fun c32 => ?_)
      · have hn29 := isB_f hb29 c32
        refine pp_aload_n dX5_whyRefused_38 rfl isRf_r (q := 39) rfl ?_
        refine pp_iload_n dX5_whyRefused_39 rfl (q := 40) rfl ?_
        refine pp_iload_n dX5_whyRefused_40 rfl (q := 41) rfl ?_
        refine pp_iload_n dX5_whyRefused_41 rfl (q := 42) rfl ?_
        refine ps_callVi dX5_whyRefused_42 lk_X5_157 (by exact hA.1) (by rfl) (by rfl) (by rfl) (c_nat10 hA) (by rfl) (by exact Nat.le_of_ble_eq_true rfl) (by decide) (by decide) (by exact Nat.le_of_ble_eq_true rfl) (q := 45) rfl (fun r42 g42 h42 => ?_)
        obtain ⟨hb42, rfl⟩ := And.intro h42.1 h42.2.symm
        refine pp_if_eq (tgt := 51) dX5_whyRefused_45 (by decide) (q := 48) rfl (fun c45 => ?_) (fun c45 => ?_)
        · have hn42 := isB_f hb42 c45
          refine pp_aload_n dX5_whyRefused_51 rfl isRf_r (q := 52) rfl ?_
          refine ps_get dX5_whyRefused_52 fl_X5_28 hA.1 rfl rfl (q := 55) rfl ?_
          refine ps_callVi dX5_whyRefused_55 lk_X5_160 (by exact hA.1) (by rfl) (by rfl) (by rfl) (c_hasRoom hA.1 hA.2.1) (by rfl) (by exact Nat.le_of_ble_eq_true rfl) (by decide) (by decide) (by exact Nat.le_of_ble_eq_true rfl) (q := 58) rfl (fun r55 g55 h55 => ?_)
          obtain ⟨hb55, rfl⟩ := And.intro h55.1 h55.2.symm
          refine pp_if_eq (tgt := 78) dX5_whyRefused_58 (by decide) (q := 61) rfl (fun c58 => ?_) (fun c58 => ?_)
          · have hr := isB_f hb55 c58
            refine pp_iconst dX5_whyRefused_78 ci_0 (q := 79) rfl ?_
            refine pp_istore dX5_whyRefused_79 (by decide) (ls1_4 (nl1 rfl)) (q := 81) rfl ?_
            refine pp_iload dX5_whyRefused_81 rfl (q := 83) rfl ?_
            refine pp_if_eq (tgt := 90) dX5_whyRefused_83 (by decide) (q := 86) rfl (fun c83 => ?_) (fun c83 => absurd rfl c83)
            refine pp_bipush dX5_whyRefused_90 cb_m10 (q := 92) rfl ?_
            refine ri_ret dX5_whyRefused_92 rfl rfl ?_
            refine ⟨?_, rfl⟩
            unfold whyA
            rw [cIf_f hn4, cIf_f hn17, cIf_f hn29, cIf_f hn42]
            first | exact (cIf_t ⟨hr1, hr2⟩).symm | exact (cIf_f (fun q => absurd q.2 (by omega))).symm | exact (cIf_f (fun q => hr q.1)).symm
          · have hr1 := isB_t hb55 c58
            refine pp_aload_n dX5_whyRefused_61 rfl isRf_r (q := 62) rfl ?_
            refine ps_get dX5_whyRefused_62 fl_X5_37 hA.1 rfl rfl (q := 65) rfl ?_
            refine ps_get dX5_whyRefused_65 fl_X5_63 hA.1 rfl rfl (q := 68) rfl ?_
            rw [hsz]
            refine pp_sipush dX5_whyRefused_68 cs_4000 (q := 71) rfl ?_
            refine pp_icmp_ge (tgt := 78) dX5_whyRefused_71 (by decide) (q := 74) rfl (fun c71 => ?_) (fun c71 => ?_)
            · have hr2 := leT c71 (by decide) hnb
              refine pp_iconst dX5_whyRefused_78 ci_0 (q := 79) rfl ?_
              refine pp_istore dX5_whyRefused_79 (by decide) (ls1_4 (nl1 rfl)) (q := 81) rfl ?_
              refine pp_iload dX5_whyRefused_81 rfl (q := 83) rfl ?_
              refine pp_if_eq (tgt := 90) dX5_whyRefused_83 (by decide) (q := 86) rfl (fun c83 => ?_) (fun c83 => absurd rfl c83)
              refine pp_bipush dX5_whyRefused_90 cb_m10 (q := 92) rfl ?_
              refine ri_ret dX5_whyRefused_92 rfl rfl ?_
              refine ⟨?_, rfl⟩
              unfold whyA
              rw [cIf_f hn4, cIf_f hn17, cIf_f hn29, cIf_f hn42]
              first | exact (cIf_t ⟨hr1, hr2⟩).symm | exact (cIf_f (fun q => absurd q.2 (by omega))).symm | exact (cIf_f (fun q => hr q.1)).symm
            · have hr2 := leF c71 (by decide) hnb
              refine pp_iconst dX5_whyRefused_74 ci_1 (q := 75) rfl ?_
              refine pp_goto (tgt := 79) dX5_whyRefused_75 (by decide) ?_
              refine pp_istore dX5_whyRefused_79 (by decide) (ls1_4 (nl1 rfl)) (q := 81) rfl ?_
              refine pp_iload dX5_whyRefused_81 rfl (q := 83) rfl ?_
              refine pp_if_eq (tgt := 90) dX5_whyRefused_83 (by decide) (q := 86) rfl (fun c83 => absurd c83 nI1_ne) (fun c83 => ?_)
              refine pp_iconst dX5_whyRefused_86 ci_0 (q := 87) rfl ?_
              refine pp_goto (tgt := 92) dX5_whyRefused_87 (by decide) ?_
              refine ri_ret dX5_whyRefused_92 rfl rfl ?_
              refine ⟨?_, rfl⟩
              unfold whyA
              rw [cIf_f hn4, cIf_f hn17, cIf_f hn29, cIf_f hn42]
              first | exact (cIf_t ⟨hr1, hr2⟩).symm | exact (cIf_f (fun q => absurd q.2 (by omega))).symm | exact (cIf_f (fun q => hr q.1)).symm
        · have hp42 := isB_t hb42 c45
          refine pp_bipush dX5_whyRefused_48 cb_m9 (q := 50) rfl ?_
          refine ri_ret dX5_whyRefused_50 rfl rfl ?_
          exact ⟨by unfold whyA; rw [cIf_f hn4, cIf_f hn17, cIf_f hn29, cIf_t hp42], rfl⟩
      · have hp29 := isB_t hb29 c32
        refine pp_bipush dX5_whyRefused_35 cb_m8 (q := 37) rfl ?_
        refine ri_ret dX5_whyRefused_37 rfl rfl ?_
        exact ⟨by unfold whyA; rw [cIf_f hn4, cIf_f hn17, cIf_t hp29], rfl⟩
    · have hp17 := isB_t hb17 c20
      refine pp_bipush dX5_whyRefused_23 cb_m2 (q := 25) rfl ?_
      refine ri_ret dX5_whyRefused_25 rfl rfl ?_
      exact ⟨by unfold whyA; rw [cIf_f hn4, cIf_t hp17], rfl⟩
  · have hp4 := isB_t hb4 c7
    refine pp_bipush dX5_whyRefused_10 cb_m3 (q := 12) rfl ?_
    refine ri_ret dX5_whyRefused_12 rfl rfl ?_
    exact ⟨by unfold whyA; rw [cIf_t hp4], rfl⟩
set_option maxRecDepth 20000 in
set_option maxHeartbeats 4000000 in
theorem c_bey11 {ad : Nm → Nat} {g : Sg} {w : Nat} {A : AW} {a b : Int32} (hA : RW g w A) : PS mX5_isBeyond 0 (ent mX5_isBeyond [.ref (ad (10, w, 0)), .int (nI 11), .int a, .int b]) [] ad g (Ri (fun r g' => isB r (beyP A 11 a b) ∧ g' = g)) := by
  show PP mX5_isBeyond 0 [some (.ref (ad (10, w, 0))), some (.int (nI 11)), some (.int a), some (.int b)] [] (Rel ad g) _
  refine pp_iload_n dX5_isBeyond_0 rfl (q := 1) rfl ?_
  refine pp_tswK (v := 11) (tgt := 73) dX5_isBeyond_1 rfl (by decide) (by decide) (by decide) rfl (by decide) ?_
  refine pp_iload_n dX5_isBeyond_73 rfl (q := 74) rfl ?_
  refine ps_callNi dX5_isBeyond_74 lk_X5_69 (by rfl) c_isMB (by rfl) (by exact Nat.le_of_ble_eq_true rfl) (by decide) (by decide) (by exact Nat.le_of_ble_eq_true rfl) (q := 77) rfl (fun r74 g74 h74 => ?_)
  obtain ⟨hb74, rfl⟩ := And.intro h74.1 h74.2.symm
  refine pp_if_eq (tgt := 87) dX5_isBeyond_77 (by decide) (q := 80) rfl (fun c77 => ?_) (fun c77 => ?_)
  · refine pp_iconst dX5_isBeyond_87 ci_1 (q := 88) rfl ?_
    refine pp_goto (tgt := 92) dX5_isBeyond_88 (by decide) ?_
    refine ri_ret dX5_isBeyond_92 rfl (by decide) ?_
    first | exact ⟨isB_1 (Or.inl (isB_f hb74 c77)), rfl⟩ | exact ⟨isB_1 (Or.inr (isB_f hb81 c84)), rfl⟩ | exact ⟨isB_0 (fun q => q.elim (fun z => z (isB_t hb74 c77)) (fun z => z (isB_t hb81 c84))), rfl⟩
  · refine pp_iload_n dX5_isBeyond_80 rfl (q := 81) rfl ?_
    refine ps_callNi dX5_isBeyond_81 lk_X5_69 (by rfl) c_isMB (by rfl) (by exact Nat.le_of_ble_eq_true rfl) (by decide) (by decide) (by exact Nat.le_of_ble_eq_true rfl) (q := 84) rfl (fun r81 g81 h81 => ?_)
    obtain ⟨hb81, rfl⟩ := And.intro h81.1 h81.2.symm
    refine pp_if_ne (tgt := 91) dX5_isBeyond_84 (by decide) (q := 87) rfl (fun c84 => ?_) (fun c84 => ?_)
    · refine pp_iconst dX5_isBeyond_91 ci_0 (q := 92) rfl ?_
      refine ri_ret dX5_isBeyond_92 rfl (by decide) ?_
      first | exact ⟨isB_1 (Or.inl (isB_f hb74 c77)), rfl⟩ | exact ⟨isB_1 (Or.inr (isB_f hb81 c84)), rfl⟩ | exact ⟨isB_0 (fun q => q.elim (fun z => z (isB_t hb74 c77)) (fun z => z (isB_t hb81 c84))), rfl⟩
    · refine pp_iconst dX5_isBeyond_87 ci_1 (q := 88) rfl ?_
      refine pp_goto (tgt := 92) dX5_isBeyond_88 (by decide) ?_
      refine ri_ret dX5_isBeyond_92 rfl (by decide) ?_
      first | exact ⟨isB_1 (Or.inl (isB_f hb74 c77)), rfl⟩ | exact ⟨isB_1 (Or.inr (isB_f hb81 c84)), rfl⟩ | exact ⟨isB_0 (fun q => q.elim (fun z => z (isB_t hb74 c77)) (fun z => z (isB_t hb81 c84))), rfl⟩
set_option maxRecDepth 20000 in
set_option maxHeartbeats 4000000 in
theorem c_mis11 {ad : Nm → Nat} {g : Sg} {w : Nat} {A : AW} {a b : Int32} (hA : RW g w A) : PS mX5_isMissing 0 (ent mX5_isMissing [.ref (ad (10, w, 0)), .int (nI 11), .int a, .int b]) [] ad g (Ri (fun r g' => isB r (misP A 11 a b) ∧ g' = g)) := by
  show PP mX5_isMissing 0 [some (.ref (ad (10, w, 0))), some (.int (nI 11)), some (.int a), some (.int b)] [] (Rel ad g) _
  refine pp_iload_n dX5_isMissing_0 rfl (q := 1) rfl ?_
  refine pp_tswK (v := 11) (tgt := 78) dX5_isMissing_1 rfl (by decide) (by decide) (by decide) rfl (by decide) ?_
  refine pp_iconst dX5_isMissing_78 ci_0 (q := 79) rfl ?_
  refine ri_ret dX5_isMissing_79 rfl (by decide) ?_
  exact ⟨isB_0 (fun q => q), rfl⟩
set_option maxRecDepth 20000 in
set_option maxHeartbeats 4000000 in
theorem c_dwn11 {ad : Nm → Nat} {g : Sg} {w : Nat} {A : AW} {a : Int32} (hA : RW g w A) : PS mX5_isDown 0 (ent mX5_isDown [.ref (ad (10, w, 0)), .int (nI 11), .int a]) [] ad g (Ri (fun r g' => isB r (dwnP A 11 a) ∧ g' = g)) := by
  show PP mX5_isDown 0 [some (.ref (ad (10, w, 0))), some (.int (nI 11)), some (.int a)] [] (Rel ad g) _
  refine pp_iload_n dX5_isDown_0 rfl (q := 1) rfl ?_
  refine pp_tswOut (tgt := 46) dX5_isDown_1 (by decide) (by decide) ?_
  refine pp_iconst dX5_isDown_46 ci_0 (q := 47) rfl ?_
  refine ri_ret dX5_isDown_47 rfl (by decide) ?_
  exact ⟨isB_0 (fun q => q), rfl⟩
set_option maxRecDepth 20000 in
set_option maxHeartbeats 4000000 in
theorem c_nat11 {ad : Nm → Nat} {g : Sg} {w : Nat} {A : AW} {a b : Int32} (hA : RW g w A) : PS mX5_isNotAsTold 0 (ent mX5_isNotAsTold [.ref (ad (10, w, 0)), .int (nI 11), .int a, .int b]) [] ad g (Ri (fun r g' => isB r (natP A 11 a b) ∧ g' = g)) := by
  show PP mX5_isNotAsTold 0 [some (.ref (ad (10, w, 0))), some (.int (nI 11)), some (.int a), some (.int b)] [] (Rel ad g) _
  refine pp_iload_n dX5_isNotAsTold_0 rfl (q := 1) rfl ?_
  refine pp_tswK (v := 11) (tgt := 88) dX5_isNotAsTold_1 rfl (by decide) (by decide) (by decide) rfl (by decide) ?_
  refine pp_iload_n dX5_isNotAsTold_88 rfl (q := 89) rfl ?_
  refine pp_iload_n dX5_isNotAsTold_89 rfl (q := 90) rfl ?_
  refine pp_icmp_ne (tgt := 97) dX5_isNotAsTold_90 (by decide) (q := 93) rfl (fun c90 => ?_) (fun c90 => ?_)
  · refine pp_iconst dX5_isNotAsTold_97 ci_0 (q := 98) rfl ?_
    refine ri_ret dX5_isNotAsTold_98 rfl (by decide) ?_
    first | exact ⟨isB_1 c90, rfl⟩ | exact ⟨isB_0 c90, rfl⟩
  · refine pp_iconst dX5_isNotAsTold_93 ci_1 (q := 94) rfl ?_
    refine pp_goto (tgt := 98) dX5_isNotAsTold_94 (by decide) ?_
    refine ri_ret dX5_isNotAsTold_98 rfl (by decide) ?_
    first | exact ⟨isB_1 c90, rfl⟩ | exact ⟨isB_0 c90, rfl⟩
set_option maxRecDepth 20000 in
set_option maxHeartbeats 4000000 in
theorem c_why11 {ad : Nm → Nat} {g : Sg} {w n : Nat} {A : AW} {a b : Int32} (hA : RW g w A) (hsz : gI g (20, w, 2) 3 = nI n) (hnb : n < 2 ^ 31) : PS mX5_whyRefused 0 (ent mX5_whyRefused [.ref (ad (10, w, 0)), .int (nI 11), .int a, .int b]) [] ad g (Ri (fun r g' => r = whyA A n 11 a b ∧ g' = g)) := by
  show PP mX5_whyRefused 0 [some (.ref (ad (10, w, 0))), some (.int (nI 11)), some (.int a), some (.int b), none] [] (Rel ad g) _
  refine pp_aload_n dX5_whyRefused_0 rfl isRf_r (q := 1) rfl ?_
  refine pp_iload_n dX5_whyRefused_1 rfl (q := 2) rfl ?_
  refine pp_iload_n dX5_whyRefused_2 rfl (q := 3) rfl ?_
  refine pp_iload_n dX5_whyRefused_3 rfl (q := 4) rfl ?_
  refine ps_callVi dX5_whyRefused_4 lk_X5_146 (by exact hA.1) (by rfl) (by rfl) (by rfl) (c_bey11 hA) (by rfl) (by exact Nat.le_of_ble_eq_true rfl) (by decide) (by decide) (by exact Nat.le_of_ble_eq_true rfl) (q := 7) rfl (fun r4 g4 h4 => ?_)
  obtain ⟨hb4, rfl⟩ := And.intro h4.1 h4.2.symm
  refine pp_if_eq (tgt := 13) dX5_whyRefused_7 (by decide) (q := 10) rfl (fun c7 => ?_) (fun c7 => ?_)
  · have hn4 := isB_f hb4 c7
    refine pp_aload_n dX5_whyRefused_13 rfl isRf_r (q := 14) rfl ?_
    refine pp_iload_n dX5_whyRefused_14 rfl (q := 15) rfl ?_
    refine pp_iload_n dX5_whyRefused_15 rfl (q := 16) rfl ?_
    refine pp_iload_n dX5_whyRefused_16 rfl (q := 17) rfl ?_
    refine ps_callVi dX5_whyRefused_17 lk_X5_150 (by exact hA.1) (by rfl) (by rfl) (by rfl) (c_mis11 hA) (by rfl) (by exact Nat.le_of_ble_eq_true rfl) (by decide) (by decide) (by exact Nat.le_of_ble_eq_true rfl) (q := 20) rfl (fun r17 g17 h17 => ?_)
    obtain ⟨hb17, rfl⟩ := And.intro h17.1 h17.2.symm
    refine pp_if_eq (tgt := 26) dX5_whyRefused_20 (by decide) (q := 23) rfl (fun c20 => ?_) (fun c20 => ?_)
    · have hn17 := isB_f hb17 c20
      refine pp_aload_n dX5_whyRefused_26 rfl isRf_r (q := 27) rfl ?_
      refine pp_iload_n dX5_whyRefused_27 rfl (q := 28) rfl ?_
      refine pp_iload_n dX5_whyRefused_28 rfl (q := 29) rfl ?_
      refine ps_callVi dX5_whyRefused_29 lk_X5_153 (by exact hA.1) (by rfl) (by rfl) (by rfl) (c_dwn11 hA) (by rfl) (by exact Nat.le_of_ble_eq_true rfl) (by decide) (by decide) (by exact Nat.le_of_ble_eq_true rfl) (q := 32) rfl (fun r29 g29 h29 => ?_)
      obtain ⟨hb29, rfl⟩ := And.intro h29.1 h29.2.symm
      refine pp_if_eq (tgt := 38) dX5_whyRefused_32 (by decide) (q := 35) rfl (fun c32 => ?_) (fun c32 => ?_)
      · have hn29 := isB_f hb29 c32
        refine pp_aload_n dX5_whyRefused_38 rfl isRf_r (q := 39) rfl ?_
        refine pp_iload_n dX5_whyRefused_39 rfl (q := 40) rfl ?_
        refine pp_iload_n dX5_whyRefused_40 rfl (q := 41) rfl ?_
        refine pp_iload_n dX5_whyRefused_41 rfl (q := 42) rfl ?_
        refine ps_callVi dX5_whyRefused_42 lk_X5_157 (by exact hA.1) (by rfl) (by rfl) (by rfl) (c_nat11 hA) (by rfl) (by exact Nat.le_of_ble_eq_true rfl) (by decide) (by decide) (by exact Nat.le_of_ble_eq_true rfl) (q := 45) rfl (fun r42 g42 h42 => ?_)
        obtain ⟨hb42, rfl⟩ := And.intro h42.1 h42.2.symm
        refine pp_if_eq (tgt := 51) dX5_whyRefused_45 (by decide) (q := 48) rfl (fun c45 => ?_) (fun c45 => ?_)
        · have hn42 := isB_f hb42 c45
          refine pp_aload_n dX5_whyRefused_51 rfl isRf_r (q := 52) rfl ?_
          refine ps_get dX5_whyRefused_52 fl_X5_28 hA.1 rfl rfl (q := 55) rfl ?_
          refine ps_callVi dX5_whyRefused_55 lk_X5_160 (by exact hA.1) (by rfl) (by rfl) (by rfl) (c_hasRoom hA.1 hA.2.1) (by rfl) (by exact Nat.le_of_ble_eq_true rfl) (by decide) (by decide) (by exact Nat.le_of_ble_eq_true rfl) (q := 58) rfl (fun r55 g55 h55 => ?_)
          obtain ⟨hb55, rfl⟩ := And.intro h55.1 h55.2.symm
          refine pp_if_eq (tgt := 78) dX5_whyRefused_58 (by decide) (q := 61) rfl (fun c58 => ?_) (fun c58 => ?_)
          · have hr := isB_f hb55 c58
            refine pp_iconst dX5_whyRefused_78 ci_0 (q := 79) rfl ?_
            refine pp_istore dX5_whyRefused_79 (by decide) (ls1_4 (nl1 rfl)) (q := 81) rfl ?_
            refine pp_iload dX5_whyRefused_81 rfl (q := 83) rfl ?_
            refine pp_if_eq (tgt := 90) dX5_whyRefused_83 (by decide) (q := 86) rfl (fun c83 => ?_) (fun c83 => absurd rfl c83)
            refine pp_bipush dX5_whyRefused_90 cb_m10 (q := 92) rfl ?_
            refine ri_ret dX5_whyRefused_92 rfl rfl ?_
            refine ⟨?_, rfl⟩
            unfold whyA
            rw [cIf_f hn4, cIf_f hn17, cIf_f hn29, cIf_f hn42]
            first | exact (cIf_t ⟨hr1, hr2⟩).symm | exact (cIf_f (fun q => absurd q.2 (by omega))).symm | exact (cIf_f (fun q => hr q.1)).symm
          · have hr1 := isB_t hb55 c58
            refine pp_aload_n dX5_whyRefused_61 rfl isRf_r (q := 62) rfl ?_
            refine ps_get dX5_whyRefused_62 fl_X5_37 hA.1 rfl rfl (q := 65) rfl ?_
            refine ps_get dX5_whyRefused_65 fl_X5_63 hA.1 rfl rfl (q := 68) rfl ?_
            rw [hsz]
            refine pp_sipush dX5_whyRefused_68 cs_4000 (q := 71) rfl ?_
            refine pp_icmp_ge (tgt := 78) dX5_whyRefused_71 (by decide) (q := 74) rfl (fun c71 => ?_) (fun c71 => ?_)
            · have hr2 := leT c71 (by decide) hnb
              refine pp_iconst dX5_whyRefused_78 ci_0 (q := 79) rfl ?_
              refine pp_istore dX5_whyRefused_79 (by decide) (ls1_4 (nl1 rfl)) (q := 81) rfl ?_
              refine pp_iload dX5_whyRefused_81 rfl (q := 83) rfl ?_
              refine pp_if_eq (tgt := 90) dX5_whyRefused_83 (by decide) (q := 86) rfl (fun c83 => ?_) (fun c83 => absurd rfl c83)
              refine pp_bipush dX5_whyRefused_90 cb_m10 (q := 92) rfl ?_
              refine ri_ret dX5_whyRefused_92 rfl rfl ?_
              refine ⟨?_, rfl⟩
              unfold whyA
              rw [cIf_f hn4, cIf_f hn17, cIf_f hn29, cIf_f hn42]
              first | exact (cIf_t ⟨hr1, hr2⟩).symm | exact (cIf_f (fun q => absurd q.2 (by omega))).symm | exact (cIf_f (fun q => hr q.1)).symm
            · have hr2 := leF c71 (by decide) hnb
              refine pp_iconst dX5_whyRefused_74 ci_1 (q := 75) rfl ?_
              refine pp_goto (tgt := 79) dX5_whyRefused_75 (by decide) ?_
              refine pp_istore dX5_whyRefused_79 (by decide) (ls1_4 (nl1 rfl)) (q := 81) rfl ?_
              refine pp_iload dX5_whyRefused_81 rfl (q := 83) rfl ?_
              refine pp_if_eq (tgt := 90) dX5_whyRefused_83 (by decide) (q := 86) rfl (fun c83 => absurd c83 nI1_ne) (fun c83 => ?_)
              refine pp_iconst dX5_whyRefused_86 ci_0 (q := 87) rfl ?_
              refine pp_goto (tgt := 92) dX5_whyRefused_87 (by decide) ?_
              refine ri_ret dX5_whyRefused_92 rfl rfl ?_
              refine ⟨?_, rfl⟩
              unfold whyA
              rw [cIf_f hn4, cIf_f hn17, cIf_f hn29, cIf_f hn42]
              first | exact (cIf_t ⟨hr1, hr2⟩).symm | exact (cIf_f (fun q => absurd q.2 (by omega))).symm | exact (cIf_f (fun q => hr q.1)).symm
        · have hp42 := isB_t hb42 c45
          refine pp_bipush dX5_whyRefused_48 cb_m9 (q := 50) rfl ?_
          refine ri_ret dX5_whyRefused_50 rfl rfl ?_
          exact ⟨by unfold whyA; rw [cIf_f hn4, cIf_f hn17, cIf_f hn29, cIf_t hp42], rfl⟩
      · have hp29 := isB_t hb29 c32
        refine pp_bipush dX5_whyRefused_35 cb_m8 (q := 37) rfl ?_
        refine ri_ret dX5_whyRefused_37 rfl rfl ?_
        exact ⟨by unfold whyA; rw [cIf_f hn4, cIf_f hn17, cIf_t hp29], rfl⟩
    · have hp17 := isB_t hb17 c20
      refine pp_bipush dX5_whyRefused_23 cb_m2 (q := 25) rfl ?_
      refine ri_ret dX5_whyRefused_25 rfl rfl ?_
      exact ⟨by unfold whyA; rw [cIf_f hn4, cIf_t hp17], rfl⟩
  · have hp4 := isB_t hb4 c7
    refine pp_bipush dX5_whyRefused_10 cb_m3 (q := 12) rfl ?_
    refine ri_ret dX5_whyRefused_12 rfl rfl ?_
    exact ⟨by unfold whyA; rw [cIf_t hp4], rfl⟩
