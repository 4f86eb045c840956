noncomputable def cIf {α : Type} (p : Prop) (a b : α) : α := @ite α p (Classical.propDecidable p) a b
theorem cIf_t {α : Type} {p : Prop} {a b : α} (h : p) : cIf p a b = a := by unfold cIf; exact if_pos h
theorem cIf_f {α : Type} {p : Prop} {a b : α} (h : ¬ p) : cIf p a b = b := by unfold cIf; exact if_neg h
def refu (M : Me) (kind pt : Int32) : Prop := ¬ kind = nI 1 ∧ ¬ pt < M.1 4
/-- a member takes a piece -/
noncomputable def meTak (m x : Nat) (kind pt l : Int32) (M : Me) : Me := cIf (x = m) (cIf (refu M kind pt) (meRai m (pt + nI 1) M) M) (cIf (beats (M.2.2 31) (M.2.2 32) x kind pt) (meEn M x kind pt l) M)
noncomputable def tkF (m : Nat) (l : Int32) (s : Nat) (A : AW) (i : Nat) : AW := cIf ((bp (aB A) (s + i) 0).toNatClampNeg = m ∧ refu (A.1 m) (bp (aB A) (s + i) 1) (bp (aB A) (s + i) 2)) (tlA (aSet (tlA A (nI 0 + bp (aB A) (s + i) 1 - nI 1)) m (meTak m (bp (aB A) (s + i) 0).toNatClampNeg (bp (aB A) (s + i) 1) (bp (aB A) (s + i) 2) l (A.1 m))) (nI 10)) (aSet (tlA A (nI 0 + bp (aB A) (s + i) 1 - nI 1)) m (meTak m (bp (aB A) (s + i) 0).toNatClampNeg (bp (aB A) (s + i) 1) (bp (aB A) (s + i) 2) l (A.1 m)))
noncomputable def tkR (m : Nat) (l : Int32) (s : Nat) : Nat → Nat → AW → AW
  | _, 0, A => A
  | i, c + 1, A => tkR m l s (i + 1) c (tkF m l s A i)
theorem meTak_1 {m x : Nat} {kind pt l : Int32} {M : Me} : (meTak m x kind pt l M).1 1 = M.1 1 ∧ (meTak m x kind pt l M).1 2 = M.1 2 := by
  unfold meTak
  by_cases h1 : x = m
  · rw [cIf_t h1]
    by_cases h2 : refu M kind pt
    · rw [cIf_t h2]; exact ⟨rfl, rfl⟩
    · rw [cIf_f h2]; exact ⟨rfl, rfl⟩
  · rw [cIf_f h1]
    by_cases h2 : beats (M.2.2 31) (M.2.2 32) x kind pt
    · rw [cIf_t h2]; exact ⟨rfl, rfl⟩
    · rw [cIf_f h2]; exact ⟨rfl, rfl⟩
theorem aSet_m {A : AW} {m : Nat} {M : Me} : (aSet A m M).1 m = M := if_pos rfl
theorem aSet_ne {A : AW} {m m' : Nat} {M : Me} (h : m' ≠ m) : (aSet A m M).1 m' = A.1 m' := if_neg h
theorem tkF_bk {m : Nat} {l : Int32} {s : Nat} {A : AW} {i : Nat} : aB (tkF m l s A i) = aB A ∧ ((tkF m l s A i).1 m).1 1 = (A.1 m).1 1 ∧ ((tkF m l s A i).1 m).1 2 = (A.1 m).1 2 := by
  unfold tkF
  by_cases h : (bp (aB A) (s + i) 0).toNatClampNeg = m ∧ refu (A.1 m) (bp (aB A) (s + i) 1) (bp (aB A) (s + i) 2)
  · rw [cIf_t h]
    refine ⟨rfl, ?_, ?_⟩
    · show ((aSet _ m _).1 m).1 1 = _; rw [aSet_m]; exact meTak_1.1
    · show ((aSet _ m _).1 m).1 2 = _; rw [aSet_m]; exact meTak_1.2
  · rw [cIf_f h]
    refine ⟨rfl, ?_, ?_⟩
    · rw [aSet_m]; exact meTak_1.1
    · rw [aSet_m]; exact meTak_1.2
theorem tkR_bk {m : Nat} {l : Int32} {s : Nat} : ∀ (c i : Nat) (A : AW), aB (tkR m l s i c A) = aB A ∧ ((tkR m l s i c A).1 m).1 1 = (A.1 m).1 1 ∧ ((tkR m l s i c A).1 m).1 2 = (A.1 m).1 2
  | 0, i, A => ⟨rfl, rfl, rfl⟩
  | c + 1, i, A => by
    obtain ⟨h1, h2, h3⟩ := @tkR_bk m l s c (i + 1) (tkF m l s A i)
    obtain ⟨k1, k2, k3⟩ := @tkF_bk m l s A i
    exact ⟨h1.trans k1, h2.trans k2, h3.trans k3⟩
theorem m_w {w m : Nat} : ∀ n, memS w m n → wS w n := fun n h => memS_w h
theorem t_w {w : Nat} : ∀ n, n = (14, w, 0) → wS w n := fun n h => by subst h; exact wS_of (by decide) (by decide)
theorem RM_rai {g : Sg} {w m : Nat} {M : Me} {t : Int32} (h : RM g w m M) (hm : m < 64) : RM (enG (sI g (30, w, m) 4 t) w m m (nI 1) t (-1)) w m (meRai m t M) := RM_en (RM_sI h (by decide)) hm
theorem rai_eqx {g : Sg} {w m : Nat} {t : Int32} : EqX (memS w m) g (enG (sI g (30, w, m) 4 t) w m m (nI 1) t (-1)) := (EqX.rf.sI ⟨rfl, rfl, by show 30 ≤ 30; omega, by show 30 ≤ 36; omega⟩).en (fun n h => h)
theorem c_take {ad : Nm → Nat} {g : Sg} {w m x : Nat} {A : AW} {kind pt l : Int32} (hA : RW g w A) (hmb : m < 64) (hd : mdA A m) (hx : x < 64) : PS mX1_takePiece 0 (ent mX1_takePiece [.ref (ad (30, w, m)), .int (nI x), .int kind, .int pt, .int l]) [] ad g (Ri (fun v g' => isB v (x = m ∧ refu (A.1 m) kind pt) ∧ RW g' w (aSet A m (meTak m x kind pt l (A.1 m))) ∧ EqX (memS w m) g g')) := by
  have hM := hA.m hmb hd
  have e4 := hM.sc sl4
  by_cases hxm : x = m
  · subst hxm
    refine (c_takeSelf hM.1 hmb).weak (fun v G hG => ?_)
    obtain ⟨g', h1, r, h2, h3, h4⟩ := hG
    rw [e4] at h3 h4
    have hrf : (x = x ∧ refu (A.1 x) kind pt) ↔ (¬ kind = nI 1 ∧ ¬ pt < (A.1 x).1 4) := ⟨fun q => q.2, fun q => ⟨rfl, q⟩⟩
    refine ⟨g', h1, r, h2, ?_, ?_⟩
    · rcases h3 with ⟨a, b⟩ | ⟨a, b⟩
      · exact Or.inl ⟨hrf.mpr a, b⟩
      · exact Or.inr ⟨fun q => a (hrf.mp q), b⟩
    · rcases h4 with ⟨a, rfl⟩ | ⟨a, b⟩
      · refine ⟨?_, rai_eqx⟩
        refine RW_mem hA rai_eqx ?_ ?_
        · unfold meTak; rw [cIf_t rfl, cIf_t (show refu (A.1 x) kind pt from a)]; exact RM_rai hM hmb
        · rw [meTak_1.1]; exact hd
      · subst b
        refine ⟨RW_mem hA EqX.rf ?_ ?_, EqX.rf⟩
        · unfold meTak; rw [cIf_t rfl, cIf_f (show ¬ refu (A.1 x) kind pt from a)]; exact hM
        · rw [meTak_1.1]; exact hd
  · refine (c_takeOther hM.1 hmb hx hxm).weak (fun v G hG => ?_)
    obtain ⟨g', h1, r, h2, h3, h4⟩ := hG
    rw [hM.ar (k := 31) (by omega) (by omega), hM.ar (k := 32) (by omega) (by omega)] at h4
    refine ⟨g', h1, r, h2, Or.inr ⟨fun q => hxm q.1, h3⟩, ?_⟩
    rcases h4 with ⟨a, rfl⟩ | ⟨a, b⟩
    · refine ⟨RW_mem hA enG_eqx ?_ ?_, enG_eqx⟩
      · unfold meTak; rw [cIf_f hxm, cIf_t a]; exact RM_en hM hx
      · rw [meTak_1.1]; exact hd
    · subst b
      refine ⟨RW_mem hA EqX.rf ?_ ?_, EqX.rf⟩
      · unfold meTak; rw [cIf_f hxm, cIf_f a]; exact hM
      · rw [meTak_1.1]; exact hd
set_option maxRecDepth 20000 in
set_option maxHeartbeats 4000000 in
theorem l_take {ad : Nm → Nat} {w m l k s : Nat} {B : Bk} (hmb : m < 64) (hp : pOk B l k s) (hpx : ∀ i, i < k → ∃ x, x < 64 ∧ bp B (s + i) 0 = nI x) : ∀ (j i : Nat) (g : Sg) (A : AW), k - i < j → i ≤ k → RW g w A → mdA A m → aB A = B → ∀ z : Option Value, PP mX5_takeNews 13 [some (.ref (ad (10, w, 0))), some (.ref (ad (30, w, m))), some (.int (nI l)), some (.int (nI k)), some (.int (nI i)), z] [] (Rel ad g) (fun v G => ∃ g', Rel ad g' G ∧ Rv (fun g' => RW g' w (tkR m (nI l) s i (k - i) A) ∧ EqX (wS w) g g') v g') := by
  have hk6 := hp.2.2.2.2
  intro j
  induction j with
  | zero => intro i g A h; omega
  | succ j ih =>
    intro i g A hij hik hA hd hAB z
    have hM := hA.m hmb hd
    refine pp_iload dX5_takeNews_13 rfl (q := 15) rfl ?_
    refine pp_iload_n dX5_takeNews_15 rfl (q := 16) rfl ?_
    refine pp_icmp_ge (tgt := 86) dX5_takeNews_16 (by decide) (q := 19) rfl (fun c16 => ?_) (fun c16 => ?_)
    · have e : i = k := by have := leT c16 (by omega) (by omega); omega
      subst e
      refine rv_ret dX5_takeNews_86 rfl ⟨?_, EqX.rf⟩
      rw [Nat.sub_self]
      exact hA
    · have hlt := leF c16 (by omega) (by omega)
      obtain ⟨x, hx, hxe⟩ := hpx i hlt
      have hB := hA.2.1
      rw [hAB] at hB
      refine pp_aload_n dX5_takeNews_19 rfl isRf_r (q := 20) rfl ?_
      refine ps_get dX5_takeNews_20 fl_X5_28 (by first | exact hA5.1 | exact hA4.1 | exact hA3.1 | exact hA2.1 | exact hA1.1 | exact hA.1) rfl rfl (q := 23) rfl ?_
      refine pp_iload_n dX5_takeNews_23 rfl (q := 24) rfl ?_
      refine pp_iload dX5_takeNews_24 rfl (q := 26) rfl ?_
      refine pp_iconst dX5_takeNews_26 ci_1 (q := 27) rfl ?_
      refine ps_callVi dX5_takeNews_27 lk_X5_291 (by exact (by first | exact hA5.1 | exact hA4.1 | exact hA3.1 | exact hA2.1 | exact hA1.1 | exact hA.1)) (by rfl) (by rfl) (by rfl) (c_ofPiece (c := 1) hA.1 hB hp hlt (by decide)) (by rfl) (by exact Nat.le_of_ble_eq_true rfl) (by decide) (by decide) (by exact Nat.le_of_ble_eq_true rfl) (q := 30) rfl (fun r27 g27 h27 => ?_)
      obtain ⟨rfl, rfl⟩ := And.intro h27.1.symm h27.2.symm
      refine pp_istore dX5_takeNews_30 (by decide) (ls1_5 (nl1 rfl)) (q := 32) rfl ?_
      refine pp_aload_n dX5_takeNews_32 rfl isRf_r (q := 33) rfl ?_
      refine pp_iconst dX5_takeNews_33 ci_0 (q := 34) rfl ?_
      refine pp_iload dX5_takeNews_34 rfl (q := 36) rfl ?_
      refine pp_iadd dX5_takeNews_36 (q := 37) rfl ?_
      refine pp_iconst dX5_takeNews_37 ci_1 (q := 38) rfl ?_
      refine pp_isub dX5_takeNews_38 (q := 39) rfl ?_
      refine ps_callVv dX5_takeNews_39 lk_X5_225 (by exact (by first | exact hA5.1 | exact hA4.1 | exact hA3.1 | exact hA2.1 | exact hA1.1 | exact hA.1)) (by rfl) (by rfl) (by rfl) (c_tally hA) (by rfl) (by exact Nat.le_of_ble_eq_true rfl) (by decide) (by decide) (by exact Nat.le_of_ble_eq_true rfl) (q := 42) rfl (fun g39 h39 => ?_)
      obtain ⟨hA1, hE1⟩ := h39
      have hB1 : RB g39 w B := by have := hA1.2.1; rw [show aB (tlA A (nI 0 + bp B (s + i) 1 - nI 1)) = B from hAB] at this; exact this
      have hM1 := hA1.m hmb hd
      refine pp_aload_n dX5_takeNews_42 rfl isRf_r (q := 43) rfl ?_
      refine pp_aload_n dX5_takeNews_43 rfl isRf_r (q := 44) rfl ?_
      refine ps_get dX5_takeNews_44 fl_X5_28 (by first | exact hA5.1 | exact hA4.1 | exact hA3.1 | exact hA2.1 | exact hA1.1 | exact hA.1) rfl rfl (q := 47) rfl ?_
      refine pp_iload_n dX5_takeNews_47 rfl (q := 48) rfl ?_
      refine pp_iload dX5_takeNews_48 rfl (q := 50) rfl ?_
      refine pp_iconst dX5_takeNews_50 ci_0 (q := 51) rfl ?_
      refine ps_callVi dX5_takeNews_51 lk_X5_291 (by exact (by first | exact hA5.1 | exact hA4.1 | exact hA3.1 | exact hA2.1 | exact hA1.1 | exact hA.1)) (by rfl) (by rfl) (by rfl) (c_ofPiece (c := 0) hA1.1 hB1 hp hlt (by decide)) (by rfl) (by exact Nat.le_of_ble_eq_true rfl) (by decide) (by decide) (by exact Nat.le_of_ble_eq_true rfl) (q := 54) rfl (fun r51 g51 h51 => ?_)
      obtain ⟨rfl, rfl⟩ := And.intro h51.1.symm h51.2.symm
      rw [hxe]
      refine pp_iload dX5_takeNews_54 rfl (q := 56) rfl ?_
      refine pp_aload_n dX5_takeNews_56 rfl isRf_r (q := 57) rfl ?_
      refine ps_get dX5_takeNews_57 fl_X5_28 (by first | exact hA5.1 | exact hA4.1 | exact hA3.1 | exact hA2.1 | exact hA1.1 | exact hA.1) rfl rfl (q := 60) rfl ?_
      refine pp_iload_n dX5_takeNews_60 rfl (q := 61) rfl ?_
      refine pp_iload dX5_takeNews_61 rfl (q := 63) rfl ?_
      refine pp_iconst dX5_takeNews_63 ci_2 (q := 64) rfl ?_
      refine ps_callVi dX5_takeNews_64 lk_X5_291 (by exact (by first | exact hA5.1 | exact hA4.1 | exact hA3.1 | exact hA2.1 | exact hA1.1 | exact hA.1)) (by rfl) (by rfl) (by rfl) (c_ofPiece (c := 2) hA1.1 hB1 hp hlt (by decide)) (by rfl) (by exact Nat.le_of_ble_eq_true rfl) (by decide) (by decide) (by exact Nat.le_of_ble_eq_true rfl) (q := 67) rfl (fun r64 g64 h64 => ?_)
      obtain ⟨rfl, rfl⟩ := And.intro h64.1.symm h64.2.symm
      refine pp_iload_n dX5_takeNews_67 rfl (q := 68) rfl ?_
      refine ps_callVi dX5_takeNews_68 lk_X5_294 (by exact (by first | exact hM4.1 | exact hM3.1 | exact hM2.1 | exact hM1.1 | exact hM.1)) (by rfl) (by rfl) (by rfl) (c_take hA1 hmb hd hx) (by rfl) (by exact Nat.le_of_ble_eq_true rfl) (by decide) (by decide) (by exact Nat.le_of_ble_eq_true rfl) (q := 71) rfl (fun r68 g68 h68 => ?_)
      obtain ⟨hb68, hA2, hE2⟩ := h68
      have hxn : (bp (aB A) (s + i) 0).toNatClampNeg = x := by rw [hAB, hxe]; exact nI_clamp (by omega)
      have hE12 : EqX (wS w) g g68 := (hE1.mono t_w).tr (hE2.mono m_w)
      refine pp_if_eq (tgt := 80) dX5_takeNews_71 (by decide) (q := 74) rfl (fun c71 => ?_) (fun c71 => ?_)
      · have hrf : ¬ (x = m ∧ refu (A.1 m) (bp B (s + i) 1) (bp B (s + i) 2)) := isB_f hb68 c71
        have hRn : RW g68 w (tkF m (nI l) s A i) := by
          unfold tkF
          rw [hxn, hAB, cIf_f hrf]
          exact hA2
        have hEn := hE12
        refine pp_iinc dX5_takeNews_80 rfl (nI_1 _) (ls1_4 (nl1 rfl)) (q := 83) rfl ?_
        refine pp_goto (tgt := 13) dX5_takeNews_83 (by decide) ?_
        have hbk := @tkF_bk m (nI l) s A i
        refine (ih (i + 1) _ (tkF m (nI l) s A i) (by omega) (by omega) hRn (by unfold mdA; rw [hbk.2.1]; exact hd) (hbk.1.trans hAB) _).weak (fun v G hG => ?_)
        obtain ⟨g', q1, q2, q3, q4⟩ := hG
        refine ⟨g', q1, q2, ?_, hEn.tr q4⟩
        rw [show k - i = (k - (i + 1)) + 1 by omega]
        exact q3
      · have hrf : x = m ∧ refu (A.1 m) (bp B (s + i) 1) (bp B (s + i) 2) := isB_t hb68 c71
        refine pp_aload_n dX5_takeNews_74 rfl isRf_r (q := 75) rfl ?_
        refine pp_bipush dX5_takeNews_75 cb_10 (q := 77) rfl ?_
        refine ps_callVv dX5_takeNews_77 lk_X5_225 (by exact (by first | exact hA5.1 | exact hA4.1 | exact hA3.1 | exact hA2.1 | exact hA1.1 | exact hA.1)) (by rfl) (by rfl) (by rfl) (c_tally hA2) (by rfl) (by exact Nat.le_of_ble_eq_true rfl) (by decide) (by decide) (by exact Nat.le_of_ble_eq_true rfl) (q := 80) rfl (fun g77 h77 => ?_)
        obtain ⟨hA3, hE3⟩ := h77
        have hRn : RW g77 w (tkF m (nI l) s A i) := by
          unfold tkF
          rw [hxn, hAB, cIf_t hrf]
          exact hA3
        have hEn : EqX (wS w) g g77 := hE12.tr (hE3.mono t_w)
        refine pp_iinc dX5_takeNews_80 rfl (nI_1 _) (ls1_4 (nl1 rfl)) (q := 83) rfl ?_
        refine pp_goto (tgt := 13) dX5_takeNews_83 (by decide) ?_
        have hbk := @tkF_bk m (nI l) s A i
        refine (ih (i + 1) _ (tkF m (nI l) s A i) (by omega) (by omega) hRn (by unfold mdA; rw [hbk.2.1]; exact hd) (hbk.1.trans hAB) _).weak (fun v G hG => ?_)
        obtain ⟨g', q1, q2, q3, q4⟩ := hG
        refine ⟨g', q1, q2, ?_, hEn.tr q4⟩
        rw [show k - i = (k - (i + 1)) + 1 by omega]
        exact q3
set_option maxRecDepth 20000 in
set_option maxHeartbeats 4000000 in
theorem c_takeNews {ad : Nm → Nat} {g : Sg} {w m l k s : Nat} {A : AW} (hA : RW g w A) (hmb : m < 64) (hd : mdA A m) (hp : pOk (aB A) l k s) (hpx : ∀ i, i < k → ∃ x, x < 64 ∧ bp (aB A) (s + i) 0 = nI x) : PS mX5_takeNews 0 (ent mX5_takeNews [.ref (ad (10, w, 0)), .ref (ad (30, w, m)), .int (nI l)]) [] ad g (Rv (fun g' => RW g' w (tkR m (nI l) s 0 k A) ∧ EqX (wS w) g g')) := by
  have hM := hA.m hmb hd
  show PP mX5_takeNews 0 [some (.ref (ad (10, w, 0))), some (.ref (ad (30, w, m))), some (.int (nI l)), none, none, none] [] (Rel ad g) _
  refine pp_aload_n dX5_takeNews_0 rfl isRf_r (q := 1) rfl ?_
  refine ps_get dX5_takeNews_1 fl_X5_28 (by first | exact hA5.1 | exact hA4.1 | exact hA3.1 | exact hA2.1 | exact hA1.1 | exact hA.1) rfl rfl (q := 4) rfl ?_
  refine pp_iload_n dX5_takeNews_4 rfl (q := 5) rfl ?_
  refine pp_iconst dX5_takeNews_5 ci_4 (q := 6) rfl ?_
  refine ps_callVi dX5_takeNews_6 lk_X5_167 (by exact (by first | exact hA5.1 | exact hA4.1 | exact hA3.1 | exact hA2.1 | exact hA1.1 | exact hA.1)) (by rfl) (by rfl) (by rfl) (c_ofLetter (c := 4) hA.1 hA.2.1 hp.1 (by decide)) (by rfl) (by exact Nat.le_of_ble_eq_true rfl) (by decide) (by decide) (by exact Nat.le_of_ble_eq_true rfl) (q := 9) rfl (fun r6 g6 h6 => ?_)
  obtain ⟨rfl, rfl⟩ := And.intro h6.1.symm h6.2.symm
  rw [hp.2.1]
  refine pp_istore_n dX5_takeNews_9 (by decide) (ls1_3 (nl1 rfl)) (q := 10) rfl ?_
  refine pp_iconst dX5_takeNews_10 ci_0 (q := 11) rfl ?_
  refine pp_istore dX5_takeNews_11 (by decide) (ls1_4 (nl1 rfl)) (q := 13) rfl ?_
  exact l_take hmb hp hpx (k + 1) 0 g A (by omega) (by omega) hA hd rfl _
/-- what a letter asks for beside its news -/
def rspA (A : AW) (m l : Nat) : AW × Int32 :=
  if bl (aB A) l 0 = nI 1 then (sndA A m (nI 3) (bl (aB A) l 1) (bl (aB A) l 3), nI 1)
  else if bl (aB A) l 0 = nI 2 then (sndA A m (nI 1) (bl (aB A) l 3) (bl (aB A) l 1), nI 1)
  else if bl (aB A) l 0 = nI 3 then (if bl (aB A) l 3 = -1 then (aSet A m (meAns (bl (aB A) l 1) (A.1 m)), nI 0) else (sndA A m (nI 4) (bl (aB A) l 3) (bl (aB A) l 1), nI 1))
  else if bl (aB A) l 0 = nI 4 then (aSet A m (meAns (bl (aB A) l 3) (A.1 m)), nI 0)
  else if bl (aB A) l 0 = nI 5 then (sndA A m (nI 6) (bl (aB A) l 1) (-1), nI 1)
  else (A, nI 0)
theorem meAns_1 {x : Int32} {M : Me} : (meAns x M).1 1 = M.1 1 ∧ (meAns x M).1 2 = M.1 2 := by
  unfold meAns
  split
  · split <;> exact ⟨rfl, rfl⟩
  · split <;> exact ⟨rfl, rfl⟩
theorem c_ans {ad : Nm → Nat} {g : Sg} {w m : Nat} {A : AW} {x : Int32} (hA : RW g w A) (hmb : m < 64) (hd : mdA A m) : PS mX1_isAnswered 0 (ent mX1_isAnswered [.ref (ad (30, w, m)), .int x]) [] ad g (Rv (fun g' => RW g' w (aSet A m (meAns x (A.1 m))) ∧ EqX (wS w) g g')) := by
  have hM := hA.m hmb hd
  refine (c_isAnswered hM.1).weak (fun v G hG => ?_)
  obtain ⟨g', h1, h2, rfl⟩ := hG
  exact ⟨_, h1, h2, RW_mem hA anG_eqx (RM_ans hM) (by rw [meAns_1.1]; exact hd), anG_eqx.mono m_w⟩
theorem nI_lit (a b : Nat) (h : decide (nI a = nI b) = false) : ¬ nI a = nI b := by simpa using h
set_option maxRecDepth 20000 in
set_option maxHeartbeats 4000000 in
theorem c_respond {ad : Nm → Nat} {g : Sg} {w m l : Nat} {A : AW} (hA : RW g w A) (hmb : m < 64) (hd : mdA A m) (hl : l < bL (aB A)) (hroomL : (bL (aB A) + 1) * wdN 0 ≤ gN g (21, w, 0)) (hroomP : (bP (aB A) + 64) * 4 ≤ gN g (21, w, 1)) : PS mX5_respond 0 (ent mX5_respond [.ref (ad (10, w, 0)), .ref (ad (30, w, m)), .int (nI l)]) [] ad g (Ri (fun v g' => v = (rspA A m l).2 ∧ RW g' w (rspA A m l).1 ∧ EqX (wS w) g g')) := by
  have hM := hA.m hmb hd
  show PP mX5_respond 0 [some (.ref (ad (10, w, 0))), some (.ref (ad (30, w, m))), some (.int (nI l)), none, none] [] (Rel ad g) _
  refine pp_aload_n dX5_respond_0 rfl isRf_r (q := 1) rfl ?_
  refine ps_get dX5_respond_1 fl_X5_28 (by first | exact hA5.1 | exact hA4.1 | exact hA3.1 | exact hA2.1 | exact hA1.1 | exact hA.1) rfl rfl (q := 4) rfl ?_
  refine pp_iload_n dX5_respond_4 rfl (q := 5) rfl ?_
  refine pp_iconst dX5_respond_5 ci_1 (q := 6) rfl ?_
  refine ps_callVi dX5_respond_6 lk_X5_167 (by exact (by first | exact hA5.1 | exact hA4.1 | exact hA3.1 | exact hA2.1 | exact hA1.1 | exact hA.1)) (by rfl) (by rfl) (by rfl) (c_ofLetter (c := 1) hA.1 hA.2.1 hl (by decide)) (by rfl) (by exact Nat.le_of_ble_eq_true rfl) (by decide) (by decide) (by exact Nat.le_of_ble_eq_true rfl) (q := 9) rfl (fun r6 g6 h6 => ?_)
  obtain ⟨rfl, rfl⟩ := And.intro h6.1.symm h6.2.symm
  refine pp_istore_n dX5_respond_9 (by decide) (ls1_3 (nl1 rfl)) (q := 10) rfl ?_
  refine pp_aload_n dX5_respond_10 rfl isRf_r (q := 11) rfl ?_
  refine ps_get dX5_respond_11 fl_X5_28 (by first | exact hA5.1 | exact hA4.1 | exact hA3.1 | exact hA2.1 | exact hA1.1 | exact hA.1) rfl rfl (q := 14) rfl ?_
  refine pp_iload_n dX5_respond_14 rfl (q := 15) rfl ?_
  refine pp_iconst dX5_respond_15 ci_3 (q := 16) rfl ?_
  refine ps_callVi dX5_respond_16 lk_X5_167 (by exact (by first | exact hA5.1 | exact hA4.1 | exact hA3.1 | exact hA2.1 | exact hA1.1 | exact hA.1)) (by rfl) (by rfl) (by rfl) (c_ofLetter (c := 3) hA.1 hA.2.1 hl (by decide)) (by rfl) (by exact Nat.le_of_ble_eq_true rfl) (by decide) (by decide) (by exact Nat.le_of_ble_eq_true rfl) (q := 19) rfl (fun r16 g16 h16 => ?_)
  obtain ⟨rfl, rfl⟩ := And.intro h16.1.symm h16.2.symm
  refine pp_istore dX5_respond_19 (by decide) (ls1_4 (nl1 rfl)) (q := 21) rfl ?_
  refine pp_aload_n dX5_respond_21 rfl isRf_r (q := 22) rfl ?_
  refine ps_get dX5_respond_22 fl_X5_28 (by first | exact hA5.1 | exact hA4.1 | exact hA3.1 | exact hA2.1 | exact hA1.1 | exact hA.1) rfl rfl (q := 25) rfl ?_
  refine pp_iload_n dX5_respond_25 rfl (q := 26) rfl ?_
  refine pp_iconst dX5_respond_26 ci_0 (q := 27) rfl ?_
  refine ps_callVi dX5_respond_27 lk_X5_167 (by exact (by first | exact hA5.1 | exact hA4.1 | exact hA3.1 | exact hA2.1 | exact hA1.1 | exact hA.1)) (by rfl) (by rfl) (by rfl) (c_ofLetter (c := 0) hA.1 hA.2.1 hl (by decide)) (by rfl) (by exact Nat.le_of_ble_eq_true rfl) (by decide) (by decide) (by exact Nat.le_of_ble_eq_true rfl) (q := 30) rfl (fun r27 g27 h27 => ?_)
  obtain ⟨rfl, rfl⟩ := And.intro h27.1.symm h27.2.symm
  rcases sw_cases (bl (aB A) l 0) 1 5 (by decide) with ⟨v30, hv30a, hv30b, hv30⟩ | hv30
  · obtain rfl | rfl | rfl | rfl | rfl : v30 = 1 ∨ v30 = 2 ∨ v30 = 3 ∨ v30 = 4 ∨ v30 = 5 := by omega
    · refine pp_tswK (v := 1) (tgt := 64) dX5_respond_30 hv30 (by decide) (by decide) (by decide) rfl (by decide) ?_
      refine pp_aload_n dX5_respond_64 rfl isRf_r (q := 65) rfl ?_
      refine pp_aload_n dX5_respond_65 rfl isRf_r (q := 66) rfl ?_
      refine pp_iconst dX5_respond_66 ci_3 (q := 67) rfl ?_
      refine pp_iload_n dX5_respond_67 rfl (q := 68) rfl ?_
      refine pp_iload dX5_respond_68 rfl (q := 70) rfl ?_
      refine ps_callVi dX5_respond_70 lk_X5_119 (by exact (by first | exact hA5.1 | exact hA4.1 | exact hA3.1 | exact hA2.1 | exact hA1.1 | exact hA.1)) (by rfl) (by rfl) (by rfl) (c_send hA hmb hd hroomL (by exact Nat.le_trans (Nat.mul_le_mul_right 4 (Nat.add_le_add_left (pkL_le _ _ _) _)) hroomP)) (by rfl) (by exact Nat.le_of_ble_eq_true rfl) (by decide) (by decide) (by exact Nat.le_of_ble_eq_true rfl) (q := 73) rfl (fun r70 g70 h70 => ?_)
      obtain ⟨rfl, hAn, hEn, h16n⟩ := And.intro h70.1.symm h70.2
      refine pp_pop dX5_respond_73 rfl (q := 74) rfl ?_
      refine pp_iconst dX5_respond_74 ci_1 (q := 75) rfl ?_
      refine ri_ret dX5_respond_75 rfl rfl ?_
      unfold rspA
      rw [if_pos hv30]
      exact ⟨rfl, hAn, hEn⟩
    · refine pp_tswK (v := 2) (tgt := 76) dX5_respond_30 hv30 (by decide) (by decide) (by decide) rfl (by decide) ?_
      refine pp_aload_n dX5_respond_76 rfl isRf_r (q := 77) rfl ?_
      refine pp_aload_n dX5_respond_77 rfl isRf_r (q := 78) rfl ?_
      refine pp_iconst dX5_respond_78 ci_1 (q := 79) rfl ?_
      refine pp_iload dX5_respond_79 rfl (q := 81) rfl ?_
      refine pp_iload_n dX5_respond_81 rfl (q := 82) rfl ?_
      refine ps_callVi dX5_respond_82 lk_X5_119 (by exact (by first | exact hA5.1 | exact hA4.1 | exact hA3.1 | exact hA2.1 | exact hA1.1 | exact hA.1)) (by rfl) (by rfl) (by rfl) (c_send hA hmb hd hroomL (by exact Nat.le_trans (Nat.mul_le_mul_right 4 (Nat.add_le_add_left (pkL_le _ _ _) _)) hroomP)) (by rfl) (by exact Nat.le_of_ble_eq_true rfl) (by decide) (by decide) (by exact Nat.le_of_ble_eq_true rfl) (q := 85) rfl (fun r82 g82 h82 => ?_)
      obtain ⟨rfl, hAn, hEn, h16n⟩ := And.intro h82.1.symm h82.2
      refine pp_pop dX5_respond_85 rfl (q := 86) rfl ?_
      refine pp_iconst dX5_respond_86 ci_1 (q := 87) rfl ?_
      refine ri_ret dX5_respond_87 rfl rfl ?_
      unfold rspA
      rw [if_neg (show ¬ bl (aB A) l 0 = nI 1 by rw [hv30]; decide), if_pos hv30]
      exact ⟨rfl, hAn, hEn⟩
    · refine pp_tswK (v := 3) (tgt := 88) dX5_respond_30 hv30 (by decide) (by decide) (by decide) rfl (by decide) ?_
      refine pp_iload dX5_respond_88 rfl (q := 90) rfl ?_
      refine pp_iconst dX5_respond_90 ci_m1 (q := 91) rfl ?_
      refine pp_icmp_ne (tgt := 101) dX5_respond_91 (by decide) (q := 94) rfl (fun c91 => ?_) (fun c91 => ?_)
      · refine pp_aload_n dX5_respond_101 rfl isRf_r (q := 102) rfl ?_
        refine pp_aload_n dX5_respond_102 rfl isRf_r (q := 103) rfl ?_
        refine pp_iconst dX5_respond_103 ci_4 (q := 104) rfl ?_
        refine pp_iload dX5_respond_104 rfl (q := 106) rfl ?_
        refine pp_iload_n dX5_respond_106 rfl (q := 107) rfl ?_
        refine ps_callVi dX5_respond_107 lk_X5_119 (by exact (by first | exact hA5.1 | exact hA4.1 | exact hA3.1 | exact hA2.1 | exact hA1.1 | exact hA.1)) (by rfl) (by rfl) (by rfl) (c_send hA hmb hd hroomL (by exact Nat.le_trans (Nat.mul_le_mul_right 4 (Nat.add_le_add_left (pkL_le _ _ _) _)) hroomP)) (by rfl) (by exact Nat.le_of_ble_eq_true rfl) (by decide) (by decide) (by exact Nat.le_of_ble_eq_true rfl) (q := 110) rfl (fun r107 g107 h107 => ?_)
        obtain ⟨rfl, hAn, hEn, h16n⟩ := And.intro h107.1.symm h107.2
        refine pp_pop dX5_respond_110 rfl (q := 111) rfl ?_
        refine pp_iconst dX5_respond_111 ci_1 (q := 112) rfl ?_
        refine ri_ret dX5_respond_112 rfl rfl ?_
        unfold rspA
        rw [if_neg (show ¬ bl (aB A) l 0 = nI 1 by rw [hv30]; decide), if_neg (show ¬ bl (aB A) l 0 = nI 2 by rw [hv30]; decide), if_pos hv30, if_neg c91]
        exact ⟨rfl, hAn, hEn⟩
      · refine pp_aload_n dX5_respond_94 rfl isRf_r (q := 95) rfl ?_
        refine pp_iload_n dX5_respond_95 rfl (q := 96) rfl ?_
        refine ps_callVv dX5_respond_96 lk_X5_298 (by exact (by first | exact hM4.1 | exact hM3.1 | exact hM2.1 | exact hM1.1 | exact hM.1)) (by rfl) (by rfl) (by rfl) (c_ans hA hmb hd) (by rfl) (by exact Nat.le_of_ble_eq_true rfl) (by decide) (by decide) (by exact Nat.le_of_ble_eq_true rfl) (q := 99) rfl (fun g96 h96 => ?_)
        obtain ⟨hAn, hEn⟩ := h96
        refine pp_iconst dX5_respond_99 ci_0 (q := 100) rfl ?_
        refine ri_ret dX5_respond_100 rfl rfl ?_
        unfold rspA
        rw [if_neg (show ¬ bl (aB A) l 0 = nI 1 by rw [hv30]; decide), if_neg (show ¬ bl (aB A) l 0 = nI 2 by rw [hv30]; decide), if_pos hv30, if_pos c91]
        exact ⟨rfl, hAn, hEn⟩
    · refine pp_tswK (v := 4) (tgt := 113) dX5_respond_30 hv30 (by decide) (by decide) (by decide) rfl (by decide) ?_
      refine pp_aload_n dX5_respond_113 rfl isRf_r (q := 114) rfl ?_
      refine pp_iload dX5_respond_114 rfl (q := 116) rfl ?_
      refine ps_callVv dX5_respond_116 lk_X5_298 (by exact (by first | exact hM4.1 | exact hM3.1 | exact hM2.1 | exact hM1.1 | exact hM.1)) (by rfl) (by rfl) (by rfl) (c_ans hA hmb hd) (by rfl) (by exact Nat.le_of_ble_eq_true rfl) (by decide) (by decide) (by exact Nat.le_of_ble_eq_true rfl) (q := 119) rfl (fun g116 h116 => ?_)
      obtain ⟨hAn, hEn⟩ := h116
      refine pp_iconst dX5_respond_119 ci_0 (q := 120) rfl ?_
      refine ri_ret dX5_respond_120 rfl rfl ?_
      unfold rspA
      rw [if_neg (show ¬ bl (aB A) l 0 = nI 1 by rw [hv30]; decide), if_neg (show ¬ bl (aB A) l 0 = nI 2 by rw [hv30]; decide), if_neg (show ¬ bl (aB A) l 0 = nI 3 by rw [hv30]; decide), if_pos hv30]
      exact ⟨rfl, hAn, hEn⟩
    · refine pp_tswK (v := 5) (tgt := 121) dX5_respond_30 hv30 (by decide) (by decide) (by decide) rfl (by decide) ?_
      refine pp_aload_n dX5_respond_121 rfl isRf_r (q := 122) rfl ?_
      refine pp_aload_n dX5_respond_122 rfl isRf_r (q := 123) rfl ?_
      refine pp_bipush dX5_respond_123 cb_6 (q := 125) rfl ?_
      refine pp_iload_n dX5_respond_125 rfl (q := 126) rfl ?_
      refine pp_iconst dX5_respond_126 ci_m1 (q := 127) rfl ?_
      refine ps_callVi dX5_respond_127 lk_X5_119 (by exact (by first | exact hA5.1 | exact hA4.1 | exact hA3.1 | exact hA2.1 | exact hA1.1 | exact hA.1)) (by rfl) (by rfl) (by rfl) (c_send hA hmb hd hroomL (by exact Nat.le_trans (Nat.mul_le_mul_right 4 (Nat.add_le_add_left (pkL_le _ _ _) _)) hroomP)) (by rfl) (by exact Nat.le_of_ble_eq_true rfl) (by decide) (by decide) (by exact Nat.le_of_ble_eq_true rfl) (q := 130) rfl (fun r127 g127 h127 => ?_)
      obtain ⟨rfl, hAn, hEn, h16n⟩ := And.intro h127.1.symm h127.2
      refine pp_pop dX5_respond_130 rfl (q := 131) rfl ?_
      refine pp_iconst dX5_respond_131 ci_1 (q := 132) rfl ?_
      refine ri_ret dX5_respond_132 rfl rfl ?_
      unfold rspA
      rw [if_neg (show ¬ bl (aB A) l 0 = nI 1 by rw [hv30]; decide), if_neg (show ¬ bl (aB A) l 0 = nI 2 by rw [hv30]; decide), if_neg (show ¬ bl (aB A) l 0 = nI 3 by rw [hv30]; decide), if_neg (show ¬ bl (aB A) l 0 = nI 4 by rw [hv30]; decide), if_pos hv30]
      exact ⟨rfl, hAn, hEn⟩
  · refine pp_tswOut (tgt := 133) dX5_respond_30 hv30 (by decide) ?_
    refine pp_iconst dX5_respond_133 ci_0 (q := 134) rfl ?_
    refine ri_ret dX5_respond_134 rfl rfl ?_
    have hq : ∀ v : Nat, 1 ≤ v → v ≤ 5 → ¬ bl (aB A) l 0 = nI v := fun v h1 h2 e => by rw [e, nI_toInt (by omega)] at hv30; omega
    unfold rspA
    rw [if_neg (hq 1 (by omega) (by omega)), if_neg (hq 2 (by omega) (by omega)), if_neg (hq 3 (by omega) (by omega)), if_neg (hq 4 (by omega) (by omega)), if_neg (hq 5 (by omega) (by omega))]
    exact ⟨rfl, hA, EqX.rf⟩
