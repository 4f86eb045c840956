def dfs (M N : Me) : Nat → Bool := fun x => decide (¬ (M.2.2 31 x = N.2.2 31 x ∧ M.2.2 32 x = N.2.2 32 x))
def difO (M N : Me) : Option Nat := fnd (dfs M N) 0 64
theorem fnd_step {c : Nat → Bool} {i n : Nat} (h : i < n) (hc : c i = false) : fnd c i (n - i) = fnd c (i + 1) (n - (i + 1)) := by
  obtain ⟨k, hk⟩ : ∃ k, n - i = k + 1 := ⟨n - i - 1, by omega⟩
  rw [hk, fnd, hc, show n - (i + 1) = k by omega]
  rfl
theorem fnd_hit {c : Nat → Bool} {i n : Nat} (h : i < n) (hc : c i = true) : fnd c i (n - i) = some i := by
  obtain ⟨k, hk⟩ : ∃ k, n - i = k + 1 := ⟨n - i - 1, by omega⟩
  rw [hk, fnd, hc]
  rfl
theorem fnd_end {c : Nat → Bool} {n : Nat} : fnd c n (n - n) = none := by rw [Nat.sub_self]; rfl
set_option maxRecDepth 20000 in
set_option maxHeartbeats 4000000 in
theorem l_dif {ad : Nm → Nat} {g : Sg} {w m m' : Nat} {M N : Me} (hM : RM g w m M) (hN : RM g w m' N) : ∀ (j i : Nat), 64 - i < j → i ≤ 64 → PS mX1_differsIn 2 [some (.ref (ad (30, w, m))), some (.ref (ad (30, w, m'))), some (.int (nI i))] [] ad g (Ri (fun v g' => v = oI (fnd (dfs M N) i (64 - i)) ∧ g' = g)) := by
  have e1 := hM.ar (k := 31) (by omega) (by omega)
  have e2 := hN.ar (k := 31) (by omega) (by omega)
  have e3 := hM.ar (k := 32) (by omega) (by omega)
  have e4 := hN.ar (k := 32) (by omega) (by omega)
  intro j
  induction j with
  | zero => intro i h; omega
  | succ j ih =>
    intro i hij hik
    refine pp_iload_n dX1_differsIn_2 rfl (q := 3) rfl ?_
    refine pp_bipush dX1_differsIn_3 cb_64 (q := 5) rfl ?_
    refine pp_icmp_ge (tgt := 46) dX1_differsIn_5 (by decide) (q := 8) rfl (fun c5 => ?_) (fun c5 => ?_)
    · have e : i = 64 := by have := leT c5 (by decide) (by omega); omega
      subst e
      refine pp_iconst dX1_differsIn_46 ci_m1 (q := 47) rfl ?_
      refine ri_ret dX1_differsIn_47 rfl rfl ?_
      rw [fnd_end]
      exact ⟨rfl, rfl⟩
    · have hlt := leF c5 (by decide) (by omega)
      refine pp_aload_n dX1_differsIn_8 rfl isRf_r (q := 9) rfl ?_
      refine ps_get dX1_differsIn_9 fl_X1_19 hM.1 rfl rfl (q := 12) rfl ?_
      refine pp_iload_n dX1_differsIn_12 rfl (q := 13) rfl ?_
      refine ps_iald dX1_differsIn_13 hM.1 rfl rfl (by omega) (by decide) (q := 14) rfl ?_
      rw [e1]
      refine pp_aload_n dX1_differsIn_14 rfl isRf_r (q := 15) rfl ?_
      refine ps_get dX1_differsIn_15 fl_X1_19 hN.1 rfl rfl (q := 18) rfl ?_
      refine pp_iload_n dX1_differsIn_18 rfl (q := 19) rfl ?_
      refine ps_iald dX1_differsIn_19 hN.1 rfl rfl (by omega) (by decide) (q := 20) rfl ?_
      rw [e2]
      refine pp_icmp_ne (tgt := 38) dX1_differsIn_20 (by decide) (q := 23) rfl (fun c20 => ?_) (fun c20 => ?_)
      · have hcc : ¬ (M.2.2 31 i = N.2.2 31 i ∧ M.2.2 32 i = N.2.2 32 i) := fun q => c20 q.1
        refine pp_iload_n dX1_differsIn_38 rfl (q := 39) rfl ?_
        refine ri_ret dX1_differsIn_39 rfl rfl ?_
        have hc : dfs M N i = true := by unfold dfs; exact decide_eq_true hcc
        rw [fnd_hit hlt hc]
        exact ⟨rfl, rfl⟩
      · refine pp_aload_n dX1_differsIn_23 rfl isRf_r (q := 24) rfl ?_
        refine ps_get dX1_differsIn_24 fl_X1_23 hM.1 rfl rfl (q := 27) rfl ?_
        refine pp_iload_n dX1_differsIn_27 rfl (q := 28) rfl ?_
        refine ps_iald dX1_differsIn_28 hM.1 rfl rfl (by omega) (by decide) (q := 29) rfl ?_
        rw [e3]
        refine pp_aload_n dX1_differsIn_29 rfl isRf_r (q := 30) rfl ?_
        refine ps_get dX1_differsIn_30 fl_X1_23 hN.1 rfl rfl (q := 33) rfl ?_
        refine pp_iload_n dX1_differsIn_33 rfl (q := 34) rfl ?_
        refine ps_iald dX1_differsIn_34 hN.1 rfl rfl (by omega) (by decide) (q := 35) rfl ?_
        rw [e4]
        refine pp_icmp_eq (tgt := 40) dX1_differsIn_35 (by decide) (q := 38) rfl (fun c35 => ?_) (fun c35 => ?_)
        · have hcc : dfs M N i = false := by unfold dfs; simp only [decide_eq_false_iff_not, Classical.not_not]; exact ⟨c20, c35⟩
          refine pp_iinc dX1_differsIn_40 rfl (nI_1 _) (ls1_2 (nl1 rfl)) (q := 43) rfl ?_
          refine pp_goto (tgt := 2) dX1_differsIn_43 (by decide) ?_
          rw [fnd_step hlt hcc]
          exact ih (i + 1) (by omega) (by omega)
        · have hcc : ¬ (M.2.2 31 i = N.2.2 31 i ∧ M.2.2 32 i = N.2.2 32 i) := fun q => c35 q.2
          refine pp_iload_n dX1_differsIn_38 rfl (q := 39) rfl ?_
          refine ri_ret dX1_differsIn_39 rfl rfl ?_
          have hc : dfs M N i = true := by unfold dfs; exact decide_eq_true hcc
          rw [fnd_hit hlt hc]
          exact ⟨rfl, rfl⟩
set_option maxRecDepth 20000 in
set_option maxHeartbeats 4000000 in
theorem c_dif {ad : Nm → Nat} {g : Sg} {w m m' : Nat} {M N : Me} (hM : RM g w m M) (hN : RM g w m' N) : PS mX1_differsIn 0 (ent mX1_differsIn [.ref (ad (30, w, m)), .ref (ad (30, w, m'))]) [] ad g (Ri (fun v g' => v = oI (difO M N) ∧ g' = g)) := by
  show PP mX1_differsIn 0 [some (.ref (ad (30, w, m))), some (.ref (ad (30, w, m'))), none] [] (Rel ad g) _
  refine pp_iconst dX1_differsIn_0 ci_0 (q := 1) rfl ?_
  refine pp_istore_n dX1_differsIn_1 (by decide) (ls1_2 (nl1 rfl)) (q := 2) rfl ?_
  exact l_dif hM hN 65 0 (by omega) (by omega)
def upb (A : AW) : Nat → Bool := fun m => decide ((A.1 m).1 1 = nI 1) && decide ((A.1 m).1 2 = nI 0)
theorem upb_t {A : AW} {m : Nat} (h : upA A m) : upb A m = true := by
  unfold upb
  rw [decide_eq_true (show (A.1 m).1 1 = nI 1 from h.1), decide_eq_true (show (A.1 m).1 2 = nI 0 from h.2)]
  rfl
theorem upb_up {A : AW} {m : Nat} (h : upb A m = true) : upA A m := by
  unfold upb at h
  rw [Bool.and_eq_true] at h
  show (A.1 m).1 1 = nI 1 ∧ (A.1 m).1 2 = nI 0
  exact ⟨of_decide_eq_true h.1, of_decide_eq_true h.2⟩
theorem upb_f {A : AW} {m : Nat} (h : ¬ upA A m) : upb A m = false := by
  cases e : upb A m with
  | false => rfl
  | true => exact absurd (upb_up e) h
theorem upX_no {A : AW} {i : Nat} (hi : i < 64) (h : ¬ upX A (nI i)) : ¬ upA A i := fun q => h ⟨i, hi, rfl, q⟩
def adO (ad : Nm → Nat) (w : Nat) (o : Option Nat) : Option Nat := match o with
  | some m => some (ad (30, w, m))
  | none => none
set_option maxRecDepth 20000 in
set_option maxHeartbeats 4000000 in
theorem l_fup {ad : Nm → Nat} {g : Sg} {w : Nat} {A : AW} (hA : RW g w A) : ∀ (j i : Nat), 64 - i < j → i ≤ 64 → ∀ z, PS mX5_firstUp 2 [some (.ref (ad (10, w, 0))), some (.int (nI i)), z] [] ad g (Rr (fun o g' => o = adO ad w (fnd (upb A) i (64 - i)) ∧ g' = g)) := by
  intro j
  induction j with
  | zero => intro i h; omega
  | succ j ih =>
    intro i hij hik z
    refine pp_iload_n dX5_firstUp_2 rfl (q := 3) rfl ?_
    refine pp_bipush dX5_firstUp_3 cb_64 (q := 5) rfl ?_
    refine pp_icmp_ge (tgt := 26) dX5_firstUp_5 (by decide) (q := 8) rfl (fun c5 => ?_) (fun c5 => ?_)
    · have e : i = 64 := by have := leT c5 (by decide) (by omega); omega
      subst e
      refine pp_null dX5_firstUp_26 (q := 27) rfl ?_
      refine rr_ret (v := none) dX5_firstUp_27 rfl (Or.inl ⟨_, rfl⟩) ?_
      rw [fnd_end]
      exact ⟨rfl, rfl⟩
    · have hlt := leF c5 (by decide) (by omega)
      refine pp_aload_n dX5_firstUp_8 rfl isRf_r (q := 9) rfl ?_
      refine pp_iload_n dX5_firstUp_9 rfl (q := 10) rfl ?_
      refine ps_callVr dX5_firstUp_10 lk_X5_171 (by exact hA.1) (by rfl) (by rfl) (by rfl) (c_upB hA) (by rfl) (by exact Nat.le_of_ble_eq_true rfl) (by decide) (by decide) (by exact Nat.le_of_ble_eq_true rfl) (q := 13) rfl (fun r10 g10 h10 => ?_)
      obtain ⟨h10, rfl⟩ := And.intro h10.1 h10.2.symm
      rcases h10 with ⟨i10, hi10, e10, hd10, rfl⟩ | ⟨hn10, rfl⟩
      · change PP mX5_firstUp 13 _ (Value.ref (ad (30, w, i10)) :: _) _ _
        obtain rfl : i = i10 := eqT e10 (by omega) (by omega)
        refine pp_astore_n dX5_firstUp_13 isRf_r (by decide) (ls1_2 (nl1 rfl)) (q := 14) rfl ?_
        refine pp_aload_n dX5_firstUp_14 rfl isRf_r (q := 15) rfl ?_
        refine pp_ifnull_r dX5_firstUp_15 (q := 18) rfl ?_
        refine pp_aload_n dX5_firstUp_18 rfl isRf_r (q := 19) rfl ?_
        refine rr_ret (v := some (ad (30, w, i))) dX5_firstUp_19 rfl (Or.inl ⟨_, rfl⟩) ?_
        rw [fnd_hit hlt (upb_t hd10)]
        exact ⟨rfl, rfl⟩
      · change PP mX5_firstUp 13 _ (Value.null :: _) _ _
        have hnu := upX_no hlt hn10
        refine pp_astore_n dX5_firstUp_13 (by first | exact isRf_r | exact isRf_va | exact isRf_n) (by decide) (ls1_2 (nl1 rfl)) (q := 14) rfl ?_
        refine pp_aload_n dX5_firstUp_14 rfl (by first | exact isRf_r | exact isRf_va | exact isRf_n) (q := 15) rfl ?_
        refine pp_ifnull_n (tgt := 20) dX5_firstUp_15 (by decide) ?_
        refine pp_iinc dX5_firstUp_20 rfl (nI_1 _) (ls1_1 (nl1 rfl)) (q := 23) rfl ?_
        refine pp_goto (tgt := 2) dX5_firstUp_23 (by decide) ?_
        rw [fnd_step hlt (upb_f hnu)]
        exact ih (i + 1) (by omega) (by omega) _
set_option maxRecDepth 20000 in
set_option maxHeartbeats 4000000 in
theorem c_fup {ad : Nm → Nat} {g : Sg} {w : Nat} {A : AW} (hA : RW g w A) : PS mX5_firstUp 0 (ent mX5_firstUp [.ref (ad (10, w, 0))]) [] ad g (Rr (fun o g' => o = adO ad w (fnd (upb A) 0 64) ∧ g' = g)) := by
  show PP mX5_firstUp 0 [some (.ref (ad (10, w, 0))), none, none] [] (Rel ad g) _
  refine pp_iconst dX5_firstUp_0 ci_0 (q := 1) rfl ?_
  refine pp_istore_n dX5_firstUp_1 (by decide) (ls1_1 (nl1 rfl)) (q := 2) rfl ?_
  exact l_fup hA 65 0 (by omega) (by omega) _
def apb (A : AW) (a : Nat) : Nat → Bool := fun b => upb A b && (difO (A.1 a) (A.1 b)).isSome
def apO (A : AW) : Option (Nat × Nat × Nat) := match fnd (upb A) 0 64 with
  | none => none
  | some a => match fnd (apb A a) (a + 1) (64 - (a + 1)) with
    | none => none
    | some b => match difO (A.1 a) (A.1 b) with
      | none => none
      | some x => some (a, b, x)
def apV (what : Int32) (a b x : Nat) : Int32 := if what = 0 then nI a else if what = nI 1 then nI b else nI x
def apI (what : Int32) (o : Option (Nat × Nat × Nat)) : Int32 := match o with
  | none => -1
  | some (a, b, x) => apV what a b x
def apF (A : AW) (a : Nat) (o : Option Nat) : Option (Nat × Nat × Nat) := match o with
  | none => none
  | some b => match difO (A.1 a) (A.1 b) with
      | none => none
      | some x => some (a, b, x)
theorem apO_eq {A : AW} : apO A = match fnd (upb A) 0 64 with
  | none => none
  | some a => apF A a (fnd (apb A a) (a + 1) (64 - (a + 1))) := by
  unfold apO apF
  rfl
theorem apb_u {A : AW} {a b : Nat} (h : ¬ upA A b) : apb A a b = false := by unfold apb; rw [upb_f h]; rfl
theorem apb_n {A : AW} {a b : Nat} (h : difO (A.1 a) (A.1 b) = none) : apb A a b = false := by unfold apb; rw [h]; simp
theorem apb_y {A : AW} {a b x : Nat} (hu : upA A b) (h : difO (A.1 a) (A.1 b) = some x) : apb A a b = true := by unfold apb; rw [h, upb_t hu]; rfl
theorem difO_lt {M N : Me} {x : Nat} (h : difO M N = some x) : x < 64 := by
  have := (fnd_some h).2.1
  omega
set_option maxRecDepth 20000 in
set_option maxHeartbeats 4000000 in
theorem s_fan {ad : Nm → Nat} {g : Sg} {w a i : Nat} {A : AW} {what : Int32} (hA : RW g w A) (ha : a < 64) (hda : mdA A a) (hi : i < 64) (hnu : ¬ upA A i) (hk : ∀ y z, PS mX5_firstApart 18 [some (.ref (ad (10, w, 0))), some (.int what), some (.ref (ad (30, w, a))), some (.int (nI (i + 1))), y, z] [] ad g (Ri (fun v g' => v = apI what (apF A a (fnd (apb A a) (i + 1) (64 - (i + 1)))) ∧ g' = g))) (y z : Option Value) : PS mX5_firstApart 18 [some (.ref (ad (10, w, 0))), some (.int what), some (.ref (ad (30, w, a))), some (.int (nI i)), y, z] [] ad g (Ri (fun v g' => v = apI what (apF A a (fnd (apb A a) i (64 - i))) ∧ g' = g)) := by
  refine pp_iload_n dX5_firstApart_18 rfl (q := 19) rfl ?_
  refine pp_bipush dX5_firstApart_19 cb_64 (q := 21) rfl ?_
  refine pp_icmp_ge (tgt := 83) dX5_firstApart_21 (by decide) (q := 24) rfl (fun c21 => absurd c21 (nI_ge hi (by decide))) (fun c21 => ?_)
  refine pp_aload_n dX5_firstApart_24 rfl isRf_r (q := 25) rfl ?_
  refine pp_iload_n dX5_firstApart_25 rfl (q := 26) rfl ?_
  refine ps_callVr dX5_firstApart_26 lk_X5_171 (by exact hA.1) (by rfl) (by rfl) (by rfl) (c_upAt_no hA (fun j hj e => by have := eqT e (by omega) (by omega); subst this; exact hnu)) (by rfl) (by exact Nat.le_of_ble_eq_true rfl) (by decide) (by decide) (by exact Nat.le_of_ble_eq_true rfl) (q := 29) rfl (fun r26 g26 h26 => ?_)
  obtain ⟨rfl, rfl⟩ := And.intro h26.1.symm h26.2.symm
  change PP mX5_firstApart 29 _ [Value.null] _ _
  refine pp_astore dX5_firstApart_29 (by first | exact isRf_r | exact isRf_va | exact isRf_n) (by decide) (ls1_4 (nl1 rfl)) (q := 31) rfl ?_
  refine pp_aload dX5_firstApart_31 rfl (by first | exact isRf_r | exact isRf_va | exact isRf_n) (q := 33) rfl ?_
  refine pp_ifnonnull_n dX5_firstApart_33 (q := 36) rfl ?_
  refine pp_iconst dX5_firstApart_36 ci_m1 (q := 37) rfl ?_
  refine pp_goto (tgt := 46) dX5_firstApart_37 (by decide) ?_
  refine pp_istore dX5_firstApart_46 (by decide) (ls1_5 (nl1 rfl)) (q := 48) rfl ?_
  refine pp_iload dX5_firstApart_48 rfl (q := 50) rfl ?_
  refine pp_iconst dX5_firstApart_50 ci_m1 (q := 51) rfl ?_
  refine pp_icmp_eq (tgt := 77) dX5_firstApart_51 (by decide) (q := 54) rfl (fun c51 => ?_) (fun c51 => absurd rfl c51)
  refine pp_iinc dX5_firstApart_77 rfl (nI_1 _) (ls1_3 (nl1 rfl)) (q := 80) rfl ?_
  refine pp_goto (tgt := 18) dX5_firstApart_80 (by decide) ?_
  rw [fnd_step hi (apb_u hnu)]
  exact hk _ _
set_option maxRecDepth 20000 in
set_option maxHeartbeats 4000000 in
theorem s_fae {ad : Nm → Nat} {g : Sg} {w a i : Nat} {A : AW} {what : Int32} (hA : RW g w A) (ha : a < 64) (hda : mdA A a) (hi : i < 64) (hu : upA A i) (hdf : difO (A.1 a) (A.1 i) = none) (hk : ∀ y z, PS mX5_firstApart 18 [some (.ref (ad (10, w, 0))), some (.int what), some (.ref (ad (30, w, a))), some (.int (nI (i + 1))), y, z] [] ad g (Ri (fun v g' => v = apI what (apF A a (fnd (apb A a) (i + 1) (64 - (i + 1)))) ∧ g' = g))) (y z : Option Value) : PS mX5_firstApart 18 [some (.ref (ad (10, w, 0))), some (.int what), some (.ref (ad (30, w, a))), some (.int (nI i)), y, z] [] ad g (Ri (fun v g' => v = apI what (apF A a (fnd (apb A a) i (64 - i))) ∧ g' = g)) := by
  refine pp_iload_n dX5_firstApart_18 rfl (q := 19) rfl ?_
  refine pp_bipush dX5_firstApart_19 cb_64 (q := 21) rfl ?_
  refine pp_icmp_ge (tgt := 83) dX5_firstApart_21 (by decide) (q := 24) rfl (fun c21 => absurd c21 (nI_ge hi (by decide))) (fun c21 => ?_)
  refine pp_aload_n dX5_firstApart_24 rfl isRf_r (q := 25) rfl ?_
  refine pp_iload_n dX5_firstApart_25 rfl (q := 26) rfl ?_
  refine ps_callVr dX5_firstApart_26 lk_X5_171 (by exact hA.1) (by rfl) (by rfl) (by rfl) (c_upAt hA hi hu) (by rfl) (by exact Nat.le_of_ble_eq_true rfl) (by decide) (by decide) (by exact Nat.le_of_ble_eq_true rfl) (q := 29) rfl (fun r26 g26 h26 => ?_)
  obtain ⟨rfl, rfl⟩ := And.intro h26.1.symm h26.2.symm
  change PP mX5_firstApart 29 _ [Value.ref (ad (30, w, i))] _ _
  refine pp_astore dX5_firstApart_29 isRf_r (by decide) (ls1_4 (nl1 rfl)) (q := 31) rfl ?_
  refine pp_aload dX5_firstApart_31 rfl isRf_r (q := 33) rfl ?_
  refine pp_ifnonnull_r (tgt := 40) dX5_firstApart_33 (by decide) ?_
  refine pp_aload_n dX5_firstApart_40 rfl isRf_r (q := 41) rfl ?_
  refine pp_aload dX5_firstApart_41 rfl isRf_r (q := 43) rfl ?_
  refine ps_callVi dX5_firstApart_43 lk_X5_305 (by exact (hA.m ha hda).1) (by rfl) (by rfl) (by rfl) (c_dif (hA.m ha hda) (hA.m hi hu.1)) (by rfl) (by exact Nat.le_of_ble_eq_true rfl) (by decide) (by decide) (by exact Nat.le_of_ble_eq_true rfl) (q := 46) rfl (fun r43 g43 h43 => ?_)
  obtain ⟨rfl, rfl⟩ := And.intro h43.1.symm h43.2.symm
  rw [hdf]
  refine pp_istore dX5_firstApart_46 (by decide) (ls1_5 (nl1 rfl)) (q := 48) rfl ?_
  refine pp_iload dX5_firstApart_48 rfl (q := 50) rfl ?_
  refine pp_iconst dX5_firstApart_50 ci_m1 (q := 51) rfl ?_
  refine pp_icmp_eq (tgt := 77) dX5_firstApart_51 (by decide) (q := 54) rfl (fun c51 => ?_) (fun c51 => absurd rfl c51)
  refine pp_iinc dX5_firstApart_77 rfl (nI_1 _) (ls1_3 (nl1 rfl)) (q := 80) rfl ?_
  refine pp_goto (tgt := 18) dX5_firstApart_80 (by decide) ?_
  rw [fnd_step hi (apb_n hdf)]
  exact hk _ _
set_option maxRecDepth 20000 in
set_option maxHeartbeats 4000000 in
theorem s_fah {ad : Nm → Nat} {g : Sg} {w a i : Nat} {A : AW} {what : Int32} (hA : RW g w A) (ha : a < 64) (hda : mdA A a) (hi : i < 64) {x : Nat} (hu : upA A i) (hdf : difO (A.1 a) (A.1 i) = some x) (y z : Option Value) : PS mX5_firstApart 18 [some (.ref (ad (10, w, 0))), some (.int what), some (.ref (ad (30, w, a))), some (.int (nI i)), y, z] [] ad g (Ri (fun v g' => v = apI what (apF A a (fnd (apb A a) i (64 - i))) ∧ g' = g)) := by
  refine pp_iload_n dX5_firstApart_18 rfl (q := 19) rfl ?_
  refine pp_bipush dX5_firstApart_19 cb_64 (q := 21) rfl ?_
  refine pp_icmp_ge (tgt := 83) dX5_firstApart_21 (by decide) (q := 24) rfl (fun c21 => absurd c21 (nI_ge hi (by decide))) (fun c21 => ?_)
  refine pp_aload_n dX5_firstApart_24 rfl isRf_r (q := 25) rfl ?_
  refine pp_iload_n dX5_firstApart_25 rfl (q := 26) rfl ?_
  refine ps_callVr dX5_firstApart_26 lk_X5_171 (by exact hA.1) (by rfl) (by rfl) (by rfl) (c_upAt hA hi hu) (by rfl) (by exact Nat.le_of_ble_eq_true rfl) (by decide) (by decide) (by exact Nat.le_of_ble_eq_true rfl) (q := 29) rfl (fun r26 g26 h26 => ?_)
  obtain ⟨rfl, rfl⟩ := And.intro h26.1.symm h26.2.symm
  change PP mX5_firstApart 29 _ [Value.ref (ad (30, w, i))] _ _
  refine pp_astore dX5_firstApart_29 isRf_r (by decide) (ls1_4 (nl1 rfl)) (q := 31) rfl ?_
  refine pp_aload dX5_firstApart_31 rfl isRf_r (q := 33) rfl ?_
  refine pp_ifnonnull_r (tgt := 40) dX5_firstApart_33 (by decide) ?_
  refine pp_aload_n dX5_firstApart_40 rfl isRf_r (q := 41) rfl ?_
  refine pp_aload dX5_firstApart_41 rfl isRf_r (q := 43) rfl ?_
  refine ps_callVi dX5_firstApart_43 lk_X5_305 (by exact (hA.m ha hda).1) (by rfl) (by rfl) (by rfl) (c_dif (hA.m ha hda) (hA.m hi hu.1)) (by rfl) (by exact Nat.le_of_ble_eq_true rfl) (by decide) (by decide) (by exact Nat.le_of_ble_eq_true rfl) (q := 46) rfl (fun r43 g43 h43 => ?_)
  obtain ⟨rfl, rfl⟩ := And.intro h43.1.symm h43.2.symm
  rw [hdf]
  refine pp_istore dX5_firstApart_46 (by decide) (ls1_5 (nl1 rfl)) (q := 48) rfl ?_
  refine pp_iload dX5_firstApart_48 rfl (q := 50) rfl ?_
  refine pp_iconst dX5_firstApart_50 ci_m1 (q := 51) rfl ?_
  refine pp_icmp_eq (tgt := 77) dX5_firstApart_51 (by decide) (q := 54) rfl (fun c51 => absurd c51 (oI_some_ne (by have := difO_lt hdf; omega))) (fun c51 => ?_)
  refine pp_iload_n dX5_firstApart_54 rfl (q := 55) rfl ?_
  refine pp_if_ne (tgt := 65) dX5_firstApart_55 (by decide) (q := 58) rfl (fun c55 => ?_) (fun c55 => ?_)
  · refine pp_iload_n dX5_firstApart_65 rfl (q := 66) rfl ?_
    refine pp_iconst dX5_firstApart_66 ci_1 (q := 67) rfl ?_
    refine pp_icmp_ne (tgt := 74) dX5_firstApart_67 (by decide) (q := 70) rfl (fun c67 => ?_) (fun c67 => ?_)
    · refine pp_iload dX5_firstApart_74 rfl (q := 76) rfl ?_
      refine ri_ret dX5_firstApart_76 rfl rfl ?_
      rw [fnd_hit hi (apb_y hu hdf)]
      refine ⟨?_, rfl⟩
      have e : apF A a (some i) = some (a, i, x) := by unfold apF; simp only [hdf]
      rw [e]
      show _ = apV what a i x
      unfold apV
      first | rw [if_pos c55]; done | (rw [if_neg c55, if_pos c67]; done) | (rw [if_neg c55, if_neg c67]; rfl)
    · refine pp_iload_n dX5_firstApart_70 rfl (q := 71) rfl ?_
      refine pp_goto (tgt := 76) dX5_firstApart_71 (by decide) ?_
      refine ri_ret dX5_firstApart_76 rfl rfl ?_
      rw [fnd_hit hi (apb_y hu hdf)]
      refine ⟨?_, rfl⟩
      have e : apF A a (some i) = some (a, i, x) := by unfold apF; simp only [hdf]
      rw [e]
      show _ = apV what a i x
      unfold apV
      first | rw [if_pos c55]; done | (rw [if_neg c55, if_pos c67]; done) | (rw [if_neg c55, if_neg c67]; rfl)
  · refine pp_aload_n dX5_firstApart_58 rfl isRf_r (q := 59) rfl ?_
    refine ps_get dX5_firstApart_59 fl_X5_181 (hA.m ha hda).1 rfl rfl (q := 62) rfl ?_
    refine pp_goto (tgt := 76) dX5_firstApart_62 (by decide) ?_
    refine ri_ret dX5_firstApart_76 rfl rfl ?_
    rw [fnd_hit hi (apb_y hu hdf)]
    refine ⟨?_, rfl⟩
    have e : apF A a (some i) = some (a, i, x) := by unfold apF; simp only [hdf]
    rw [e]
    show _ = apV what a i x
    unfold apV
    first | rw [if_pos c55]; done | (rw [if_neg c55, if_pos c67]; done) | (rw [if_neg c55, if_neg c67]; rfl)
theorem l_fa {ad : Nm → Nat} {g : Sg} {w a : Nat} {A : AW} {what : Int32} (hA : RW g w A) (ha : a < 64) (hda : mdA A a) : ∀ (j i : Nat), 64 - i < j → i ≤ 64 → ∀ y z, PS mX5_firstApart 18 [some (.ref (ad (10, w, 0))), some (.int what), some (.ref (ad (30, w, a))), some (.int (nI i)), y, z] [] ad g (Ri (fun v g' => v = apI what (apF A a (fnd (apb A a) i (64 - i))) ∧ g' = g)) := by
  intro j
  induction j with
  | zero => intro i h; omega
  | succ j ih =>
    intro i hij hik y z
    by_cases e : i = 64
    · subst e
      refine pp_iload_n dX5_firstApart_18 rfl (q := 19) rfl ?_
      refine pp_bipush dX5_firstApart_19 cb_64 (q := 21) rfl ?_
      refine pp_icmp_ge (tgt := 83) dX5_firstApart_21 (by decide) (q := 24) rfl (fun _ => ?_) (fun c => absurd (nI_le (Nat.le_refl 64) (by decide)) c)
      refine pp_iconst dX5_firstApart_83 ci_m1 (q := 84) rfl ?_
      refine ri_ret dX5_firstApart_84 rfl rfl ?_
      rw [fnd_end]
      exact ⟨rfl, rfl⟩
    · have hi : i < 64 := by omega
      have hk := ih (i + 1) (by omega) (by omega)
      by_cases hu : upA A i
      · cases hdf : difO (A.1 a) (A.1 i) with
        | none => exact s_fae hA ha hda hi hu hdf hk y z
        | some x => exact s_fah hA ha hda hi hu hdf y z
      · exact s_fan hA ha hda hi hu hk y z
set_option maxRecDepth 20000 in
set_option maxHeartbeats 4000000 in
theorem c_fa0 {ad : Nm → Nat} {g : Sg} {w : Nat} {A : AW} {what : Int32} (hA : RW g w A) (hf : fnd (upb A) 0 64 = none) : PS mX5_firstApart 0 (ent mX5_firstApart [.ref (ad (10, w, 0)), .int what]) [] ad g (Ri (fun v g' => v = apI what (apO A) ∧ g' = g)) := by
  show PP mX5_firstApart 0 [some (.ref (ad (10, w, 0))), some (.int what), none, none, none, none] [] (Rel ad g) _
  refine pp_aload_n dX5_firstApart_0 rfl isRf_r (q := 1) rfl ?_
  refine ps_callVr dX5_firstApart_1 lk_X5_301 (by exact hA.1) (by rfl) (by rfl) (by rfl) (c_fup hA) (by rfl) (by exact Nat.le_of_ble_eq_true rfl) (by decide) (by decide) (by exact Nat.le_of_ble_eq_true rfl) (q := 4) rfl (fun r1 g1 h1 => ?_)
  obtain ⟨rfl, rfl⟩ := And.intro h1.1.symm h1.2.symm
  rw [hf]
  change PP mX5_firstApart 4 _ [Value.null] _ _
  refine pp_astore_n dX5_firstApart_4 (by first | exact isRf_r | exact isRf_va | exact isRf_n) (by decide) (ls1_2 (nl1 rfl)) (q := 5) rfl ?_
  refine pp_aload_n dX5_firstApart_5 rfl (by first | exact isRf_r | exact isRf_va | exact isRf_n) (q := 6) rfl ?_
  refine pp_ifnonnull_n dX5_firstApart_6 (q := 9) rfl ?_
  refine pp_iconst dX5_firstApart_9 ci_m1 (q := 10) rfl ?_
  refine ri_ret dX5_firstApart_10 rfl rfl ?_
  rw [apO_eq, hf]
  exact ⟨rfl, rfl⟩
set_option maxRecDepth 20000 in
set_option maxHeartbeats 4000000 in
theorem c_fa1 {ad : Nm → Nat} {g : Sg} {w a : Nat} {A : AW} {what : Int32} (hA : RW g w A) (hf : fnd (upb A) 0 64 = some a) (ha : a < 64) (hu : upA A a) : PS mX5_firstApart 0 (ent mX5_firstApart [.ref (ad (10, w, 0)), .int what]) [] ad g (Ri (fun v g' => v = apI what (apO A) ∧ g' = g)) := by
  show PP mX5_firstApart 0 [some (.ref (ad (10, w, 0))), some (.int what), none, none, none, none] [] (Rel ad g) _
  refine pp_aload_n dX5_firstApart_0 rfl isRf_r (q := 1) rfl ?_
  refine ps_callVr dX5_firstApart_1 lk_X5_301 (by exact hA.1) (by rfl) (by rfl) (by rfl) (c_fup hA) (by rfl) (by exact Nat.le_of_ble_eq_true rfl) (by decide) (by decide) (by exact Nat.le_of_ble_eq_true rfl) (q := 4) rfl (fun r1 g1 h1 => ?_)
  obtain ⟨rfl, rfl⟩ := And.intro h1.1.symm h1.2.symm
  rw [hf]
  change PP mX5_firstApart 4 _ [Value.ref (ad (30, w, a))] _ _
  refine pp_astore_n dX5_firstApart_4 isRf_r (by decide) (ls1_2 (nl1 rfl)) (q := 5) rfl ?_
  refine pp_aload_n dX5_firstApart_5 rfl isRf_r (q := 6) rfl ?_
  refine pp_ifnonnull_r (tgt := 11) dX5_firstApart_6 (by decide) ?_
  refine pp_aload_n dX5_firstApart_11 rfl isRf_r (q := 12) rfl ?_
  refine ps_get dX5_firstApart_12 fl_X5_181 (hA.m ha hu.1).1 rfl rfl (q := 15) rfl ?_
  refine pp_iconst dX5_firstApart_15 ci_1 (q := 16) rfl ?_
  refine pp_iadd dX5_firstApart_16 (q := 17) rfl ?_
  rw [nI_add]
  refine pp_istore_n dX5_firstApart_17 (by decide) (ls1_3 (nl1 rfl)) (q := 18) rfl ?_
  have e : apO A = apF A a (fnd (apb A a) (a + 1) (64 - (a + 1))) := by rw [apO_eq, hf]
  rw [e]
  exact l_fa hA ha hu.1 65 (a + 1) (by omega) (by omega) _ _
theorem c_fa {ad : Nm → Nat} {g : Sg} {w : Nat} {A : AW} {what : Int32} (hA : RW g w A) : PS mX5_firstApart 0 (ent mX5_firstApart [.ref (ad (10, w, 0)), .int what]) [] ad g (Ri (fun v g' => v = apI what (apO A) ∧ g' = g)) := by
  cases hf : fnd (upb A) 0 64 with
  | none => exact c_fa0 hA hf
  | some a =>
    obtain ⟨-, h1, h2, -⟩ := fnd_some hf
    exact c_fa1 hA hf (by omega) (upb_up h2)
def cnb (A : AW) (x : Nat) (kind : Int32) : Nat → Bool := fun m => decide (m ≠ x) && upb A m && decide ((A.1 m).2.2 31 x = kind)
set_option maxRecDepth 20000 in
set_option maxHeartbeats 4000000 in
theorem s_cun {ad : Nm → Nat} {g : Sg} {w x i : Nat} {A : AW} {kind : Int32} {Q : Option Value → PH → Prop} (hA : RW g w A) (hx : x < 64) (hi : i < 64) (hnu : ¬ upA A i) (hk : ∀ z, PP mX5_countUpWith 5 [some (.ref (ad (10, w, 0))), some (.int (nI x)), some (.int kind), some (.int (nI (sel (cnb A x kind) (i + 1)).length)), some (.int (nI (i + 1))), z] [] (Rel ad g) Q) (z : Option Value) : PP mX5_countUpWith 5 [some (.ref (ad (10, w, 0))), some (.int (nI x)), some (.int kind), some (.int (nI (sel (cnb A x kind) i).length)), some (.int (nI i)), z] [] (Rel ad g) Q := by
  refine pp_iload dX5_countUpWith_5 rfl (q := 7) rfl ?_
  refine pp_bipush dX5_countUpWith_7 cb_64 (q := 9) rfl ?_
  refine pp_icmp_ge (tgt := 58) dX5_countUpWith_9 (by decide) (q := 12) rfl (fun c9 => absurd c9 (nI_ge hi (by decide))) (fun c9 => ?_)
  refine pp_aload_n dX5_countUpWith_12 rfl isRf_r (q := 13) rfl ?_
  refine pp_iload dX5_countUpWith_13 rfl (q := 15) rfl ?_
  refine ps_callVr dX5_countUpWith_15 lk_X5_171 (by exact hA.1) (by rfl) (by rfl) (by rfl) (c_upAt_no hA (fun j hj e => by have := eqT e (by omega) (by omega); subst this; exact hnu)) (by rfl) (by exact Nat.le_of_ble_eq_true rfl) (by decide) (by decide) (by exact Nat.le_of_ble_eq_true rfl) (q := 18) rfl (fun r15 g15 h15 => ?_)
  obtain ⟨rfl, rfl⟩ := And.intro h15.1.symm h15.2.symm
  change PP mX5_countUpWith 18 _ [Value.null] _ _
  refine pp_astore dX5_countUpWith_18 (by first | exact isRf_r | exact isRf_va | exact isRf_n) (by decide) (ls1_5 (nl1 rfl)) (q := 20) rfl ?_
  refine pp_iload dX5_countUpWith_20 rfl (q := 22) rfl ?_
  refine pp_iload_n dX5_countUpWith_22 rfl (q := 23) rfl ?_
  refine pp_icmp_eq (tgt := 52) dX5_countUpWith_23 (by decide) (q := 26) rfl (fun c23 => ?_) (fun c23 => ?_)
  · refine pp_iinc dX5_countUpWith_52 rfl (nI_1 _) (ls1_4 (nl1 rfl)) (q := 55) rfl ?_
    refine pp_goto (tgt := 5) dX5_countUpWith_55 (by decide) ?_
    have hs : sel (cnb A x kind) (i + 1) = sel (cnb A x kind) i := by rw [sel_s, if_neg]; unfold cnb; simp only [Bool.and_eq_true, decide_eq_true_eq]; rintro ⟨⟨q1, q2⟩, q3⟩; exact hnu (upb_up q2)
    rw [hs] at hk
    exact hk _
  · refine pp_aload dX5_countUpWith_26 rfl (by first | exact isRf_r | exact isRf_va | exact isRf_n) (q := 28) rfl ?_
    refine pp_ifnull_n (tgt := 52) dX5_countUpWith_28 (by decide) ?_
    refine pp_iinc dX5_countUpWith_52 rfl (nI_1 _) (ls1_4 (nl1 rfl)) (q := 55) rfl ?_
    refine pp_goto (tgt := 5) dX5_countUpWith_55 (by decide) ?_
    have hs : sel (cnb A x kind) (i + 1) = sel (cnb A x kind) i := by rw [sel_s, if_neg]; unfold cnb; simp only [Bool.and_eq_true, decide_eq_true_eq]; rintro ⟨⟨q1, q2⟩, q3⟩; exact hnu (upb_up q2)
    rw [hs] at hk
    exact hk _
set_option maxRecDepth 20000 in
set_option maxHeartbeats 4000000 in
theorem s_cux {ad : Nm → Nat} {g : Sg} {w x i : Nat} {A : AW} {kind : Int32} {Q : Option Value → PH → Prop} (hA : RW g w A) (hx : x < 64) (hi : i < 64) (hu : upA A i) (hix : i = x) (hk : ∀ z, PP mX5_countUpWith 5 [some (.ref (ad (10, w, 0))), some (.int (nI x)), some (.int kind), some (.int (nI (sel (cnb A x kind) (i + 1)).length)), some (.int (nI (i + 1))), z] [] (Rel ad g) Q) (z : Option Value) : PP mX5_countUpWith 5 [some (.ref (ad (10, w, 0))), some (.int (nI x)), some (.int kind), some (.int (nI (sel (cnb A x kind) i).length)), some (.int (nI i)), z] [] (Rel ad g) Q := by
  refine pp_iload dX5_countUpWith_5 rfl (q := 7) rfl ?_
  refine pp_bipush dX5_countUpWith_7 cb_64 (q := 9) rfl ?_
  refine pp_icmp_ge (tgt := 58) dX5_countUpWith_9 (by decide) (q := 12) rfl (fun c9 => absurd c9 (nI_ge hi (by decide))) (fun c9 => ?_)
  refine pp_aload_n dX5_countUpWith_12 rfl isRf_r (q := 13) rfl ?_
  refine pp_iload dX5_countUpWith_13 rfl (q := 15) rfl ?_
  refine ps_callVr dX5_countUpWith_15 lk_X5_171 (by exact hA.1) (by rfl) (by rfl) (by rfl) (c_upAt hA hi hu) (by rfl) (by exact Nat.le_of_ble_eq_true rfl) (by decide) (by decide) (by exact Nat.le_of_ble_eq_true rfl) (q := 18) rfl (fun r15 g15 h15 => ?_)
  obtain ⟨rfl, rfl⟩ := And.intro h15.1.symm h15.2.symm
  change PP mX5_countUpWith 18 _ [Value.ref (ad (30, w, i))] _ _
  refine pp_astore dX5_countUpWith_18 isRf_r (by decide) (ls1_5 (nl1 rfl)) (q := 20) rfl ?_
  refine pp_iload dX5_countUpWith_20 rfl (q := 22) rfl ?_
  refine pp_iload_n dX5_countUpWith_22 rfl (q := 23) rfl ?_
  refine pp_icmp_eq (tgt := 52) dX5_countUpWith_23 (by decide) (q := 26) rfl (fun c23 => ?_) (fun c23 => absurd (congrArg nI hix) c23)
  refine pp_iinc dX5_countUpWith_52 rfl (nI_1 _) (ls1_4 (nl1 rfl)) (q := 55) rfl ?_
  refine pp_goto (tgt := 5) dX5_countUpWith_55 (by decide) ?_
  have hs : sel (cnb A x kind) (i + 1) = sel (cnb A x kind) i := by rw [sel_s, if_neg]; unfold cnb; simp only [Bool.and_eq_true, decide_eq_true_eq]; rintro ⟨⟨q1, q2⟩, q3⟩; exact q1 hix
  rw [hs] at hk
  exact hk _
set_option maxRecDepth 20000 in
set_option maxHeartbeats 4000000 in
theorem s_cuk {ad : Nm → Nat} {g : Sg} {w x i : Nat} {A : AW} {kind : Int32} {Q : Option Value → PH → Prop} (hA : RW g w A) (hx : x < 64) (hi : i < 64) (hu : upA A i) (hix : ¬ i = x) (hkd : ¬ (A.1 i).2.2 31 x = kind) (hk : ∀ z, PP mX5_countUpWith 5 [some (.ref (ad (10, w, 0))), some (.int (nI x)), some (.int kind), some (.int (nI (sel (cnb A x kind) (i + 1)).length)), some (.int (nI (i + 1))), z] [] (Rel ad g) Q) (z : Option Value) : PP mX5_countUpWith 5 [some (.ref (ad (10, w, 0))), some (.int (nI x)), some (.int kind), some (.int (nI (sel (cnb A x kind) i).length)), some (.int (nI i)), z] [] (Rel ad g) Q := by
  refine pp_iload dX5_countUpWith_5 rfl (q := 7) rfl ?_
  refine pp_bipush dX5_countUpWith_7 cb_64 (q := 9) rfl ?_
  refine pp_icmp_ge (tgt := 58) dX5_countUpWith_9 (by decide) (q := 12) rfl (fun c9 => absurd c9 (nI_ge hi (by decide))) (fun c9 => ?_)
  refine pp_aload_n dX5_countUpWith_12 rfl isRf_r (q := 13) rfl ?_
  refine pp_iload dX5_countUpWith_13 rfl (q := 15) rfl ?_
  refine ps_callVr dX5_countUpWith_15 lk_X5_171 (by exact hA.1) (by rfl) (by rfl) (by rfl) (c_upAt hA hi hu) (by rfl) (by exact Nat.le_of_ble_eq_true rfl) (by decide) (by decide) (by exact Nat.le_of_ble_eq_true rfl) (q := 18) rfl (fun r15 g15 h15 => ?_)
  obtain ⟨rfl, rfl⟩ := And.intro h15.1.symm h15.2.symm
  change PP mX5_countUpWith 18 _ [Value.ref (ad (30, w, i))] _ _
  refine pp_astore dX5_countUpWith_18 isRf_r (by decide) (ls1_5 (nl1 rfl)) (q := 20) rfl ?_
  refine pp_iload dX5_countUpWith_20 rfl (q := 22) rfl ?_
  refine pp_iload_n dX5_countUpWith_22 rfl (q := 23) rfl ?_
  refine pp_icmp_eq (tgt := 52) dX5_countUpWith_23 (by decide) (q := 26) rfl (fun c23 => absurd c23 (fun q => hix (eqT q (by omega) (by omega)))) (fun c23 => ?_)
  refine pp_aload dX5_countUpWith_26 rfl isRf_r (q := 28) rfl ?_
  refine pp_ifnull_r dX5_countUpWith_28 (q := 31) rfl ?_
  refine pp_iload_n dX5_countUpWith_31 rfl (q := 32) rfl ?_
  refine ps_callNi dX5_countUpWith_32 lk_X5_69 (by rfl) (c_isMem hx) (by rfl) (by exact Nat.le_of_ble_eq_true rfl) (by decide) (by decide) (by exact Nat.le_of_ble_eq_true rfl) (q := 35) rfl (fun r32 g32 h32 => ?_)
  obtain ⟨rfl, rfl⟩ := And.intro h32.1.symm h32.2.symm
  refine pp_if_eq (tgt := 52) dX5_countUpWith_35 (by decide) (q := 38) rfl (fun c35 => absurd c35 nI1_ne) (fun c35 => ?_)
  refine pp_aload dX5_countUpWith_38 rfl isRf_r (q := 40) rfl ?_
  refine ps_get dX5_countUpWith_40 fl_X5_222 (hA.m hi hu.1).1 rfl rfl (q := 43) rfl ?_
  refine pp_iload_n dX5_countUpWith_43 rfl (q := 44) rfl ?_
  refine ps_iald dX5_countUpWith_44 (hA.m hi hu.1).1 rfl rfl (by omega) (by decide) (q := 45) rfl ?_
  rw [(hA.m hi hu.1).ar (k := 31) (by omega) (by omega)]
  refine pp_iload_n dX5_countUpWith_45 rfl (q := 46) rfl ?_
  refine pp_icmp_ne (tgt := 52) dX5_countUpWith_46 (by decide) (q := 49) rfl (fun c46 => ?_) (fun c46 => absurd c46 hkd)
  refine pp_iinc dX5_countUpWith_52 rfl (nI_1 _) (ls1_4 (nl1 rfl)) (q := 55) rfl ?_
  refine pp_goto (tgt := 5) dX5_countUpWith_55 (by decide) ?_
  have hs : sel (cnb A x kind) (i + 1) = sel (cnb A x kind) i := by rw [sel_s, if_neg]; unfold cnb; simp only [Bool.and_eq_true, decide_eq_true_eq]; rintro ⟨⟨q1, q2⟩, q3⟩; exact hkd q3
  rw [hs] at hk
  exact hk _
set_option maxRecDepth 20000 in
set_option maxHeartbeats 4000000 in
theorem s_cuy {ad : Nm → Nat} {g : Sg} {w x i : Nat} {A : AW} {kind : Int32} {Q : Option Value → PH → Prop} (hA : RW g w A) (hx : x < 64) (hi : i < 64) (hu : upA A i) (hix : ¬ i = x) (hkd : (A.1 i).2.2 31 x = kind) (hk : ∀ z, PP mX5_countUpWith 5 [some (.ref (ad (10, w, 0))), some (.int (nI x)), some (.int kind), some (.int (nI (sel (cnb A x kind) (i + 1)).length)), some (.int (nI (i + 1))), z] [] (Rel ad g) Q) (z : Option Value) : PP mX5_countUpWith 5 [some (.ref (ad (10, w, 0))), some (.int (nI x)), some (.int kind), some (.int (nI (sel (cnb A x kind) i).length)), some (.int (nI i)), z] [] (Rel ad g) Q := by
  refine pp_iload dX5_countUpWith_5 rfl (q := 7) rfl ?_
  refine pp_bipush dX5_countUpWith_7 cb_64 (q := 9) rfl ?_
  refine pp_icmp_ge (tgt := 58) dX5_countUpWith_9 (by decide) (q := 12) rfl (fun c9 => absurd c9 (nI_ge hi (by decide))) (fun c9 => ?_)
  refine pp_aload_n dX5_countUpWith_12 rfl isRf_r (q := 13) rfl ?_
  refine pp_iload dX5_countUpWith_13 rfl (q := 15) rfl ?_
  refine ps_callVr dX5_countUpWith_15 lk_X5_171 (by exact hA.1) (by rfl) (by rfl) (by rfl) (c_upAt hA hi hu) (by rfl) (by exact Nat.le_of_ble_eq_true rfl) (by decide) (by decide) (by exact Nat.le_of_ble_eq_true rfl) (q := 18) rfl (fun r15 g15 h15 => ?_)
  obtain ⟨rfl, rfl⟩ := And.intro h15.1.symm h15.2.symm
  change PP mX5_countUpWith 18 _ [Value.ref (ad (30, w, i))] _ _
  refine pp_astore dX5_countUpWith_18 isRf_r (by decide) (ls1_5 (nl1 rfl)) (q := 20) rfl ?_
  refine pp_iload dX5_countUpWith_20 rfl (q := 22) rfl ?_
  refine pp_iload_n dX5_countUpWith_22 rfl (q := 23) rfl ?_
  refine pp_icmp_eq (tgt := 52) dX5_countUpWith_23 (by decide) (q := 26) rfl (fun c23 => absurd c23 (fun q => hix (eqT q (by omega) (by omega)))) (fun c23 => ?_)
  refine pp_aload dX5_countUpWith_26 rfl isRf_r (q := 28) rfl ?_
  refine pp_ifnull_r dX5_countUpWith_28 (q := 31) rfl ?_
  refine pp_iload_n dX5_countUpWith_31 rfl (q := 32) rfl ?_
  refine ps_callNi dX5_countUpWith_32 lk_X5_69 (by rfl) (c_isMem hx) (by rfl) (by exact Nat.le_of_ble_eq_true rfl) (by decide) (by decide) (by exact Nat.le_of_ble_eq_true rfl) (q := 35) rfl (fun r32 g32 h32 => ?_)
  obtain ⟨rfl, rfl⟩ := And.intro h32.1.symm h32.2.symm
  refine pp_if_eq (tgt := 52) dX5_countUpWith_35 (by decide) (q := 38) rfl (fun c35 => absurd c35 nI1_ne) (fun c35 => ?_)
  refine pp_aload dX5_countUpWith_38 rfl isRf_r (q := 40) rfl ?_
  refine ps_get dX5_countUpWith_40 fl_X5_222 (hA.m hi hu.1).1 rfl rfl (q := 43) rfl ?_
  refine pp_iload_n dX5_countUpWith_43 rfl (q := 44) rfl ?_
  refine ps_iald dX5_countUpWith_44 (hA.m hi hu.1).1 rfl rfl (by omega) (by decide) (q := 45) rfl ?_
  rw [(hA.m hi hu.1).ar (k := 31) (by omega) (by omega)]
  refine pp_iload_n dX5_countUpWith_45 rfl (q := 46) rfl ?_
  refine pp_icmp_ne (tgt := 52) dX5_countUpWith_46 (by decide) (q := 49) rfl (fun c46 => absurd hkd c46) (fun c46 => ?_)
  refine pp_iinc dX5_countUpWith_49 rfl (nI_1 _) (ls1_3 (nl1 rfl)) (q := 52) rfl ?_
  refine pp_iinc dX5_countUpWith_52 rfl (nI_1 _) (ls1_4 (nl1 rfl)) (q := 55) rfl ?_
  refine pp_goto (tgt := 5) dX5_countUpWith_55 (by decide) ?_
  have hs : sel (cnb A x kind) (i + 1) = sel (cnb A x kind) i ++ [i] := by rw [sel_s, if_pos]; unfold cnb; simp only [Bool.and_eq_true, decide_eq_true_eq]; exact ⟨⟨hix, upb_t hu⟩, hkd⟩
  rw [hs, List.length_append] at hk
  exact hk _
theorem l_cu {ad : Nm → Nat} {g : Sg} {w x : Nat} {A : AW} {kind : Int32} (hA : RW g w A) (hx : x < 64) : ∀ (j i : Nat), 64 - i < j → i ≤ 64 → ∀ z, PS mX5_countUpWith 5 [some (.ref (ad (10, w, 0))), some (.int (nI x)), some (.int kind), some (.int (nI (sel (cnb A x kind) i).length)), some (.int (nI i)), z] [] ad g (Ri (fun v g' => v = nI (sel (cnb A x kind) 64).length ∧ g' = g)) := by
  intro j
  induction j with
  | zero => intro i h; omega
  | succ j ih =>
    intro i hij hik z
    by_cases e : i = 64
    · subst e
      refine pp_iload dX5_countUpWith_5 rfl (q := 7) rfl ?_
      refine pp_bipush dX5_countUpWith_7 cb_64 (q := 9) rfl ?_
      refine pp_icmp_ge (tgt := 58) dX5_countUpWith_9 (by decide) (q := 12) rfl (fun _ => ?_) (fun c => absurd (nI_le (Nat.le_refl 64) (by decide)) c)
      refine pp_iload_n dX5_countUpWith_58 rfl (q := 59) rfl ?_
      exact ri_ret dX5_countUpWith_59 rfl rfl ⟨rfl, rfl⟩
    · have hi : i < 64 := by omega
      have hk := ih (i + 1) (by omega) (by omega)
      by_cases hu : upA A i
      · by_cases hix : i = x
        · exact s_cux hA hx hi hu hix hk z
        · by_cases hkd : (A.1 i).2.2 31 x = kind
          · exact s_cuy hA hx hi hu hix hkd hk z
          · exact s_cuk hA hx hi hu hix hkd hk z
      · exact s_cun hA hx hi hu hk z
set_option maxRecDepth 20000 in
set_option maxHeartbeats 4000000 in
theorem c_cu {ad : Nm → Nat} {g : Sg} {w x : Nat} {A : AW} {kind : Int32} (hA : RW g w A) (hx : x < 64) : PS mX5_countUpWith 0 (ent mX5_countUpWith [.ref (ad (10, w, 0)), .int (nI x), .int kind]) [] ad g (Ri (fun v g' => v = nI (sel (cnb A x kind) 64).length ∧ g' = g)) := by
  show PP mX5_countUpWith 0 [some (.ref (ad (10, w, 0))), some (.int (nI x)), some (.int kind), none, none, none] [] (Rel ad g) _
  refine pp_iconst dX5_countUpWith_0 ci_0 (q := 1) rfl ?_
  refine pp_istore_n dX5_countUpWith_1 (by decide) (ls1_3 (nl1 rfl)) (q := 2) rfl ?_
  refine pp_iconst dX5_countUpWith_2 ci_0 (q := 3) rfl ?_
  refine pp_istore dX5_countUpWith_3 (by decide) (ls1_4 (nl1 rfl)) (q := 5) rfl ?_
  exact l_cu hA hx 65 0 (by omega) (by omega) _
def woA (m : Nat) (M : Me) : Int32 := match nxO M with
  | some i => M.2.2 36 i
  | none => if (sel (gsel (M.2.2 31) m (-1)) 64).length = 0 then -1 else (mkR (M.2.2 31) (M.2.2 36) m M.2.1).1 0
set_option maxRecDepth 20000 in
set_option maxHeartbeats 4000000 in
theorem c_wo1 {ad : Nm → Nat} {g : Sg} {w m i : Nat} {M : Me} (hM : RM g w m M) (hmb : m < 64) (hW : wfR m M) (hs : al g (6, 0, 0)) (ho : nxO M = some i) : PS mX1_wouldAsk 0 (ent mX1_wouldAsk [.ref (ad (30, w, m)), .ref (ad (6, 0, 0))]) [] ad g (Ri (fun v g' => v = woA m M ∧ g' = g)) := by
  obtain ⟨n, hn1, hn2, hin⟩ := nxO_lt hW ho
  obtain ⟨n9, q, k1, k2, k3, k4, k5⟩ := id hW
  obtain rfl : n9 = n := eqT (k1.symm.trans hn1) (by omega) (by omega)
  show PP mX1_wouldAsk 0 [some (.ref (ad (30, w, m))), some (.ref (ad (6, 0, 0))), none, none] [] (Rel ad g) _
  refine pp_aload_n dX1_wouldAsk_0 rfl isRf_r (q := 1) rfl ?_
  refine ps_callVi dX1_wouldAsk_1 lk_X1_127 (by exact hM.1) (by rfl) (by rfl) (by rfl) (c_nextA hM hW) (by rfl) (by exact Nat.le_of_ble_eq_true rfl) (by decide) (by decide) (by exact Nat.le_of_ble_eq_true rfl) (q := 4) rfl (fun r1 g1 h1 => ?_)
  obtain ⟨rfl, rfl⟩ := And.intro h1.1.symm h1.2.symm
  rw [ho]
  refine pp_istore_n dX1_wouldAsk_4 (by decide) (ls1_2 (nl1 rfl)) (q := 5) rfl ?_
  refine pp_iload_n dX1_wouldAsk_5 rfl (q := 6) rfl ?_
  refine pp_iconst dX1_wouldAsk_6 ci_m1 (q := 7) rfl ?_
  refine pp_icmp_eq (tgt := 17) dX1_wouldAsk_7 (by decide) (q := 10) rfl (fun c7 => absurd c7 (oI_some_ne (by omega))) (fun c7 => ?_)
  refine pp_aload_n dX1_wouldAsk_10 rfl isRf_r (q := 11) rfl ?_
  refine ps_get dX1_wouldAsk_11 fl_X1_35 hM.1 rfl rfl (q := 14) rfl ?_
  refine pp_iload_n dX1_wouldAsk_14 rfl (q := 15) rfl ?_
  refine ps_iald (j := i) dX1_wouldAsk_15 hM.1 rfl rfl (by omega) (by decide) (q := 16) rfl ?_
  refine ri_ret dX1_wouldAsk_16 rfl rfl ?_
  refine ⟨?_, rfl⟩
  unfold woA
  rw [ho]
  exact (wf_ix hM k1 k2 k3 k4).1 i hin
set_option maxRecDepth 20000 in
set_option maxHeartbeats 4000000 in
theorem c_wo0 {ad : Nm → Nat} {g : Sg} {w m : Nat} {M : Me} (hM : RM g w m M) (hmb : m < 64) (hW : wfR m M) (hs : al g (6, 0, 0)) (ho : nxO M = none) : PS mX1_wouldAsk 0 (ent mX1_wouldAsk [.ref (ad (30, w, m)), .ref (ad (6, 0, 0))]) [] ad g (Ri (fun v g' => v = woA m M ∧ EqX (fun n => n = (6, 0, 0)) g g')) := by
  have e31 := hM.ar (k := 31) (by omega) (by omega)
  show PP mX1_wouldAsk 0 [some (.ref (ad (30, w, m))), some (.ref (ad (6, 0, 0))), none, none] [] (Rel ad g) _
  refine pp_aload_n dX1_wouldAsk_0 rfl isRf_r (q := 1) rfl ?_
  refine ps_callVi dX1_wouldAsk_1 lk_X1_127 (by exact hM.1) (by rfl) (by rfl) (by rfl) (c_nextA hM hW) (by rfl) (by exact Nat.le_of_ble_eq_true rfl) (by decide) (by decide) (by exact Nat.le_of_ble_eq_true rfl) (q := 4) rfl (fun r1 g1 h1 => ?_)
  obtain ⟨rfl, rfl⟩ := And.intro h1.1.symm h1.2.symm
  rw [ho]
  refine pp_istore_n dX1_wouldAsk_4 (by decide) (ls1_2 (nl1 rfl)) (q := 5) rfl ?_
  refine pp_iload_n dX1_wouldAsk_5 rfl (q := 6) rfl ?_
  refine pp_iconst dX1_wouldAsk_6 ci_m1 (q := 7) rfl ?_
  refine pp_icmp_eq (tgt := 17) dX1_wouldAsk_7 (by decide) (q := 10) rfl (fun c7 => ?_) (fun c7 => absurd rfl c7)
  refine pp_aload_n dX1_wouldAsk_17 rfl isRf_r (q := 18) rfl ?_
  refine pp_aload_n dX1_wouldAsk_18 rfl isRf_r (q := 19) rfl ?_
  refine pp_iconst dX1_wouldAsk_19 ci_m1 (q := 20) rfl ?_
  refine ps_callVi dX1_wouldAsk_20 lk_X1_119 (by exact hM.1) (by rfl) (by rfl) (by rfl) (c_gather (n := (6, 0, 0)) hM.1 hmb hs (fun _ _ _ _ _ _ _ => rfl) (fun e => by cases e)) (by rfl) (by exact Nat.le_of_ble_eq_true rfl) (by decide) (by decide) (by exact Nat.le_of_ble_eq_true rfl) (q := 23) rfl (fun r20 g20 h20 => ?_)
  obtain ⟨rfl, rfl⟩ := And.intro h20.1.symm h20.2.symm
  rw [e31]
  refine pp_istore_n dX1_wouldAsk_23 (by decide) (ls1_3 (nl1 rfl)) (q := 24) rfl ?_
  refine pp_aload_n dX1_wouldAsk_24 rfl isRf_r (q := 25) rfl ?_
  refine pp_iload_n dX1_wouldAsk_25 rfl (q := 26) rfl ?_
  refine pp_aload_n dX1_wouldAsk_26 rfl isRf_r (q := 27) rfl ?_
  refine ps_get dX1_wouldAsk_27 fl_X1_41 hM.1 rfl rfl (q := 30) rfl ?_
  refine ps_callSj dX1_wouldAsk_30 lk_X1_123 (by rfl) (c_shuffleA (n := (6, 0, 0)) (by exact hs) (fun _ _ _ _ _ _ _ => rfl) (sel_le _ _)) (by rfl) (by exact Nat.le_of_ble_eq_true rfl) (by decide) (by decide) (by exact Nat.le_of_ble_eq_true rfl) (q := 33) rfl (fun r30 g30 h30 => ?_)
  obtain ⟨rfl, rfl⟩ := And.intro h30.1.symm h30.2.symm
  rw [sA_sA, gA_sA, if_pos rfl, show gJ (sA g (6, 0, 0) (wl (gA g (6, 0, 0)) (sel (gsel (M.2.2 31) m (-1)) 64))) (30, w, m) = M.2.1 from hM.2.2.1]
  refine pp_pop2 dX1_wouldAsk_33 rfl (q := 34) rfl ?_
  refine pp_iload_n dX1_wouldAsk_34 rfl (q := 35) rfl ?_
  refine pp_if_le (tgt := 49) dX1_wouldAsk_35 (by decide) (q := 38) rfl (fun c35 => ?_) (fun c35 => ?_)
  · have hl : (sel (gsel (M.2.2 31) m (-1)) 64).length = 0 := by have := leT (show nI _ ≤ nI 0 from c35) (by have := sel_le (gsel (M.2.2 31) m (-1)) 64; omega) (by decide); omega
    refine pp_iconst dX1_wouldAsk_49 ci_m1 (q := 50) rfl ?_
    refine ri_ret dX1_wouldAsk_50 rfl rfl ?_
    first
      | (refine ⟨?_, EqX.rf.sA rfl⟩; unfold woA; rw [ho]; dsimp only; rw [if_pos hl]; done)
      | (refine ⟨?_, EqX.rf.sA rfl⟩; unfold woA; rw [ho]; dsimp only; rw [if_neg (by omega), gA_sA, if_pos rfl]; exact (mkR_congr (K := M.2.2 31) (R := gA g (6, 0, 0)) (R' := M.2.2 36) (m := m) (sd := M.2.1)).2 0 hl)
  · have hl : 0 < (sel (gsel (M.2.2 31) m (-1)) 64).length := leF (show ¬ nI _ ≤ nI 0 from c35) (by have := sel_le (gsel (M.2.2 31) m (-1)) 64; omega) (by decide)
    refine pp_aload_n dX1_wouldAsk_38 rfl isRf_r (q := 39) rfl ?_
    refine ps_alen dX1_wouldAsk_39 hs rfl (by decide) (q := 40) rfl ?_
    refine pp_if_le (tgt := 49) dX1_wouldAsk_40 (by decide) (q := 43) rfl (fun c40 => absurd c40 (by decide)) (fun c40 => ?_)
    refine pp_aload_n dX1_wouldAsk_43 rfl isRf_r (q := 44) rfl ?_
    refine pp_iconst dX1_wouldAsk_44 ci_0 (q := 45) rfl ?_
    refine ps_iald dX1_wouldAsk_45 hs rfl rfl (by omega) (by decide) (q := 46) rfl ?_
    refine pp_goto (tgt := 50) dX1_wouldAsk_46 (by decide) ?_
    refine ri_ret dX1_wouldAsk_50 rfl rfl ?_
    first
      | (refine ⟨?_, EqX.rf.sA rfl⟩; unfold woA; rw [ho]; dsimp only; rw [if_pos hl]; done)
      | (refine ⟨?_, EqX.rf.sA rfl⟩; unfold woA; rw [ho]; dsimp only; rw [if_neg (by omega), gA_sA, if_pos rfl]; exact (mkR_congr (K := M.2.2 31) (R := gA g (6, 0, 0)) (R' := M.2.2 36) (m := m) (sd := M.2.1)).2 0 hl)
theorem c_wo {ad : Nm → Nat} {g : Sg} {w m : Nat} {M : Me} (hM : RM g w m M) (hmb : m < 64) (hW : wfR m M) (hs : al g (6, 0, 0)) : PS mX1_wouldAsk 0 (ent mX1_wouldAsk [.ref (ad (30, w, m)), .ref (ad (6, 0, 0))]) [] ad g (Ri (fun v g' => v = woA m M ∧ EqX (fun n => n = (6, 0, 0)) g g')) := by
  cases ho : nxO M with
  | none => exact c_wo0 hM hmb hW hs ho
  | some i =>
    refine (c_wo1 hM hmb hW hs ho).weak (fun v G hG => ?_)
    obtain ⟨g', h1, r, h2, h3, rfl⟩ := hG
    exact ⟨_, h1, r, h2, h3, EqX.rf⟩
