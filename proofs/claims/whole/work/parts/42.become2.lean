theorem RM.sIw {g : Sg} {w' m : Nat} {M : Me} (h : RM g w' m M) {w m' k : Nat} {x : Int32} (hne : w' ≠ w) : RM (sI g (30, w, m') k x) w' m M := h.eqx (EqX.rf.sI (S := fun n => n.2.1 = w) rfl) (fun _ _ _ q => hne q)
theorem RM.sJw {g : Sg} {w' m : Nat} {M : Me} (h : RM g w' m M) {w m' : Nat} {x : Int64} (hne : w' ≠ w) : RM (sJ g (30, w, m') x) w' m M := h.eqx (EqX.rf.sJ (S := fun n => n.2.1 = w) rfl) (fun _ _ _ q => hne q)
theorem RM.sAw {g : Sg} {w' m : Nat} {M : Me} (h : RM g w' m M) {w m' k : Nat} {f : Nat → Int32} (hne : w' ≠ w) : RM (sA g (k, w, m') f) w' m M := h.eqx (EqX.rf.sA (S := fun n => n.2.1 = w) rfl) (fun _ _ _ q => hne q)
theorem Zb.as {g g' : Sg} {w w' m : Nat} {M : Me} (_hM : RM g' w' m M) (h : Zb g w m) (e : gA g' = gA g) : Zb g' w m := fun k j h1 h2 hj => by rw [e]; exact h k j h1 h2 hj
theorem Zb.sA {g : Sg} {w m k : Nat} {f : Nat → Int32} (h : Zb g w m) (hf : ∀ j, 64 ≤ j → f j = 0) : Zb (sA g (k, w, m) f) w m := fun k' j h1 h2 hj => by
  rw [gA_sA]
  split
  · exact hf j hj
  · exact h k' j h1 h2 hj
theorem cpG {g : Sg} {w w' m k : Nat} {M : Me} (hM : RM g w' m M) (hZ : Zb g w m) (h1 : 31 ≤ k) (h2 : k ≤ 35) : va_cpy (gA g (k, w', m)) (gA g (k, w, m)) 0 0 64 = M.2.2 k := by
  rw [hM.ar h1 h2]
  funext j
  unfold va_cpy
  by_cases hj : j < 64
  · rw [if_pos ⟨by omega, by omega⟩]
    simp
  · rw [if_neg (by omega), hZ k j h1 h2 (by omega), hM.2.2.2.2.2 k j h1 h2 (by omega)]
def becG (g : Sg) (w m : Nat) (M : Me) (R : Nat → Int32) : Sg := sI (sI (sA (sA (sA (sA (sA (sA (sI (sI (sI (sI (sJ (sI (sI g (30, w, m) 1 (M.1 1)) (30, w, m) 2 (M.1 2)) (30, w, m) M.2.1) (30, w, m) 4 (M.1 4)) (30, w, m) 5 (M.1 5)) (30, w, m) 6 (M.1 6)) (30, w, m) 7 (M.1 7)) (31, w, m) (M.2.2 31)) (32, w, m) (M.2.2 32)) (33, w, m) (M.2.2 33)) (34, w, m) (M.2.2 34)) (35, w, m) (M.2.2 35)) (36, w, m) R) (30, w, m) 14 (M.1 14)) (30, w, m) 15 (M.1 15)
theorem gI_sA {g : Sg} {n n' : Nm} {f : Nat → Int32} : gI (sA g n f) n' = gI g n' := rfl
theorem gA_sI {g : Sg} {n n' : Nm} {k : Nat} {x : Int32} : gA (sI g n k x) n' = gA g n' := rfl
theorem gA_sJ {g : Sg} {n n' : Nm} {x : Int64} : gA (sJ g n x) n' = gA g n' := rfl
theorem gJ_sI {g : Sg} {n n' : Nm} {k : Nat} {x : Int32} : gJ (sI g n k x) n' = gJ g n' := rfl
theorem gJ_sA {g : Sg} {n n' : Nm} {f : Nat → Int32} : gJ (sA g n f) n' = gJ g n' := rfl
theorem RM_bec {g : Sg} {w m n : Nat} {M : Me} {R : Nat → Int32} (ha : al g (30, w, m)) (h1 : M.1 14 = nI n) (h2 : n ≤ 64) (h3 : ∀ j, j < n → R j = M.2.2 36 j) (hz : ∀ k j, 31 ≤ k → k ≤ 35 → 64 ≤ j → M.2.2 k j = 0) : RM (becG g w m M R) w m M := by
  refine ⟨ha, fun k hk => ?_, ?_, fun k a b => ?_, ⟨n, h1, h2, fun j hj => ?_⟩, hz⟩
  · unfold isSl at hk
    unfold becG
    rcases hk with rfl | rfl | rfl | rfl | rfl | rfl | rfl | rfl
    all_goals simp [gI_sI, gI_sA, gI_sJ]
  · show up3 _ (30, w, m) M.2.1 (30, w, m) = _
    exact up3_eq
  · unfold becG
    obtain rfl | rfl | rfl | rfl | rfl : k = 31 ∨ k = 32 ∨ k = 33 ∨ k = 34 ∨ k = 35 := by omega
    all_goals simp [gA_sA, gA_sI, gA_sJ]
  · have : gA (becG g w m M R) (36, w, m) = R := by unfold becG; simp [gA_sA, gA_sI, gA_sJ]
    rw [this]
    exact h3 j hj
theorem becG_eqx {g : Sg} {w m : Nat} {M : Me} {R : Nat → Int32} : EqX (memS w m) g (becG g w m M R) := by
  have hh : ∀ k, 30 ≤ k → k ≤ 36 → memS w m (k, w, m) := fun k a b => ⟨rfl, rfl, a, b⟩
  have h30 := hh 30 (by omega) (by omega)
  exact ((((((((((((((EqX.rf.sI h30).sI h30).sJ h30).sI h30).sI h30).sI h30).sI h30).sA (hh 31 (by omega) (by omega))).sA (hh 32 (by omega) (by omega))).sA (hh 33 (by omega) (by omega))).sA (hh 34 (by omega) (by omega))).sA (hh 35 (by omega) (by omega))).sA (hh 36 (by omega) (by omega))).sI h30).sI h30
set_option maxRecDepth 20000 in
set_option maxHeartbeats 4000000 in
theorem c_becM {ad : Nm → Nat} {g : Sg} {w w' m : Nat} {M : Me} (ha : al g (30, w, m)) (hM : RM g w' m M) (hmd : M.1 1 = nI 1) (hZ : Zb g w m) (hne : w' ≠ w) : PS mX1_become 0 (ent mX1_become [.ref (ad (30, w, m)), .ref (ad (30, w', m))]) [] ad g (Rv (fun g' => RM g' w m M ∧ EqX (memS w m) g g')) := by
  show PP mX1_become 0 [some (.ref (ad (30, w, m))), some (.ref (ad (30, w', m)))] [] (Rel ad g) _
  refine pp_aload_n dX1_become_0 rfl isRf_r (q := 1) rfl ?_
  refine pp_aload_n dX1_become_1 rfl isRf_r (q := 2) rfl ?_
  refine ps_get dX1_become_2 fl_X1_15 (by first | exact hM14.1 | exact hM13.1 | exact hM12.1 | exact hM11.1 | exact hM10.1 | exact hM9.1 | exact hM8.1 | exact hM7.1 | exact hM6.1 | exact hM5.1 | exact hM4.1 | exact hM3.1 | exact hM2.1 | exact hM1.1 | exact hM.1) rfl rfl (q := 5) rfl ?_
  rw [hM.sc sl1]
  refine ps_puti dX1_become_5 fl_X1_15 ha rfl (by exact Nat.le_of_ble_eq_true rfl) (by first | rfl | (rw [hmd]; rfl)) (by first | rfl | (rw [hmd]; rfl)) rfl (q := 8) rfl ?_
  have hM1 := hM.sIw (w := w) (m' := m) (k := 1) (x := M.1 1) hne
  refine pp_aload_n dX1_become_8 rfl isRf_r (q := 9) rfl ?_
  refine pp_aload_n dX1_become_9 rfl isRf_r (q := 10) rfl ?_
  refine ps_get dX1_become_10 fl_X1_38 (by first | exact hM14.1 | exact hM13.1 | exact hM12.1 | exact hM11.1 | exact hM10.1 | exact hM9.1 | exact hM8.1 | exact hM7.1 | exact hM6.1 | exact hM5.1 | exact hM4.1 | exact hM3.1 | exact hM2.1 | exact hM1.1 | exact hM.1) rfl rfl (q := 13) rfl ?_
  rw [hM1.sc sl2]
  refine ps_puti dX1_become_13 fl_X1_38 ha rfl (by exact Nat.le_of_ble_eq_true rfl) rfl rfl rfl (q := 16) rfl ?_
  have hM2 := hM1.sIw (w := w) (m' := m) (k := 2) (x := M.1 2) hne
  refine pp_aload_n dX1_become_16 rfl isRf_r (q := 17) rfl ?_
  refine pp_aload_n dX1_become_17 rfl isRf_r (q := 18) rfl ?_
  refine ps_get dX1_become_18 fl_X1_41 (by first | exact hM14.1 | exact hM13.1 | exact hM12.1 | exact hM11.1 | exact hM10.1 | exact hM9.1 | exact hM8.1 | exact hM7.1 | exact hM6.1 | exact hM5.1 | exact hM4.1 | exact hM3.1 | exact hM2.1 | exact hM1.1 | exact hM.1) rfl rfl (q := 21) rfl ?_
  rw [hM2.2.2.1]
  refine ps_putl dX1_become_21 fl_X1_41 ha rfl (by exact Nat.le_of_ble_eq_true rfl) rfl rfl rfl (q := 24) rfl ?_
  have hM3 := hM2.sJw (w := w) (m' := m) (x := M.2.1) hne
  refine pp_aload_n dX1_become_24 rfl isRf_r (q := 25) rfl ?_
  refine pp_aload_n dX1_become_25 rfl isRf_r (q := 26) rfl ?_
  refine ps_get dX1_become_26 fl_X1_45 (by first | exact hM14.1 | exact hM13.1 | exact hM12.1 | exact hM11.1 | exact hM10.1 | exact hM9.1 | exact hM8.1 | exact hM7.1 | exact hM6.1 | exact hM5.1 | exact hM4.1 | exact hM3.1 | exact hM2.1 | exact hM1.1 | exact hM.1) rfl rfl (q := 29) rfl ?_
  rw [hM3.sc sl4]
  refine ps_puti dX1_become_29 fl_X1_45 ha rfl (by exact Nat.le_of_ble_eq_true rfl) rfl rfl rfl (q := 32) rfl ?_
  have hM4 := hM3.sIw (w := w) (m' := m) (k := 4) (x := M.1 4) hne
  refine pp_aload_n dX1_become_32 rfl isRf_r (q := 33) rfl ?_
  refine pp_aload_n dX1_become_33 rfl isRf_r (q := 34) rfl ?_
  refine ps_get dX1_become_34 fl_X1_48 (by first | exact hM14.1 | exact hM13.1 | exact hM12.1 | exact hM11.1 | exact hM10.1 | exact hM9.1 | exact hM8.1 | exact hM7.1 | exact hM6.1 | exact hM5.1 | exact hM4.1 | exact hM3.1 | exact hM2.1 | exact hM1.1 | exact hM.1) rfl rfl (q := 37) rfl ?_
  rw [hM4.sc sl5]
  refine ps_puti dX1_become_37 fl_X1_48 ha rfl (by exact Nat.le_of_ble_eq_true rfl) rfl rfl rfl (q := 40) rfl ?_
  have hM5 := hM4.sIw (w := w) (m' := m) (k := 5) (x := M.1 5) hne
  refine pp_aload_n dX1_become_40 rfl isRf_r (q := 41) rfl ?_
  refine pp_aload_n dX1_become_41 rfl isRf_r (q := 42) rfl ?_
  refine ps_get dX1_become_42 fl_X1_67 (by first | exact hM14.1 | exact hM13.1 | exact hM12.1 | exact hM11.1 | exact hM10.1 | exact hM9.1 | exact hM8.1 | exact hM7.1 | exact hM6.1 | exact hM5.1 | exact hM4.1 | exact hM3.1 | exact hM2.1 | exact hM1.1 | exact hM.1) rfl rfl (q := 45) rfl ?_
  rw [hM5.sc sl6]
  refine ps_puti dX1_become_45 fl_X1_67 ha rfl (by exact Nat.le_of_ble_eq_true rfl) rfl rfl rfl (q := 48) rfl ?_
  have hM6 := hM5.sIw (w := w) (m' := m) (k := 6) (x := M.1 6) hne
  refine pp_aload_n dX1_become_48 rfl isRf_r (q := 49) rfl ?_
  refine pp_aload_n dX1_become_49 rfl isRf_r (q := 50) rfl ?_
  refine ps_get dX1_become_50 fl_X1_70 (by first | exact hM14.1 | exact hM13.1 | exact hM12.1 | exact hM11.1 | exact hM10.1 | exact hM9.1 | exact hM8.1 | exact hM7.1 | exact hM6.1 | exact hM5.1 | exact hM4.1 | exact hM3.1 | exact hM2.1 | exact hM1.1 | exact hM.1) rfl rfl (q := 53) rfl ?_
  rw [hM6.sc sl7]
  refine ps_puti dX1_become_53 fl_X1_70 ha rfl (by exact Nat.le_of_ble_eq_true rfl) rfl rfl rfl (q := 56) rfl ?_
  have hM7 := hM6.sIw (w := w) (m' := m) (k := 7) (x := M.1 7) hne
  have hZ7 := Zb.as hM7 hZ rfl
  refine pp_aload_n dX1_become_56 rfl isRf_r (q := 57) rfl ?_
  refine ps_get dX1_become_57 fl_X1_19 (by first | exact hM14.1 | exact hM13.1 | exact hM12.1 | exact hM11.1 | exact hM10.1 | exact hM9.1 | exact hM8.1 | exact hM7.1 | exact hM6.1 | exact hM5.1 | exact hM4.1 | exact hM3.1 | exact hM2.1 | exact hM1.1 | exact hM.1) rfl rfl (q := 60) rfl ?_
  refine pp_iconst dX1_become_60 ci_0 (q := 61) rfl ?_
  refine pp_aload_n dX1_become_61 rfl isRf_r (q := 62) rfl ?_
  refine ps_get dX1_become_62 fl_X1_19 ha rfl rfl (q := 65) rfl ?_
  refine pp_iconst dX1_become_65 ci_0 (q := 66) rfl ?_
  refine pp_bipush dX1_become_66 cb_64 (q := 68) rfl ?_
  refine ps_copyi (n := (31, w', m)) (m := (31, w, m)) (n1 := 64) (n2 := 64) (a := 0) (b := 0) (k := 64) dX1_become_68 lc_X1_135 (by exact hM7.1) (by exact ha) rfl (fun _ => rfl) rfl rfl rfl (by omega) (by omega) (by decide) (by decide) (by exact Nat.le_of_ble_eq_true rfl) (q := 71) rfl ?_
  rw [cpG hM7 hZ7 (by omega) (by omega)]
  have hM8 := hM7.sAw (w := w) (m' := m) (k := 31) (f := M.2.2 31) hne
  have hZ8 := hZ7.sA (k := 31) (fun j hj => hM.2.2.2.2.2 31 j (by omega) (by omega) hj)
  refine pp_aload_n dX1_become_71 rfl isRf_r (q := 72) rfl ?_
  refine ps_get dX1_become_72 fl_X1_23 (by first | exact hM14.1 | exact hM13.1 | exact hM12.1 | exact hM11.1 | exact hM10.1 | exact hM9.1 | exact hM8.1 | exact hM7.1 | exact hM6.1 | exact hM5.1 | exact hM4.1 | exact hM3.1 | exact hM2.1 | exact hM1.1 | exact hM.1) rfl rfl (q := 75) rfl ?_
  refine pp_iconst dX1_become_75 ci_0 (q := 76) rfl ?_
  refine pp_aload_n dX1_become_76 rfl isRf_r (q := 77) rfl ?_
  refine ps_get dX1_become_77 fl_X1_23 ha rfl rfl (q := 80) rfl ?_
  refine pp_iconst dX1_become_80 ci_0 (q := 81) rfl ?_
  refine pp_bipush dX1_become_81 cb_64 (q := 83) rfl ?_
  refine ps_copyi (n := (32, w', m)) (m := (32, w, m)) (n1 := 64) (n2 := 64) (a := 0) (b := 0) (k := 64) dX1_become_83 lc_X1_135 (by exact hM8.1) (by exact ha) rfl (fun _ => rfl) rfl rfl rfl (by omega) (by omega) (by decide) (by decide) (by exact Nat.le_of_ble_eq_true rfl) (q := 86) rfl ?_
  rw [cpG hM8 hZ8 (by omega) (by omega)]
  have hM9 := hM8.sAw (w := w) (m' := m) (k := 32) (f := M.2.2 32) hne
  have hZ9 := hZ8.sA (k := 32) (fun j hj => hM.2.2.2.2.2 32 j (by omega) (by omega) hj)
  refine pp_aload_n dX1_become_86 rfl isRf_r (q := 87) rfl ?_
  refine ps_get dX1_become_87 fl_X1_26 (by first | exact hM14.1 | exact hM13.1 | exact hM12.1 | exact hM11.1 | exact hM10.1 | exact hM9.1 | exact hM8.1 | exact hM7.1 | exact hM6.1 | exact hM5.1 | exact hM4.1 | exact hM3.1 | exact hM2.1 | exact hM1.1 | exact hM.1) rfl rfl (q := 90) rfl ?_
  refine pp_iconst dX1_become_90 ci_0 (q := 91) rfl ?_
  refine pp_aload_n dX1_become_91 rfl isRf_r (q := 92) rfl ?_
  refine ps_get dX1_become_92 fl_X1_26 ha rfl rfl (q := 95) rfl ?_
  refine pp_iconst dX1_become_95 ci_0 (q := 96) rfl ?_
  refine pp_bipush dX1_become_96 cb_64 (q := 98) rfl ?_
  refine ps_copyi (n := (33, w', m)) (m := (33, w, m)) (n1 := 64) (n2 := 64) (a := 0) (b := 0) (k := 64) dX1_become_98 lc_X1_135 (by exact hM9.1) (by exact ha) rfl (fun _ => rfl) rfl rfl rfl (by omega) (by omega) (by decide) (by decide) (by exact Nat.le_of_ble_eq_true rfl) (q := 101) rfl ?_
  rw [cpG hM9 hZ9 (by omega) (by omega)]
  have hM10 := hM9.sAw (w := w) (m' := m) (k := 33) (f := M.2.2 33) hne
  have hZ10 := hZ9.sA (k := 33) (fun j hj => hM.2.2.2.2.2 33 j (by omega) (by omega) hj)
  refine pp_aload_n dX1_become_101 rfl isRf_r (q := 102) rfl ?_
  refine ps_get dX1_become_102 fl_X1_29 (by first | exact hM14.1 | exact hM13.1 | exact hM12.1 | exact hM11.1 | exact hM10.1 | exact hM9.1 | exact hM8.1 | exact hM7.1 | exact hM6.1 | exact hM5.1 | exact hM4.1 | exact hM3.1 | exact hM2.1 | exact hM1.1 | exact hM.1) rfl rfl (q := 105) rfl ?_
  refine pp_iconst dX1_become_105 ci_0 (q := 106) rfl ?_
  refine pp_aload_n dX1_become_106 rfl isRf_r (q := 107) rfl ?_
  refine ps_get dX1_become_107 fl_X1_29 ha rfl rfl (q := 110) rfl ?_
  refine pp_iconst dX1_become_110 ci_0 (q := 111) rfl ?_
  refine pp_bipush dX1_become_111 cb_64 (q := 113) rfl ?_
  refine ps_copyi (n := (34, w', m)) (m := (34, w, m)) (n1 := 64) (n2 := 64) (a := 0) (b := 0) (k := 64) dX1_become_113 lc_X1_135 (by exact hM10.1) (by exact ha) rfl (fun _ => rfl) rfl rfl rfl (by omega) (by omega) (by decide) (by decide) (by exact Nat.le_of_ble_eq_true rfl) (q := 116) rfl ?_
  rw [cpG hM10 hZ10 (by omega) (by omega)]
  have hM11 := hM10.sAw (w := w) (m' := m) (k := 34) (f := M.2.2 34) hne
  have hZ11 := hZ10.sA (k := 34) (fun j hj => hM.2.2.2.2.2 34 j (by omega) (by omega) hj)
  refine pp_aload_n dX1_become_116 rfl isRf_r (q := 117) rfl ?_
  refine ps_get dX1_become_117 fl_X1_32 (by first | exact hM14.1 | exact hM13.1 | exact hM12.1 | exact hM11.1 | exact hM10.1 | exact hM9.1 | exact hM8.1 | exact hM7.1 | exact hM6.1 | exact hM5.1 | exact hM4.1 | exact hM3.1 | exact hM2.1 | exact hM1.1 | exact hM.1) rfl rfl (q := 120) rfl ?_
  refine pp_iconst dX1_become_120 ci_0 (q := 121) rfl ?_
  refine pp_aload_n dX1_become_121 rfl isRf_r (q := 122) rfl ?_
  refine ps_get dX1_become_122 fl_X1_32 ha rfl rfl (q := 125) rfl ?_
  refine pp_iconst dX1_become_125 ci_0 (q := 126) rfl ?_
  refine pp_bipush dX1_become_126 cb_64 (q := 128) rfl ?_
  refine ps_copyi (n := (35, w', m)) (m := (35, w, m)) (n1 := 64) (n2 := 64) (a := 0) (b := 0) (k := 64) dX1_become_128 lc_X1_135 (by exact hM11.1) (by exact ha) rfl (fun _ => rfl) rfl rfl rfl (by omega) (by omega) (by decide) (by decide) (by exact Nat.le_of_ble_eq_true rfl) (q := 131) rfl ?_
  rw [cpG hM11 hZ11 (by omega) (by omega)]
  have hM12 := hM11.sAw (w := w) (m' := m) (k := 35) (f := M.2.2 35) hne
  have hZ12 := hZ11.sA (k := 35) (fun j hj => hM.2.2.2.2.2 35 j (by omega) (by omega) hj)
  refine pp_aload_n dX1_become_131 rfl isRf_r (q := 132) rfl ?_
  refine ps_get dX1_become_132 fl_X1_35 (by first | exact hM14.1 | exact hM13.1 | exact hM12.1 | exact hM11.1 | exact hM10.1 | exact hM9.1 | exact hM8.1 | exact hM7.1 | exact hM6.1 | exact hM5.1 | exact hM4.1 | exact hM3.1 | exact hM2.1 | exact hM1.1 | exact hM.1) rfl rfl (q := 135) rfl ?_
  refine pp_iconst dX1_become_135 ci_0 (q := 136) rfl ?_
  refine pp_aload_n dX1_become_136 rfl isRf_r (q := 137) rfl ?_
  refine ps_get dX1_become_137 fl_X1_35 ha rfl rfl (q := 140) rfl ?_
  refine pp_iconst dX1_become_140 ci_0 (q := 141) rfl ?_
  refine pp_bipush dX1_become_141 cb_64 (q := 143) rfl ?_
  refine ps_copyi (n := (36, w', m)) (m := (36, w, m)) (n1 := 64) (n2 := 64) (a := 0) (b := 0) (k := 64) dX1_become_143 lc_X1_135 (by exact hM12.1) (by exact ha) rfl (fun _ => rfl) rfl rfl rfl (by omega) (by omega) (by decide) (by decide) (by exact Nat.le_of_ble_eq_true rfl) (q := 146) rfl ?_
  obtain ⟨R, hR⟩ : ∃ R, R = va_cpy (gA g (36, w', m)) (gA g (36, w, m)) 0 0 64 := ⟨_, rfl⟩
  change PP mX1_become 146 _ [] (Rel ad (sA _ (36, w, m) (va_cpy (gA g (36, w', m)) (gA g (36, w, m)) 0 0 64))) _
  rw [← hR]
  have hM13 := hM12.sAw (w := w) (m' := m) (k := 36) (f := R) hne
  refine pp_aload_n dX1_become_146 rfl isRf_r (q := 147) rfl ?_
  refine pp_aload_n dX1_become_147 rfl isRf_r (q := 148) rfl ?_
  refine ps_get dX1_become_148 fl_X1_73 (by first | exact hM14.1 | exact hM13.1 | exact hM12.1 | exact hM11.1 | exact hM10.1 | exact hM9.1 | exact hM8.1 | exact hM7.1 | exact hM6.1 | exact hM5.1 | exact hM4.1 | exact hM3.1 | exact hM2.1 | exact hM1.1 | exact hM.1) rfl rfl (q := 151) rfl ?_
  rw [hM13.sc sl14]
  refine ps_puti dX1_become_151 fl_X1_73 ha rfl (by exact Nat.le_of_ble_eq_true rfl) rfl rfl rfl (q := 154) rfl ?_
  have hM14 := hM13.sIw (w := w) (m' := m) (k := 14) (x := M.1 14) hne
  refine pp_aload_n dX1_become_154 rfl isRf_r (q := 155) rfl ?_
  refine pp_aload_n dX1_become_155 rfl isRf_r (q := 156) rfl ?_
  refine ps_get dX1_become_156 fl_X1_76 (by first | exact hM14.1 | exact hM13.1 | exact hM12.1 | exact hM11.1 | exact hM10.1 | exact hM9.1 | exact hM8.1 | exact hM7.1 | exact hM6.1 | exact hM5.1 | exact hM4.1 | exact hM3.1 | exact hM2.1 | exact hM1.1 | exact hM.1) rfl rfl (q := 159) rfl ?_
  rw [hM14.sc sl15]
  refine ps_puti dX1_become_159 fl_X1_76 ha rfl (by exact Nat.le_of_ble_eq_true rfl) rfl rfl rfl (q := 162) rfl ?_
  refine rv_ret dX1_become_162 rfl ?_
  obtain ⟨n, c1, c2, c3⟩ := hM.2.2.2.2.1
  refine ⟨RM_bec (R := R) ha c1 c2 (fun j hj => ?_) hM.2.2.2.2.2, becG_eqx⟩
  rw [hR]
  unfold va_cpy
  rw [if_pos ⟨by omega, by omega⟩, ← c3 j hj]
  simp
def rS (w r : Nat) : Nm → Prop := fun n => n = (20, w, r) ∨ n = (21, w, r)
def BcR (w w' r n : Nat) (g g' : Sg) : Prop := (∃ g1, GrX w r g g1 ∧ EqX (rS w r) g1 g') ∧ rOk g' w r n ∧ ∀ i j, i < n → j < wdN r → rv g' w r i j = rv g w' r i j
set_option maxRecDepth 20000 in
set_option maxHeartbeats 4000000 in
theorem c_becR {ad : Nm → Nat} {g : Sg} {w w' r n n' : Nat} (hr1 : al g (20, w, r)) (hr2 : al g (20, w', r)) (hA : rOk g w r n) (hB : rOk g w' r n') (hC : 16 * wdN r ≤ gN g (21, w, r) ∧ gN g (21, w, r) ≤ mstN r * wdN r) (hn : n' ≤ mstN r) : PP mX3_become 0 (ent mX3_become [.ref (ad (20, w, r)), .ref (ad (20, w', r))]) [] (Rel ad g) (PQ (fun v ad' g' => v = none ∧ EqW w ad g ad' g' ∧ BcR w w' r n' g g')) := by
  show PP mX3_become 0 [some (.ref (ad (20, w, r))), some (.ref (ad (20, w', r))), none] [] (Rel ad g) _
  refine pp_aload_n dX3_become_0 rfl isRf_r (q := 1) rfl ?_
  refine pp_aload_n dX3_become_1 rfl isRf_r (q := 2) rfl ?_
  refine ps_get dX3_become_2 fl_X3_28 (by first | exact hr2' | exact hr2) rfl rfl (q := 5) rfl ?_
  rw [hB.2.1]
  refine ps_callVq dX3_become_5 lk_X3_40 (by exact (by first | exact hr1' | exact hr1)) (by rfl) (by rfl) (by rfl) (c_reserve (by exact hr1) hA (by have := hB.bd; omega) hC.2) (by rfl) (by exact Nat.le_of_ble_eq_true rfl) (by decide) (by decide) (by exact Nat.le_of_ble_eq_true rfl) (q := 8) rfl (fun v5 ad5 g5 h5 => ?_)
  obtain ⟨rfl, hG⟩ := h5
  obtain ⟨hE1, hgx, hnd⟩ := hG.X hA.1 hC.2 (by have := hC.1; have := wdN_b r; omega)
  have hB1 := hgx.okE (mst_b1 hA.1) hB
  have hr2' : al g5 (20, w', r) := hE1.1 _ hr2
  have hr1' : al g5 (20, w, r) := hE1.1 _ hr1
  rw [← hE1.2.1 (20, w, r) hr1 (by show 20 ≠ 21; omega), ← hE1.2.1 (20, w', r) hr2 (by show 20 ≠ 21; omega)]
  rw [Nat.min_eq_left hn] at hnd
  have hcp : gN g5 (21, w, r) ≤ 100000 := by have := hgx.2.2.2.2.2.2.1; have := mst_b1 hA.1; omega
  change PP mX3_become 8 _ [] _ _
  refine pp_aload_n dX3_become_8 rfl isRf_r (q := 9) rfl ?_
  refine ps_get dX3_become_9 fl_X3_28 (by first | exact hr2' | exact hr2) rfl rfl (q := 12) rfl ?_
  rw [hB1.2.1]
  refine pp_aload_n dX3_become_12 rfl isRf_r (q := 13) rfl ?_
  refine ps_get dX3_become_13 fl_X3_15 (by first | exact hr2' | exact hr2) rfl rfl (q := 16) rfl ?_
  rw [wid_eq]
  refine pp_imul dX3_become_16 (q := 17) rfl ?_
  rw [pk_mul]
  refine pp_istore_n dX3_become_17 (by decide) (ls1_2 (nl1 rfl)) (q := 18) rfl ?_
  refine pp_aload_n dX3_become_18 rfl isRf_r (q := 19) rfl ?_
  refine ps_get dX3_become_19 fl_X3_15 (by first | exact hr2' | exact hr2) rfl rfl (q := 22) rfl ?_
  refine pp_aload_n dX3_become_22 rfl isRf_r (q := 23) rfl ?_
  refine ps_get dX3_become_23 fl_X3_15 (by first | exact hr1' | exact hr1) rfl rfl (q := 26) rfl ?_
  refine pp_icmp_ne (tgt := 60) dX3_become_26 (by decide) (q := 29) rfl (fun c26 => absurd rfl c26) (fun c26 => ?_)
  refine pp_iload_n dX3_become_29 rfl (q := 30) rfl ?_
  refine pp_aload_n dX3_become_30 rfl isRf_r (q := 31) rfl ?_
  refine ps_get dX3_become_31 fl_X3_24 (by first | exact hr1' | exact hr1) rfl rfl (q := 34) rfl ?_
  refine ps_alen dX3_become_34 (al21 hr1') rfl (by decide) (q := 35) rfl ?_
  refine pp_icmp_gt (tgt := 60) dX3_become_35 (by decide) (q := 38) rfl (fun c35 => absurd c35 (sn_le hnd (by omega))) (fun c35 => ?_)
  refine pp_aload_n dX3_become_38 rfl isRf_r (q := 39) rfl ?_
  refine ps_get dX3_become_39 fl_X3_24 (by first | exact hr2' | exact hr2) rfl rfl (q := 42) rfl ?_
  refine pp_iconst dX3_become_42 ci_0 (q := 43) rfl ?_
  refine pp_aload_n dX3_become_43 rfl isRf_r (q := 44) rfl ?_
  refine ps_get dX3_become_44 fl_X3_24 (by first | exact hr1' | exact hr1) rfl rfl (q := 47) rfl ?_
  refine pp_iconst dX3_become_47 ci_0 (q := 48) rfl ?_
  refine pp_iload_n dX3_become_48 rfl (q := 49) rfl ?_
  refine ps_copyi (n := (21, w', r)) (m := (21, w, r)) (n1 := gN g5 (21, w', r)) (n2 := gN g5 (21, w, r)) (a := 0) (b := 0) (k := n' * wdN r) dX3_become_49 lc_X3_44 (al21 hr2') (al21 hr1') rfl (fun _ => rfl) rfl rfl rfl (by have := hB1.2.2.1; omega) (by omega) (by have := hB1.2.2.2; omega) (by decide) (by exact Nat.le_of_ble_eq_true rfl) (q := 52) rfl ?_
  refine pp_aload_n dX3_become_52 rfl isRf_r (q := 53) rfl ?_
  refine pp_aload_n dX3_become_53 rfl isRf_r (q := 54) rfl ?_
  refine ps_get dX3_become_54 fl_X3_28 (by first | exact hr2' | exact hr2) rfl rfl (q := 57) rfl ?_
  rw [show gI (sA g5 (21, w, r) (va_cpy (gA g5 (21, w', r)) (gA g5 (21, w, r)) 0 0 (n' * wdN r))) (20, w', r) 3 = nI n' from hB1.2.1]
  refine ps_puti dX3_become_57 fl_X3_28 (by first | exact hr1' | exact hr1) rfl (by exact Nat.le_of_ble_eq_true rfl) rfl rfl rfl (q := 60) rfl ?_
  refine pp_vret dX3_become_60 rfl (fun G hG => ⟨_, _, hG, ?_⟩)
  refine ⟨rfl, ?_, ⟨g5, hgx, ?_⟩, ⟨hA.1, ?_, hnd, hcp⟩, fun i j hi hj => ?_⟩
  · exact hE1.tr (((EqX.rf (g := g5)).sA (S := rS w r) (Or.inr rfl)).sI (Or.inl rfl) |>.W (fun n q => by rcases q with rfl | rfl; exact ⟨rfl, by show 10 ≤ 20; omega, by show 20 ≤ 36; omega⟩; exact ⟨rfl, by show 10 ≤ 21; omega, by show 21 ≤ 36; omega⟩))
  · exact (EqX.rf.sA (Or.inr rfl)).sI (Or.inl rfl)
  · rw [gI_sI, if_pos ⟨rfl, rfl⟩]
  · rw [← hgx.rvE hB hi hj]
    unfold rv
    show gA (sA g5 (21, w, r) (va_cpy (gA g5 (21, w', r)) (gA g5 (21, w, r)) 0 0 (n' * wdN r))) (21, w, r) (i * wdN r + j) = _
    rw [gA_sA, if_pos rfl]
    unfold va_cpy
    have := idx_lt hi hj
    rw [if_pos ⟨by omega, by omega⟩]
    simp
