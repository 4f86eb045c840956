def caF (f : Nat → Int32) (m x b : Nat) : Nat → Int32 := upd (upd (upd (upd (upd f (38720 + 4 * b) (nI x)) (38720 + 4 * b + 1) (f (nw m x))) (38720 + 4 * b + 2) (f (nw m x + 1))) (38720 + 4 * b + 3) (f (nw m x + 4))) 118721 (nI (b + 1))
set_option maxRecDepth 20000 in
set_option maxHeartbeats 4000000 in
theorem m_carry0 {ad : Nm → Nat} {g : Sg} {m x b kd : Nat} (hm : al g (40, 0, 0)) (hmb : m < 64) (hx : x < 64) (hb : gA g (41, 0, 0) 118721 = nI b) (hbb : b < 20000) (hkd : gA g (41, 0, 0) (nw m x) = nI kd) (hk4 : kd ≤ 4) : PS mX7_carry 0 (ent mX7_carry [.ref (ad (40, 0, 0)), .int (nI m), .int (nI x)]) [] ad g (Rv (fun g' => g' = sA (sA g (41, 0, 0) (caF (gA g (41, 0, 0)) m x b)) (41, 0, 0) (upd (gA (sA g (41, 0, 0) (caF (gA g (41, 0, 0)) m x b)) (41, 0, 0)) (118723 + (3 + kd)) (gA (sA g (41, 0, 0) (caF (gA g (41, 0, 0)) m x b)) (41, 0, 0) (118723 + (3 + kd)) + nI 1)))) := by
  show PP mX7_carry 0 [some (.ref (ad (40, 0, 0))), some (.int (nI m)), some (.int (nI x)), none, none] [] (Rel ad g) _
  refine pp_iload_n dX7_carry_0 rfl (q := 1) rfl ?_
  refine pp_iload_n dX7_carry_1 rfl (q := 2) rfl ?_
  refine ps_callSi dX7_carry_2 lk_X7_44 (by rfl) m_newsAt (by rfl) (by exact Nat.le_of_ble_eq_true rfl) (by decide) (by decide) (by exact Nat.le_of_ble_eq_true rfl) (q := 5) rfl (fun r2 g2 h2 => ?_)
  obtain ⟨rfl, rfl⟩ := And.intro h2.1.symm h2.2.symm
  refine pp_istore_n dX7_carry_5 (by decide) (ls1_3 (nl1 rfl)) (q := 6) rfl ?_
  refine pp_ldc (v := nI 38720) dX7_carry_6 kc_X7_71 (q := 8) rfl ?_
  refine pp_iconst dX7_carry_8 ci_4 (q := 9) rfl ?_
  refine pp_aload_n dX7_carry_9 rfl isRf_r (q := 10) rfl ?_
  refine ps_get dX7_carry_10 fl_X7_8 hm rfl rfl (q := 13) rfl ?_
  refine pp_ldc (v := nI 118721) dX7_carry_13 kc_X7_52 (q := 15) rfl ?_
  refine ps_iald dX7_carry_15 hm rfl rfl (by omega) (by decide) (q := 16) rfl ?_
  rw [hb]
  refine pp_imul dX7_carry_16 (q := 17) rfl ?_
  rw [pk_mul]
  refine pp_iadd dX7_carry_17 (q := 18) rfl ?_
  rw [nI_add]
  refine pp_istore dX7_carry_18 (by decide) (ls1_4 (nl1 rfl)) (q := 20) rfl ?_
  refine pp_aload_n dX7_carry_20 rfl isRf_r (q := 21) rfl ?_
  refine ps_get dX7_carry_21 fl_X7_8 hm rfl rfl (q := 24) rfl ?_
  refine pp_iload dX7_carry_24 rfl (q := 26) rfl ?_
  refine pp_iload_n dX7_carry_26 rfl (q := 27) rfl ?_
  refine ps_iast dX7_carry_27 hm (fun _ => rfl) rfl (by omega) (by decide) (q := 28) rfl ?_
  refine pp_aload_n dX7_carry_28 rfl isRf_r (q := 29) rfl ?_
  refine ps_get dX7_carry_29 fl_X7_8 hm rfl rfl (q := 32) rfl ?_
  refine pp_iload dX7_carry_32 rfl (q := 34) rfl ?_
  refine pp_iconst dX7_carry_34 ci_1 (q := 35) rfl ?_
  refine pp_iadd dX7_carry_35 (q := 36) rfl ?_
  rw [nI_add]
  refine pp_aload_n dX7_carry_36 rfl isRf_r (q := 37) rfl ?_
  refine ps_get dX7_carry_37 fl_X7_8 hm rfl rfl (q := 40) rfl ?_
  refine pp_iload_n dX7_carry_40 rfl (q := 41) rfl ?_
  refine pp_iconst dX7_carry_41 ci_0 (q := 42) rfl ?_
  refine pp_iadd dX7_carry_42 (q := 43) rfl ?_
  rw [nI_add, Nat.add_zero]
  refine ps_iald (j := nw m x) dX7_carry_43 hm rfl rfl (by unfold nw; omega) (by decide) (q := 44) rfl ?_
  rw [gA_41, show upd (gA g (41, 0, 0)) (38720 + 4 * b) (nI x) (nw m x) = gA g (41, 0, 0) (nw m x) from by rw [upd_ne (by unfold nw; omega)]]
  refine ps_iast dX7_carry_44 hm (fun _ => rfl) rfl (by omega) (by decide) (q := 45) rfl ?_
  rw [sA_sA]
  change PP mX7_carry 45 _ [] (Rel ad (sA g (41, 0, 0) (upd (upd (gA g (41, 0, 0)) (38720 + 4 * b) (nI x)) (38720 + 4 * b + 1) (gA g (41, 0, 0) (nw m x))))) _
  refine pp_aload_n dX7_carry_45 rfl isRf_r (q := 46) rfl ?_
  refine ps_get dX7_carry_46 fl_X7_8 hm rfl rfl (q := 49) rfl ?_
  refine pp_iload dX7_carry_49 rfl (q := 51) rfl ?_
  refine pp_iconst dX7_carry_51 ci_2 (q := 52) rfl ?_
  refine pp_iadd dX7_carry_52 (q := 53) rfl ?_
  rw [nI_add]
  refine pp_aload_n dX7_carry_53 rfl isRf_r (q := 54) rfl ?_
  refine ps_get dX7_carry_54 fl_X7_8 hm rfl rfl (q := 57) rfl ?_
  refine pp_iload_n dX7_carry_57 rfl (q := 58) rfl ?_
  refine pp_iconst dX7_carry_58 ci_1 (q := 59) rfl ?_
  refine pp_iadd dX7_carry_59 (q := 60) rfl ?_
  rw [nI_add]
  refine ps_iald (j := nw m x + 1) dX7_carry_60 hm rfl rfl (by unfold nw; omega) (by decide) (q := 61) rfl ?_
  rw [gA_41, show upd (upd (gA g (41, 0, 0)) (38720 + 4 * b) (nI x)) (38720 + 4 * b + 1) (gA g (41, 0, 0) (nw m x)) (nw m x + 1) = gA g (41, 0, 0) (nw m x + 1) from by rw [upd_ne (by unfold nw; omega), upd_ne (by unfold nw; omega)]]
  refine ps_iast dX7_carry_61 hm (fun _ => rfl) rfl (by omega) (by decide) (q := 62) rfl ?_
  rw [sA_sA]
  change PP mX7_carry 62 _ [] (Rel ad (sA g (41, 0, 0) (upd (upd (upd (gA g (41, 0, 0)) (38720 + 4 * b) (nI x)) (38720 + 4 * b + 1) (gA g (41, 0, 0) (nw m x))) (38720 + 4 * b + 2) (gA g (41, 0, 0) (nw m x + 1))))) _
  refine pp_aload_n dX7_carry_62 rfl isRf_r (q := 63) rfl ?_
  refine ps_get dX7_carry_63 fl_X7_8 hm rfl rfl (q := 66) rfl ?_
  refine pp_iload dX7_carry_66 rfl (q := 68) rfl ?_
  refine pp_iconst dX7_carry_68 ci_3 (q := 69) rfl ?_
  refine pp_iadd dX7_carry_69 (q := 70) rfl ?_
  rw [nI_add]
  refine pp_aload_n dX7_carry_70 rfl isRf_r (q := 71) rfl ?_
  refine ps_get dX7_carry_71 fl_X7_8 hm rfl rfl (q := 74) rfl ?_
  refine pp_iload_n dX7_carry_74 rfl (q := 75) rfl ?_
  refine pp_iconst dX7_carry_75 ci_4 (q := 76) rfl ?_
  refine pp_iadd dX7_carry_76 (q := 77) rfl ?_
  rw [nI_add]
  refine ps_iald (j := nw m x + 4) dX7_carry_77 hm rfl rfl (by unfold nw; omega) (by decide) (q := 78) rfl ?_
  rw [gA_41, show upd (upd (upd (gA g (41, 0, 0)) (38720 + 4 * b) (nI x)) (38720 + 4 * b + 1) (gA g (41, 0, 0) (nw m x))) (38720 + 4 * b + 2) (gA g (41, 0, 0) (nw m x + 1)) (nw m x + 4) = gA g (41, 0, 0) (nw m x + 4) from by rw [upd_ne (by unfold nw; omega), upd_ne (by unfold nw; omega), upd_ne (by unfold nw; omega)]]
  refine ps_iast dX7_carry_78 hm (fun _ => rfl) rfl (by omega) (by decide) (q := 79) rfl ?_
  rw [sA_sA]
  change PP mX7_carry 79 _ [] (Rel ad (sA g (41, 0, 0) (upd (upd (upd (upd (gA g (41, 0, 0)) (38720 + 4 * b) (nI x)) (38720 + 4 * b + 1) (gA g (41, 0, 0) (nw m x))) (38720 + 4 * b + 2) (gA g (41, 0, 0) (nw m x + 1))) (38720 + 4 * b + 3) (gA g (41, 0, 0) (nw m x + 4))))) _
  refine pp_aload_n dX7_carry_79 rfl isRf_r (q := 80) rfl ?_
  refine ps_get dX7_carry_80 fl_X7_8 hm rfl rfl (q := 83) rfl ?_
  refine pp_ldc (v := nI 118721) dX7_carry_83 kc_X7_52 (q := 85) rfl ?_
  refine pp_dup2 dX7_carry_85 rfl rfl (q := 86) rfl ?_
  refine ps_iald dX7_carry_86 hm rfl rfl (by omega) (by decide) (q := 87) rfl ?_
  rw [gA_41, show upd (upd (upd (upd (gA g (41, 0, 0)) (38720 + 4 * b) (nI x)) (38720 + 4 * b + 1) (gA g (41, 0, 0) (nw m x))) (38720 + 4 * b + 2) (gA g (41, 0, 0) (nw m x + 1))) (38720 + 4 * b + 3) (gA g (41, 0, 0) (nw m x + 4)) 118721 = nI b from by rw [upd_ne (by omega), upd_ne (by omega), upd_ne (by omega), upd_ne (by omega)]; exact hb]
  refine pp_iconst dX7_carry_87 ci_1 (q := 88) rfl ?_
  refine pp_iadd dX7_carry_88 (q := 89) rfl ?_
  rw [nI_add]
  refine ps_iast dX7_carry_89 hm (fun _ => rfl) rfl (by omega) (by decide) (q := 90) rfl ?_
  rw [sA_sA]
  change PP mX7_carry 90 _ [] (Rel ad (sA g (41, 0, 0) (upd (upd (upd (upd (upd (gA g (41, 0, 0)) (38720 + 4 * b) (nI x)) (38720 + 4 * b + 1) (gA g (41, 0, 0) (nw m x))) (38720 + 4 * b + 2) (gA g (41, 0, 0) (nw m x + 1))) (38720 + 4 * b + 3) (gA g (41, 0, 0) (nw m x + 4))) 118721 (nI (b + 1))))) _
  refine pp_aload_n dX7_carry_90 rfl isRf_r (q := 91) rfl ?_
  refine pp_iconst dX7_carry_91 ci_3 (q := 92) rfl ?_
  refine pp_aload_n dX7_carry_92 rfl isRf_r (q := 93) rfl ?_
  refine ps_get dX7_carry_93 fl_X7_8 hm rfl rfl (q := 96) rfl ?_
  refine pp_iload_n dX7_carry_96 rfl (q := 97) rfl ?_
  refine pp_iconst dX7_carry_97 ci_0 (q := 98) rfl ?_
  refine pp_iadd dX7_carry_98 (q := 99) rfl ?_
  rw [nI_add, Nat.add_zero]
  refine ps_iald (j := nw m x) dX7_carry_99 hm rfl rfl (by unfold nw; omega) (by decide) (q := 100) rfl ?_
  rw [gA_41, show upd (upd (upd (upd (upd (gA g (41, 0, 0)) (38720 + 4 * b) (nI x)) (38720 + 4 * b + 1) (gA g (41, 0, 0) (nw m x))) (38720 + 4 * b + 2) (gA g (41, 0, 0) (nw m x + 1))) (38720 + 4 * b + 3) (gA g (41, 0, 0) (nw m x + 4))) 118721 (nI (b + 1)) (nw m x) = gA g (41, 0, 0) (nw m x) from by rw [upd_ne (by unfold nw; omega), upd_ne (by unfold nw; omega), upd_ne (by unfold nw; omega), upd_ne (by unfold nw; omega), upd_ne (by unfold nw; omega)]]
  rw [hkd]
  refine pp_iadd dX7_carry_100 (q := 101) rfl ?_
  rw [nI_add]
  refine ps_callVv dX7_carry_101 lk_X7_59 (by exact hm) (by rfl) (by rfl) (by rfl) (m_ran (k := 3 + kd) (by exact hm) (by omega)) (by rfl) (by exact Nat.le_of_ble_eq_true rfl) (by decide) (by decide) (by exact Nat.le_of_ble_eq_true rfl) (q := 104) rfl (fun g101 h101 => ?_)
  have h101 := h101.symm
  subst h101
  refine rv_ret dX7_carry_104 rfl ?_
  unfold caF
  rw [hkd]
theorem RF_ca {f : Nat → Int32} {sd : Nat → Int64} {A : AW} {n m x : Nat} {o : Prop} (h : RF f sd A n True) (hmb : m < 64) (hd : mdA A m) (hx : x < 64) (hx0 : ¬ (A.1 m).2.2 31 x = nI 0) (hb : bP (aB A) + 1 ≤ 20000) : RF (caF f m x (bP (aB A))) sd (aBk A (puB (aB A) (nI x) ((A.1 m).2.2 31 x) ((A.1 m).2.2 32 x) ((A.1 m).2.2 35 x))) n True := by
  have ho := h.o hmb hd
  obtain ⟨a1, a2, ⟨c0, c1, c2, c3, c4⟩, a4, a5⟩ := h
  have hn := (ho.2.2.1 x hx).1
  have hn1 := (ho.2.2.1 x hx).2 hx0 1 (by omega) (by omega)
  have hn4 := (ho.2.2.1 x hx).2 hx0 4 (by omega) (by omega)
  have hlo : ∀ i, i < 38720 + 4 * bP (aB A) ∨ (38720 + 4 * bP (aB A) + 4 ≤ i ∧ i ≠ 118721) → caF f m x (bP (aB A)) i = f i := fun i hi => by
    unfold caF
    rw [upd_ne (by omega), upd_ne (by omega), upd_ne (by omega), upd_ne (by omega), upd_ne (by omega)]
  refine ⟨a1.cg (fun i hi => hlo i (by omega)), a2.cg (fun i _ hi => hlo i (by omega)), ⟨⟨c0.1, hb⟩, ?_, upd_eq, fun l c hl hc ho => ?_, fun p c hp hc => ?_⟩, a4.cg (fun i hi _ => hlo i (by omega)), ?_⟩
  · rw [hlo _ (by omega)]; exact c1
  · rw [hlo _ (by unfold ltx; have : l < bL (aB A) := hl; omega), c3 l c hl hc ho]
    refine (puB_old ?_).symm
    by_cases e : l + 1 = bL (aB A)
    · refine Or.inr (fun q => ho trivial ⟨e, ?_⟩)
      have hc8 : c = 0 ∨ c = 1 ∨ c = 2 ∨ c = 3 ∨ c = 4 ∨ c = 5 ∨ c = 6 ∨ c = 7 := by omega
      rcases hc8 with rfl | rfl | rfl | rfl | rfl | rfl | rfl | rfl <;> first | rfl | (exact absurd q (by decide))
    · exact Or.inl e
  · by_cases e : p = bP (aB A)
    · subst e
      have hc' : ∀ c, bp (puB (aB A) (nI x) ((A.1 m).2.2 31 x) ((A.1 m).2.2 32 x) ((A.1 m).2.2 35 x)) (bP (aB A)) c = (match c with | 0 => nI x | 1 => (A.1 m).2.2 31 x | 2 => (A.1 m).2.2 32 x | _ => (A.1 m).2.2 35 x) := fun c => if_pos rfl
      show caF f m x (bP (aB A)) (38720 + 4 * bP (aB A) + c) = bp (puB (aB A) (nI x) ((A.1 m).2.2 31 x) ((A.1 m).2.2 32 x) ((A.1 m).2.2 35 x)) (bP (aB A)) c
      rw [hc']
      unfold caF
      obtain rfl | rfl | rfl | rfl : c = 0 ∨ c = 1 ∨ c = 2 ∨ c = 3 := by omega
      · rw [upd_ne (by omega), upd_ne (by omega), upd_ne (by omega), upd_ne (by omega), Nat.add_zero, upd_eq]
        rfl
      · rw [upd_ne (by omega), upd_ne (by omega), upd_ne (by omega), upd_eq]; exact hn
      · rw [upd_ne (by omega), upd_ne (by omega), upd_eq]; exact hn1
      · rw [upd_ne (by omega), upd_eq]; exact hn4
    · have hp' : p < bP (aB A) := by have : p < bP (aB A) + 1 := hp; omega
      rw [hlo _ (by omega), c4 p c hp' hc]
      exact (puB_p hp').symm
  · rw [hlo _ (by omega)]; exact a5
theorem tl_ix {kd : Nat} (h1 : 1 ≤ kd) : nI 4 + nI kd - nI 1 = nI (3 + kd) := by
  rw [nI_add, nI_sb (by omega)]
  congr 1
  omega
theorem m_carry {ad : Nm → Nat} {g : Sg} {A : AW} {n m : Nat} {o : Prop} {x : Nat} (h : RS g A n True) (hmb : m < 64) (hd : mdA A m) (hx : x < 64) (hk : ∃ kd, 1 ≤ kd ∧ kd ≤ 4 ∧ (A.1 m).2.2 31 x = nI kd) (hb : bP (aB A) + 1 ≤ 20000) : PS mX7_carry 0 (ent mX7_carry [.ref (ad (40, 0, 0)), .int (nI m), .int (nI x)]) [] ad g (Rv (fun g' => RS g' (snd1 m true A x) n True ∧ EqX (fun n => n.1 = 41) g g')) := by
  obtain ⟨kd, k1, k2, k3⟩ := hk
  have hx0 : ¬ (A.1 m).2.2 31 x = nI 0 := fun q => by rw [k3] at q; have := eqT q (by omega) (by omega); omega
  have hkd : gA g (41, 0, 0) (nw m x) = nI kd := ((h.2.o hmb hd).2.2.1 x hx).1.trans k3
  refine (m_carry0 h.1 hmb hx h.2.2.2.1.2.2.1 (by omega) hkd k2).weak (fun r G hG => ?_)
  obtain ⟨g', h1, h2, rfl⟩ := hG
  have e := RF_ran (k := 3 + kd) (RF_ca (o := o) h.2 hmb hd hx hx0 hb) (by omega)
  refine ⟨_, h1, h2, ⟨h.1, ?_⟩, EqX.sA (S := fun n => n.1 = 41) (EqX.sA (S := fun n => n.1 = 41) EqX.rf rfl) rfl⟩
  have e2 : snd1 m true A x = tlA (aBk A (puB (aB A) (nI x) ((A.1 m).2.2 31 x) ((A.1 m).2.2 32 x) ((A.1 m).2.2 35 x))) (nI (3 + kd)) := by
    unfold snd1
    rw [if_pos rfl, ← tl_ix k1, ← k3]
  rw [e2]
  exact e
def elb (f : Nat → Int32) (t : Nat → Int32) (m x : Nat) : Prop := ¬ f (nw m x) = 0 ∧ f (nw m x + 2) < nI 8 ∧ t x = 0
def lsI (f : Nat → Int32) (t : Nat → Int32) (m i : Nat) (v : Int32) : Prop := (v = -1 ∧ ∀ x, x < i → ¬ elb f t m x) ∨ ∃ b, b < i ∧ v = nI b ∧ elb f t m b ∧ ∀ x, x < i → elb f t m x → x = b ∨ ltp (fun y => f (nw m y + 2)) b x
theorem lsI_no {f t : Nat → Int32} {m i : Nat} {v : Int32} (h : lsI f t m i v) (hn : ¬ elb f t m i) : lsI f t m (i + 1) v := by
  rcases h with ⟨a, b⟩ | ⟨b, h1, h2, h3, h4⟩
  · refine Or.inl ⟨a, fun x hx => ?_⟩
    by_cases e : x = i
    · subst e; exact hn
    · exact b x (by omega)
  · refine Or.inr ⟨b, by omega, h2, h3, fun x hx hq => ?_⟩
    by_cases e : x = i
    · subst e; exact absurd hq hn
    · exact h4 x (by omega) hq
theorem lsI_first {f t : Nat → Int32} {m i : Nat} {v : Int32} (h : lsI f t m i v) (hv : v < 0) (hi : i < 2 ^ 31) (hy : elb f t m i) : lsI f t m (i + 1) (nI i) := by
  rcases h with ⟨a, b⟩ | ⟨b, h1, h2, -⟩
  · refine Or.inr ⟨i, by omega, rfl, hy, fun x hx hq => ?_⟩
    by_cases e : x = i
    · exact Or.inl e
    · exact absurd hq (b x (by omega))
  · rw [h2] at hv
    exact absurd hv (nI_pos (by omega))
theorem lsI_less {f t : Nat → Int32} {m i b : Nat} (h : lsI f t m i (nI b)) (hi : i < 2 ^ 31) (hb : b < 2 ^ 31) (hy : elb f t m i) (hl : f (nw m i + 2) < f (nw m b + 2)) : lsI f t m (i + 1) (nI i) := by
  rcases h with ⟨a, -⟩ | ⟨b', h1, h2, h3, h4⟩
  · exact absurd a (oI_some_ne hb)
  · have e := eqT h2 hb (by omega)
    subst e
    refine Or.inr ⟨i, by omega, rfl, hy, fun x hx hq => ?_⟩
    by_cases e : x = i
    · exact Or.inl e
    · have hib : ltp (fun y => f (nw m y + 2)) i b := Or.inl hl
      rcases h4 x (by omega) hq with e2 | e2
      · rw [e2]; exact Or.inr hib
      · exact Or.inr (ltp_tr hib e2)
theorem lsI_keep2 {f t : Nat → Int32} {m i b : Nat} (h : lsI f t m i (nI b)) (hb : b < 2 ^ 31) (hi : i < 2 ^ 31) (hl : ¬ f (nw m i + 2) < f (nw m b + 2)) : lsI f t m (i + 1) (nI b) := by
  rcases h with ⟨a, -⟩ | ⟨b', h1, h2, h3, h4⟩
  · exact absurd a (oI_some_ne hb)
  · have e := eqT h2 hb (by omega)
    subst e
    refine Or.inr ⟨b, by omega, rfl, h3, fun x hx hq => ?_⟩
    by_cases e : x = i
    · subst e
      exact Or.inr (ltp_new (T := fun y => f (nw m y + 2)) h1 hl)
    · exact h4 x (by omega) hq
set_option maxRecDepth 20000 in
set_option maxHeartbeats 4000000 in
theorem l_least {ad : Nm → Nat} {g : Sg} {m : Nat} (hm : al g (40, 0, 0)) (hmb : m < 64) : ∀ (j i : Nat) (v : Int32), 64 - i < j → i ≤ 64 → lsI (gA g (41, 0, 0)) (gA g (49, 0, 0)) m i v → ∀ y z, PS mX7_leastTold 4 [some (.ref (ad (40, 0, 0))), some (.int (nI m)), some (.int v), some (.int (nI i)), y, z] [] ad g (Ri (fun v g' => lsI (gA g (41, 0, 0)) (gA g (49, 0, 0)) m 64 v ∧ g' = g)) := by
  intro j
  induction j with
  | zero => intro i v h; omega
  | succ j ih =>
    intro i v hij hik hI y z
    refine pp_iload_n dX7_leastTold_4 rfl (q := 5) rfl ?_
    refine pp_bipush dX7_leastTold_5 cb_64 (q := 7) rfl ?_
    refine pp_icmp_ge (tgt := 98) dX7_leastTold_7 (by decide) (q := 10) rfl (fun c7 => ?_) (fun c7 => ?_)
    · have e : i = 64 := by have := leT c7 (by decide) (by omega); omega
      subst e
      refine pp_iload_n dX7_leastTold_98 rfl (q := 99) rfl ?_
      exact ri_ret dX7_leastTold_99 rfl rfl ⟨hI, rfl⟩
    · have hi := leF c7 (by decide) (by omega)
      refine pp_iload_n dX7_leastTold_10 rfl (q := 11) rfl ?_
      refine pp_iload_n dX7_leastTold_11 rfl (q := 12) rfl ?_
      refine ps_callSi dX7_leastTold_12 lk_X7_44 (by rfl) m_newsAt (by rfl) (by exact Nat.le_of_ble_eq_true rfl) (by decide) (by decide) (by exact Nat.le_of_ble_eq_true rfl) (q := 15) rfl (fun r12 g12 h12 => ?_)
      obtain ⟨rfl, rfl⟩ := And.intro h12.1.symm h12.2.symm
      refine pp_istore dX7_leastTold_15 (by decide) (ls1_4 (nl1 rfl)) (q := 17) rfl ?_
      refine pp_aload_n dX7_leastTold_17 rfl isRf_r (q := 18) rfl ?_
      refine ps_get dX7_leastTold_18 fl_X7_8 hm rfl rfl (q := 21) rfl ?_
      refine pp_iload dX7_leastTold_21 rfl (q := 23) rfl ?_
      refine ps_iald (j := nw m i) dX7_leastTold_23 hm rfl rfl (by unfold nw; omega) (by decide) (q := 24) rfl ?_
      refine pp_if_eq (tgt := 54) dX7_leastTold_24 (by decide) (q := 27) rfl (fun c24 => ?_) (fun c24 => ?_)
      · have hn : ¬ elb (gA g (41, 0, 0)) (gA g (49, 0, 0)) m i := fun q => q.1 c24
        refine pp_iconst dX7_leastTold_54 ci_0 (q := 55) rfl ?_
        refine pp_istore dX7_leastTold_55 (by decide) (ls1_5 (nl1 rfl)) (q := 57) rfl ?_
        refine pp_iload dX7_leastTold_57 rfl (q := 59) rfl ?_
        refine pp_if_eq (tgt := 92) dX7_leastTold_59 (by decide) (q := 62) rfl (fun c59 => ?_) (fun c59 => absurd rfl c59)
        refine pp_iinc dX7_leastTold_92 rfl (nI_1 _) (ls1_3 (nl1 rfl)) (q := 95) rfl ?_
        refine pp_goto (tgt := 4) dX7_leastTold_95 (by decide) ?_
        first | exact ih (i + 1) _ (by omega) (by omega) hI2 _ _ | exact ih (i + 1) _ (by omega) (by omega) (lsI_no hI hn) _ _
      · refine pp_aload_n dX7_leastTold_27 rfl isRf_r (q := 28) rfl ?_
        refine ps_get dX7_leastTold_28 fl_X7_8 hm rfl rfl (q := 31) rfl ?_
        refine pp_iload dX7_leastTold_31 rfl (q := 33) rfl ?_
        refine pp_iconst dX7_leastTold_33 ci_2 (q := 34) rfl ?_
        refine pp_iadd dX7_leastTold_34 (q := 35) rfl ?_
        try rw [nI_add]
        refine ps_iald dX7_leastTold_35 hm rfl rfl (by unfold nw; omega) (by decide) (q := 36) rfl ?_
        refine pp_bipush dX7_leastTold_36 cb_8 (q := 38) rfl ?_
        refine pp_icmp_ge (tgt := 54) dX7_leastTold_38 (by decide) (q := 41) rfl (fun c38 => ?_) (fun c38 => ?_)
        · have hn : ¬ elb (gA g (41, 0, 0)) (gA g (49, 0, 0)) m i := fun q => absurd q.2.1 (Int32.not_lt.mpr c38)
          refine pp_iconst dX7_leastTold_54 ci_0 (q := 55) rfl ?_
          refine pp_istore dX7_leastTold_55 (by decide) (ls1_5 (nl1 rfl)) (q := 57) rfl ?_
          refine pp_iload dX7_leastTold_57 rfl (q := 59) rfl ?_
          refine pp_if_eq (tgt := 92) dX7_leastTold_59 (by decide) (q := 62) rfl (fun c59 => ?_) (fun c59 => absurd rfl c59)
          refine pp_iinc dX7_leastTold_92 rfl (nI_1 _) (ls1_3 (nl1 rfl)) (q := 95) rfl ?_
          refine pp_goto (tgt := 4) dX7_leastTold_95 (by decide) ?_
          first | exact ih (i + 1) _ (by omega) (by omega) hI2 _ _ | exact ih (i + 1) _ (by omega) (by omega) (lsI_no hI hn) _ _
        · refine pp_aload_n dX7_leastTold_41 rfl isRf_r (q := 42) rfl ?_
          refine ps_get dX7_leastTold_42 fl_X7_36 hm rfl rfl (q := 45) rfl ?_
          refine pp_iload_n dX7_leastTold_45 rfl (q := 46) rfl ?_
          refine ps_zald (j := i) dX7_leastTold_46 hm rfl rfl hi (by decide) (q := 47) rfl ?_
          refine pp_if_ne (tgt := 54) dX7_leastTold_47 (by decide) (q := 50) rfl (fun c47 => ?_) (fun c47 => ?_)
          · have hn : ¬ elb (gA g (41, 0, 0)) (gA g (49, 0, 0)) m i := fun q => c47 q.2.2
            refine pp_iconst dX7_leastTold_54 ci_0 (q := 55) rfl ?_
            refine pp_istore dX7_leastTold_55 (by decide) (ls1_5 (nl1 rfl)) (q := 57) rfl ?_
            refine pp_iload dX7_leastTold_57 rfl (q := 59) rfl ?_
            refine pp_if_eq (tgt := 92) dX7_leastTold_59 (by decide) (q := 62) rfl (fun c59 => ?_) (fun c59 => absurd rfl c59)
            refine pp_iinc dX7_leastTold_92 rfl (nI_1 _) (ls1_3 (nl1 rfl)) (q := 95) rfl ?_
            refine pp_goto (tgt := 4) dX7_leastTold_95 (by decide) ?_
            first | exact ih (i + 1) _ (by omega) (by omega) hI2 _ _ | exact ih (i + 1) _ (by omega) (by omega) (lsI_no hI hn) _ _
          · have hy : elb (gA g (41, 0, 0)) (gA g (49, 0, 0)) m i := ⟨c24, Int32.not_le.mp c38, c47⟩
            refine pp_iconst dX7_leastTold_50 ci_1 (q := 51) rfl ?_
            refine pp_goto (tgt := 55) dX7_leastTold_51 (by decide) ?_
            refine pp_istore dX7_leastTold_55 (by decide) (ls1_5 (nl1 rfl)) (q := 57) rfl ?_
            refine pp_iload dX7_leastTold_57 rfl (q := 59) rfl ?_
            refine pp_if_eq (tgt := 92) dX7_leastTold_59 (by decide) (q := 62) rfl (fun c59 => absurd c59 nI1_ne) (fun c59 => ?_)
            refine pp_iload_n dX7_leastTold_62 rfl (q := 63) rfl ?_
            refine pp_if_lt (tgt := 90) dX7_leastTold_63 (by decide) (q := 66) rfl (fun c63 => ?_) (fun c63 => ?_)
            · have hI2 := lsI_first hI c63 (by omega) hy
              refine pp_iload_n dX7_leastTold_90 rfl (q := 91) rfl ?_
              refine pp_istore_n dX7_leastTold_91 (by decide) (ls1_2 (nl1 rfl)) (q := 92) rfl ?_
              refine pp_iinc dX7_leastTold_92 rfl (nI_1 _) (ls1_3 (nl1 rfl)) (q := 95) rfl ?_
              refine pp_goto (tgt := 4) dX7_leastTold_95 (by decide) ?_
              first | exact ih (i + 1) _ (by omega) (by omega) hI2 _ _ | exact ih (i + 1) _ (by omega) (by omega) (lsI_no hI hn) _ _
            · obtain ⟨b, hb, hbl⟩ : ∃ b, v = nI b ∧ b < 64 := by
                rcases hI with ⟨a, -⟩ | ⟨b, h1, h2, -⟩
                · exact absurd (by rw [a]; decide) c63
                · exact ⟨b, h2, by omega⟩
              subst hb
              refine pp_aload_n dX7_leastTold_66 rfl isRf_r (q := 67) rfl ?_
              refine ps_get dX7_leastTold_67 fl_X7_8 hm rfl rfl (q := 70) rfl ?_
              refine pp_iload dX7_leastTold_70 rfl (q := 72) rfl ?_
              refine pp_iconst dX7_leastTold_72 ci_2 (q := 73) rfl ?_
              refine pp_iadd dX7_leastTold_73 (q := 74) rfl ?_
              try rw [nI_add]
              refine ps_iald dX7_leastTold_74 hm rfl rfl (by unfold nw; omega) (by decide) (q := 75) rfl ?_
              refine pp_aload_n dX7_leastTold_75 rfl isRf_r (q := 76) rfl ?_
              refine ps_get dX7_leastTold_76 fl_X7_8 hm rfl rfl (q := 79) rfl ?_
              refine pp_iload_n dX7_leastTold_79 rfl (q := 80) rfl ?_
              refine pp_iload_n dX7_leastTold_80 rfl (q := 81) rfl ?_
              refine ps_callSi dX7_leastTold_81 lk_X7_44 (by rfl) m_newsAt (by rfl) (by exact Nat.le_of_ble_eq_true rfl) (by decide) (by decide) (by exact Nat.le_of_ble_eq_true rfl) (q := 84) rfl (fun r81 g81 h81 => ?_)
              obtain ⟨rfl, rfl⟩ := And.intro h81.1.symm h81.2.symm
              refine pp_iconst dX7_leastTold_84 ci_2 (q := 85) rfl ?_
              refine pp_iadd dX7_leastTold_85 (q := 86) rfl ?_
              try rw [nI_add]
              refine ps_iald dX7_leastTold_86 hm rfl rfl (by unfold nw; omega) (by decide) (q := 87) rfl ?_
              refine pp_icmp_ge (tgt := 92) dX7_leastTold_87 (by decide) (q := 90) rfl (fun c87 => ?_) (fun c87 => ?_)
              · have hI2 := lsI_keep2 hI (by omega) (by omega) (Int32.not_lt.mpr c87)
                refine pp_iinc dX7_leastTold_92 rfl (nI_1 _) (ls1_3 (nl1 rfl)) (q := 95) rfl ?_
                refine pp_goto (tgt := 4) dX7_leastTold_95 (by decide) ?_
                first | exact ih (i + 1) _ (by omega) (by omega) hI2 _ _ | exact ih (i + 1) _ (by omega) (by omega) (lsI_no hI hn) _ _
              · have hI2 := lsI_less hI (by omega) (by omega) hy (Int32.not_le.mp c87)
                refine pp_iload_n dX7_leastTold_90 rfl (q := 91) rfl ?_
                refine pp_istore_n dX7_leastTold_91 (by decide) (ls1_2 (nl1 rfl)) (q := 92) rfl ?_
                refine pp_iinc dX7_leastTold_92 rfl (nI_1 _) (ls1_3 (nl1 rfl)) (q := 95) rfl ?_
                refine pp_goto (tgt := 4) dX7_leastTold_95 (by decide) ?_
                first | exact ih (i + 1) _ (by omega) (by omega) hI2 _ _ | exact ih (i + 1) _ (by omega) (by omega) (lsI_no hI hn) _ _
set_option maxRecDepth 20000 in
set_option maxHeartbeats 4000000 in
theorem m_least {ad : Nm → Nat} {g : Sg} {m : Nat} (hm : al g (40, 0, 0)) (hmb : m < 64) : PS mX7_leastTold 0 (ent mX7_leastTold [.ref (ad (40, 0, 0)), .int (nI m)]) [] ad g (Ri (fun v g' => lsI (gA g (41, 0, 0)) (gA g (49, 0, 0)) m 64 v ∧ g' = g)) := by
  show PP mX7_leastTold 0 [some (.ref (ad (40, 0, 0))), some (.int (nI m)), none, none, none, none] [] (Rel ad g) _
  refine pp_iconst dX7_leastTold_0 ci_m1 (q := 1) rfl ?_
  refine pp_istore_n dX7_leastTold_1 (by decide) (ls1_2 (nl1 rfl)) (q := 2) rfl ?_
  refine pp_iconst dX7_leastTold_2 ci_0 (q := 3) rfl ?_
  refine pp_istore_n dX7_leastTold_3 (by decide) (ls1_3 (nl1 rfl)) (q := 4) rfl ?_
  exact l_least hm hmb 65 0 (-1) (by omega) (by omega) (Or.inl ⟨rfl, fun x hx => absurd hx (Nat.not_lt_zero x)⟩) _ _
