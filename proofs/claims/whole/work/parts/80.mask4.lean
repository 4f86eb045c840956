theorem vaC_0 {F T : Nat → Int32} {f t : Nat} : va_cpy F T f t 0 = T := by
  funext k
  unfold va_cpy
  rw [if_neg (by omega)]
theorem vaC_s {F T : Nat → Int32} {f t i : Nat} : upd (va_cpy F T f t i) (t + i) (F (f + i)) = va_cpy F T f t (i + 1) := by
  funext k
  unfold upd va_cpy
  by_cases h1 : k = t + i
  · subst h1
    rw [if_pos rfl, if_pos (by omega)]
    congr 1
    omega
  · rw [if_neg h1]
    by_cases h2 : t ≤ k ∧ k < t + i
    · rw [if_pos h2, if_pos (by omega)]
    · rw [if_neg h2, if_neg (by omega)]
theorem lN_toI {n : Nat} (h : n < 8589934592) : (lN n).toInt = (n : Int) := Int64.toInt_ofNat_of_lt (by omega)
theorem lN_ltB {a b : Nat} (ha : a < 8589934592) (hb : b < 8589934592) : lN a < lN b ↔ a < b := by
  rw [Int64.lt_iff_toInt_lt, lN_toI ha, lN_toI hb]
  exact Int.ofNat_lt
theorem spc_no {S : CS} {k : Nat} {m fr n to : Int32} (h : qCopy (runA (sH S)) m fr n to = .inl k) (hc : ¬ cpS (runA (sH S)) m fr n to) : spCopy m fr n to S = rfS S k := by
  unfold spCopy cpT
  rw [h, cIf_f hc]
  rfl
theorem RR_t {g g' : Sg} {S : CS} {T : Nat → Int32} (hR : RR g S) (h : EqX (fun n => n = (45, 0, 0)) g g') (hT : ∀ i, i < 16 → gA g' (45, 0, 0) i = T i) : RR g' (stT S T) := by
  obtain ⟨r1, r2, r3, r4, ⟨r5, r6, r7⟩, r8⟩ := hR
  have q : ∀ k, k ≠ 45 → ¬ ((k, 0, 0) : Nm) = (45, 0, 0) := fun k hk q => hk (congrArg (fun z => z.1) q)
  refine ⟨EqX.rs h (fun n q => by subst q; exact ⟨by decide, by decide⟩) r1, ?_, fun k hk => ?_, ?_, ?_, hT⟩
  · show RK g' (sK S)
    unfold RK at r2 ⊢
    rw [(h.1 _ (q 40 (by omega))).1]
    revert r2
    cases sK S with
    | none => intro r2; exact r2
    | some K => intro r2; exact ⟨r2.1, by rw [(h.1 _ (q 42 (by omega))).2.2.1, (h.1 _ (q 44 (by omega))).2.2.2]; exact r2.2⟩
  · rw [(h.1 _ (q 47 (by omega))).2.2.1]; exact r3 k hk
  · rw [(h.1 _ (q 40 (by omega))).1]; exact r4
  · rw [(h.1 _ (q 40 (by omega))).1, (h.1 _ (q 46 (by omega))).2.2.1]; exact ⟨r5, r6, r7⟩
set_option maxRecDepth 20000 in
set_option maxHeartbeats 4000000 in
theorem s_cop {ad : Nm → Nat} {g : Sg} {m f c t i : Nat} {Q : Option Value → PH → Prop} (hm : al g (40, 0, 0)) (hmb : m < 64) (hf : f + c ≤ 64) (ht : t + c ≤ 16) (hi : i < c) (hk : PP mX7_copy 88 [some (.ref (ad (40, 0, 0))), some (.int (nI m)), some (.int (nI f)), some (.int (nI c)), some (.int (nI t)), some (.int (nI (i + 1)))] [] (Rel ad (sA g (45, 0, 0) (upd (gA g (45, 0, 0)) (t + i) (gA g (41, 0, 0) (20928 + 64 * m + f + i))))) Q) : PP mX7_copy 88 [some (.ref (ad (40, 0, 0))), some (.int (nI m)), some (.int (nI f)), some (.int (nI c)), some (.int (nI t)), some (.int (nI i))] [] (Rel ad g) Q := by
  refine pp_iload dX7_copy_88 rfl (q := 90) rfl ?_
  refine pp_iload_n dX7_copy_90 rfl (q := 91) rfl ?_
  refine pp_icmp_ge (tgt := 128) dX7_copy_91 (by decide) (q := 94) rfl (fun c91 => absurd c91 (nI_ge hi (by omega))) (fun c91 => ?_)
  refine pp_aload_n dX7_copy_94 rfl isRf_r (q := 95) rfl ?_
  refine ps_get dX7_copy_95 fl_X7_24 hm rfl rfl (q := 98) rfl ?_
  refine pp_iload dX7_copy_98 rfl (q := 100) rfl ?_
  refine pp_iload dX7_copy_100 rfl (q := 102) rfl ?_
  refine pp_iadd dX7_copy_102 (q := 103) rfl ?_
  try rw [nI_add]
  refine pp_aload_n dX7_copy_103 rfl isRf_r (q := 104) rfl ?_
  refine ps_get dX7_copy_104 fl_X7_8 hm rfl rfl (q := 107) rfl ?_
  refine pp_sipush dX7_copy_107 cs_20928 (q := 110) rfl ?_
  refine pp_bipush dX7_copy_110 cb_64 (q := 112) rfl ?_
  refine pp_iload_n dX7_copy_112 rfl (q := 113) rfl ?_
  refine pp_imul dX7_copy_113 (q := 114) rfl ?_
  try rw [pk_mul]
  refine pp_iadd dX7_copy_114 (q := 115) rfl ?_
  try rw [nI_add]
  refine pp_iload_n dX7_copy_115 rfl (q := 116) rfl ?_
  refine pp_iadd dX7_copy_116 (q := 117) rfl ?_
  try rw [nI_add]
  refine pp_iload dX7_copy_117 rfl (q := 119) rfl ?_
  refine pp_iadd dX7_copy_119 (q := 120) rfl ?_
  try rw [nI_add]
  refine ps_iald (j := 20928 + 64 * m + f + i) dX7_copy_120 hm rfl rfl (by omega) (by decide) (q := 121) rfl ?_
  refine ps_iast (j := t + i) dX7_copy_121 hm (fun _ => rfl) rfl (by show t + i < 16; omega) (by decide) (q := 122) rfl ?_
  refine pp_iinc dX7_copy_122 rfl (nI_1 _) (ls1_5 (nl1 rfl)) (q := 125) rfl ?_
  refine pp_goto (tgt := 88) dX7_copy_125 (by decide) ?_
  exact hk
theorem l_cop {ad : Nm → Nat} {g : Sg} {m f c t : Nat} (hm : al g (40, 0, 0)) (hmb : m < 64) (hf : f + c ≤ 64) (ht : t + c ≤ 16) : ∀ (j i : Nat) (g' : Sg), c - i < j → i ≤ c → EqX (fun n => n = (45, 0, 0)) g g' → gA g' (45, 0, 0) = va_cpy (fun j => gA g (41, 0, 0) (20928 + 64 * m + j)) (gA g (45, 0, 0)) f t i → PS mX7_copy 88 [some (.ref (ad (40, 0, 0))), some (.int (nI m)), some (.int (nI f)), some (.int (nI c)), some (.int (nI t)), some (.int (nI i))] [] ad g' (Ri (fun v g' => v = nI c ∧ EqX (fun n => n = (45, 0, 0)) g g' ∧ gA g' (45, 0, 0) = va_cpy (fun j => gA g (41, 0, 0) (20928 + 64 * m + j)) (gA g (45, 0, 0)) f t c)) := by
  intro j
  induction j with
  | zero => intro i g' h; omega
  | succ j ih =>
    intro i g' hij hik hX hG
    have hm' : al g' (40, 0, 0) := hX.al' hm
    have h41 : gA g' (41, 0, 0) = gA g (41, 0, 0) := (hX.1 (41, 0, 0) (by decide)).2.2.1
    by_cases e : i = c
    · subst e
      have hm := hm'
      refine pp_iload dX7_copy_88 rfl (q := 90) rfl ?_
      refine pp_iload_n dX7_copy_90 rfl (q := 91) rfl ?_
      refine pp_icmp_ge (tgt := 128) dX7_copy_91 (by decide) (q := 94) rfl (fun c91 => ?_) (fun c91 => absurd (Int32.le_refl _) c91)
      refine pp_iload_n dX7_copy_128 rfl (q := 129) rfl ?_
      refine ri_ret dX7_copy_129 rfl rfl ?_
      exact ⟨rfl, hX, hG⟩
    · refine s_cop hm' hmb hf ht (by omega) (ih (i + 1) _ (by omega) (by omega) (hX.sA rfl) ?_)
      show upd (gA g' (45, 0, 0)) (t + i) _ = _
      rw [h41, hG, Nat.add_assoc (20928 + 64 * m) f i]
      exact vaC_s (F := (fun j => gA g (41, 0, 0) (20928 + 64 * m + j)))
theorem nI_nl2 {n : Nat} (h : n < 2 ^ 31) : ¬ nI n < 0 := nI_pos (by omega)
set_option maxRecDepth 20000 in
set_option maxHeartbeats 4000000 in
theorem m_copy {ad : Nm → Nat} {g : Sg} {S : CS} {a b c d : Int32} (hR : RR g S) (hH : okH (sH S)) : PS mX7_copy 0 (ent mX7_copy [.ref (ad (40, 0, 0)), .int a, .int b, .int c, .int d]) [] ad g (MdQ g (spCopy a b c d S)) := by
  have h := hR.1
  have hI := inv_run hH
  have hn := okH_len hH
  show PP mX7_copy 0 [some (.ref (ad (40, 0, 0))), some (.int a), some (.int b), some (.int c), some (.int d), none] [] (Rel ad g) _
  refine pp_iload_n dX7_copy_0 rfl (q := 1) rfl ?_
  refine ps_callSi dX7_copy_1 lk_X7_121 (by rfl) m_isMem (by rfl) (by exact Nat.le_of_ble_eq_true rfl) (by decide) (by decide) (by exact Nat.le_of_ble_eq_true rfl) (q := 4) rfl (fun r1 g1 h1 => ?_)
  obtain ⟨hb1, rfl⟩ := And.intro h1.1 h1.2.symm
  refine pp_if_ne (tgt := 14) dX7_copy_4 (by decide) (q := 7) rfl (fun c4 => ?_) (fun c4 => ?_)
  · obtain ⟨m, hm, rfl⟩ := isB_t hb1 c4
    refine pp_aload_n dX7_copy_14 rfl isRf_r (q := 15) rfl ?_
    refine pp_iload_n dX7_copy_15 rfl (q := 16) rfl ?_
    refine ps_callVi dX7_copy_16 lk_X7_125 (by exact h.1) (by rfl) (by rfl) (by rfl) (m_made h hI hm) (by rfl) (by exact Nat.le_of_ble_eq_true rfl) (by decide) (by decide) (by exact Nat.le_of_ble_eq_true rfl) (q := 19) rfl (fun r16 g16 h16 => ?_)
    obtain ⟨hb16, rfl⟩ := And.intro h16.1 h16.2.symm
    refine pp_if_ne (tgt := 29) dX7_copy_19 (by decide) (q := 22) rfl (fun c19 => ?_) (fun c19 => ?_)
    · have hd := isB_t hb16 c19
      refine pp_iload_n dX7_copy_29 rfl (q := 30) rfl ?_
      refine pp_if_ge (tgt := 40) dX7_copy_30 (by decide) (q := 33) rfl (fun c30 => ?_) (fun c30 => ?_)
      · obtain ⟨n, hc, rfl⟩ := nI_of (Int32.not_lt.mpr c30)
        refine pp_iload_n dX7_copy_40 rfl (q := 41) rfl ?_
        refine pp_if_lt (tgt := 78) dX7_copy_41 (by decide) (q := 44) rfl (fun c41 => ?_) (fun c41 => ?_)
        · skip
          refine pp_aload_n dX7_copy_78 rfl isRf_r (q := 79) rfl ?_
          refine pp_bipush dX7_copy_79 cb_m6 (q := 81) rfl ?_
          refine ps_callVi dX7_copy_81 lk_X7_132 (by exact h.1) (by rfl) (by rfl) (by rfl) (m_no6 h.1) (by rfl) (by exact Nat.le_of_ble_eq_true rfl) (by decide) (by decide) (by exact Nat.le_of_ble_eq_true rfl) (q := 84) rfl (fun r81 g81 h81 => ?_)
          obtain ⟨rfl, rfl⟩ := And.intro h81.1.symm h81.2.symm
          refine ri_ret dX7_copy_84 rfl rfl ?_
          first
            | exact mq_no hR (by unfold isW; omega) (spc_no (by unfold qCopy; rw [qM_ok hm hd, cIf_f (nI_nl2 hc), cIf_f (fun q => absurd c41 q.1)]) (fun q => absurd q.2.2 (fun q => absurd c41 q.1)))
            | exact mq_no hR (by unfold isW; omega) (spc_no (by unfold qCopy; rw [qM_ok hm hd, cIf_f (nI_nl2 hc), cIf_f (fun q => absurd c46 q.2.1)]) (fun q => absurd q.2.2 (fun q => absurd c46 q.2.1)))
            | exact mq_no hR (by unfold isW; omega) (spc_no (by unfold qCopy; rw [qM_ok hm hd, cIf_f (nI_nl2 hc), cIf_f (fun q => absurd (by have := q.2.2.1; rw [cl_nI (n := m) (by omega), hL, cl_nI hf, cl_nI hc, cl_nI (by omega)] at this; exact this) hfl)]) (fun q => absurd q.2.2 (fun q => absurd (by have := q.2.2.1; rw [cl_nI (n := m) (by omega), hL, cl_nI hf, cl_nI hc, cl_nI (by omega)] at this; exact this) hfl)))
            | exact mq_no hR (by unfold isW; omega) (spc_no (by unfold qCopy; rw [qM_ok hm hd, cIf_f (nI_nl2 hc), cIf_f (fun q => absurd (by have := q.2.2.2; rw [cl_nI ht, cl_nI hc] at this; exact this) htl)]) (fun q => absurd q.2.2 (fun q => absurd (by have := q.2.2.2; rw [cl_nI ht, cl_nI hc] at this; exact this) htl)))
        · obtain ⟨f, hf, rfl⟩ := nI_of c41
          refine pp_iload dX7_copy_44 rfl (q := 46) rfl ?_
          refine pp_if_lt (tgt := 78) dX7_copy_46 (by decide) (q := 49) rfl (fun c46 => ?_) (fun c46 => ?_)
          · skip
            refine pp_aload_n dX7_copy_78 rfl isRf_r (q := 79) rfl ?_
            refine pp_bipush dX7_copy_79 cb_m6 (q := 81) rfl ?_
            refine ps_callVi dX7_copy_81 lk_X7_132 (by exact h.1) (by rfl) (by rfl) (by rfl) (m_no6 h.1) (by rfl) (by exact Nat.le_of_ble_eq_true rfl) (by decide) (by decide) (by exact Nat.le_of_ble_eq_true rfl) (q := 84) rfl (fun r81 g81 h81 => ?_)
            obtain ⟨rfl, rfl⟩ := And.intro h81.1.symm h81.2.symm
            refine ri_ret dX7_copy_84 rfl rfl ?_
            first
              | exact mq_no hR (by unfold isW; omega) (spc_no (by unfold qCopy; rw [qM_ok hm hd, cIf_f (nI_nl2 hc), cIf_f (fun q => absurd c41 q.1)]) (fun q => absurd q.2.2 (fun q => absurd c41 q.1)))
              | exact mq_no hR (by unfold isW; omega) (spc_no (by unfold qCopy; rw [qM_ok hm hd, cIf_f (nI_nl2 hc), cIf_f (fun q => absurd c46 q.2.1)]) (fun q => absurd q.2.2 (fun q => absurd c46 q.2.1)))
              | exact mq_no hR (by unfold isW; omega) (spc_no (by unfold qCopy; rw [qM_ok hm hd, cIf_f (nI_nl2 hc), cIf_f (fun q => absurd (by have := q.2.2.1; rw [cl_nI (n := m) (by omega), hL, cl_nI hf, cl_nI hc, cl_nI (by omega)] at this; exact this) hfl)]) (fun q => absurd q.2.2 (fun q => absurd (by have := q.2.2.1; rw [cl_nI (n := m) (by omega), hL, cl_nI hf, cl_nI hc, cl_nI (by omega)] at this; exact this) hfl)))
              | exact mq_no hR (by unfold isW; omega) (spc_no (by unfold qCopy; rw [qM_ok hm hd, cIf_f (nI_nl2 hc), cIf_f (fun q => absurd (by have := q.2.2.2; rw [cl_nI ht, cl_nI hc] at this; exact this) htl)]) (fun q => absurd q.2.2 (fun q => absurd (by have := q.2.2.2; rw [cl_nI ht, cl_nI hc] at this; exact this) htl)))
          · obtain ⟨t, ht, rfl⟩ := nI_of c46
            refine pp_iload_n dX7_copy_49 rfl (q := 50) rfl ?_
            refine pp_i2l dX7_copy_50 (q := 51) rfl ?_
            refine pp_iload_n dX7_copy_51 rfl (q := 52) rfl ?_
            refine pp_i2l dX7_copy_52 (q := 53) rfl ?_
            refine pp_ladd dX7_copy_53 (q := 54) rfl ?_
            refine pp_aload_n dX7_copy_54 rfl isRf_r (q := 55) rfl ?_
            refine pp_iload_n dX7_copy_55 rfl (q := 56) rfl ?_
            refine pp_iconst dX7_copy_56 ci_5 (q := 57) rfl ?_
            refine ps_callVi dX7_copy_57 lk_X7_48 (by exact h.1) (by rfl) (by rfl) (by rfl) (m_of h.1 hm (by omega)) (by rfl) (by exact Nat.le_of_ble_eq_true rfl) (by decide) (by decide) (by exact Nat.le_of_ble_eq_true rfl) (q := 60) rfl (fun r57 g57 h57 => ?_)
            obtain ⟨rfl, rfl⟩ := And.intro h57.1.symm h57.2.symm
            obtain ⟨L, q9, hL, hL64, -⟩ := (hI.m hm hd).2.2.2.2.1
            rw [show gA g (41, 0, 0) (7 * m + 5) = nI L from (h.2.o hm hd).1.2.2.2.2.2.1.trans hL]
            refine pp_i2l dX7_copy_60 (q := 61) rfl ?_
            refine pp_lcmp dX7_copy_61 (q := 62) rfl ?_
            refine pp_if_gt (tgt := 78) dX7_copy_62 (by decide) (q := 65) rfl (fun c62 => ?_) (fun c62 => ?_)
            · have hfl : ¬ f + n ≤ L := by
                have q := cmp_gt.mp c62
                rw [nI_l (n := f) hf, nI_l (n := n) hc, nI_l (n := L) (by omega), lN_add, lN_ltB (by omega) (by omega)] at q
                omega
              refine pp_aload_n dX7_copy_78 rfl isRf_r (q := 79) rfl ?_
              refine pp_bipush dX7_copy_79 cb_m6 (q := 81) rfl ?_
              refine ps_callVi dX7_copy_81 lk_X7_132 (by exact h.1) (by rfl) (by rfl) (by rfl) (m_no6 h.1) (by rfl) (by exact Nat.le_of_ble_eq_true rfl) (by decide) (by decide) (by exact Nat.le_of_ble_eq_true rfl) (q := 84) rfl (fun r81 g81 h81 => ?_)
              obtain ⟨rfl, rfl⟩ := And.intro h81.1.symm h81.2.symm
              refine ri_ret dX7_copy_84 rfl rfl ?_
              first
                | exact mq_no hR (by unfold isW; omega) (spc_no (by unfold qCopy; rw [qM_ok hm hd, cIf_f (nI_nl2 hc), cIf_f (fun q => absurd c41 q.1)]) (fun q => absurd q.2.2 (fun q => absurd c41 q.1)))
                | exact mq_no hR (by unfold isW; omega) (spc_no (by unfold qCopy; rw [qM_ok hm hd, cIf_f (nI_nl2 hc), cIf_f (fun q => absurd c46 q.2.1)]) (fun q => absurd q.2.2 (fun q => absurd c46 q.2.1)))
                | exact mq_no hR (by unfold isW; omega) (spc_no (by unfold qCopy; rw [qM_ok hm hd, cIf_f (nI_nl2 hc), cIf_f (fun q => absurd (by have := q.2.2.1; rw [cl_nI (n := m) (by omega), hL, cl_nI hf, cl_nI hc, cl_nI (by omega)] at this; exact this) hfl)]) (fun q => absurd q.2.2 (fun q => absurd (by have := q.2.2.1; rw [cl_nI (n := m) (by omega), hL, cl_nI hf, cl_nI hc, cl_nI (by omega)] at this; exact this) hfl)))
                | exact mq_no hR (by unfold isW; omega) (spc_no (by unfold qCopy; rw [qM_ok hm hd, cIf_f (nI_nl2 hc), cIf_f (fun q => absurd (by have := q.2.2.2; rw [cl_nI ht, cl_nI hc] at this; exact this) htl)]) (fun q => absurd q.2.2 (fun q => absurd (by have := q.2.2.2; rw [cl_nI ht, cl_nI hc] at this; exact this) htl)))
            · have hfl : f + n ≤ L := by
                refine Classical.byContradiction (fun q => c62 (cmp_gt.mpr ?_))
                rw [nI_l (n := f) hf, nI_l (n := n) hc, nI_l (n := L) (by omega), lN_add, lN_ltB (by omega) (by omega)]
                omega
              refine pp_iload dX7_copy_65 rfl (q := 67) rfl ?_
              refine pp_i2l dX7_copy_67 (q := 68) rfl ?_
              refine pp_iload_n dX7_copy_68 rfl (q := 69) rfl ?_
              refine pp_i2l dX7_copy_69 (q := 70) rfl ?_
              refine pp_ladd dX7_copy_70 (q := 71) rfl ?_
              refine pp_ldc2 (v := lN 16) dX7_copy_71 kc_X7_178 (q := 74) rfl ?_
              refine pp_lcmp dX7_copy_74 (q := 75) rfl ?_
              refine pp_if_le (tgt := 85) dX7_copy_75 (by decide) (q := 78) rfl (fun c75 => ?_) (fun c75 => ?_)
              · have htl : t + n ≤ 16 := by
                  refine Classical.byContradiction (fun q => Int32.not_lt.mpr c75 (cmp_gt.mpr ?_))
                  rw [nI_l (n := t) ht, nI_l (n := n) hc, lN_add, lN_ltB (by omega) (by omega)]
                  omega
                refine pp_iconst dX7_copy_85 ci_0 (q := 86) rfl ?_
                refine pp_istore dX7_copy_86 (by decide) (ls1_5 (nl1 rfl)) (q := 88) rfl ?_
                have hL' : (runA (sH S)).1 (cl (nI m)) = (runA (sH S)).1 m := by rw [cl_nI (by omega)]
                have hok : copOk ((runA (sH S)).1 (cl (nI m))) (nI f) (nI n) (nI t) := by
                  rw [hL']
                  exact ⟨(nI_nl2 hf), (nI_nl2 ht), by rw [hL, cl_nI hf, cl_nI hc, cl_nI (by omega)]; exact hfl, by rw [cl_nI ht, cl_nI hc]; exact htl⟩
                have hcS : cpS (runA (sH S)) (nI m) (nI f) (nI n) (nI t) := ⟨⟨m, hm, rfl, hd⟩, (nI_nl2 hc), hok⟩
                refine (l_cop h.1 hm (by omega) (by omega) (n + 1) 0 g (by omega) (by omega) EqX.rf (by rw [vaC_0])).weak (fun v G hG => ?_)
                obtain ⟨g1, k1, r, k2, k3, k4, k5⟩ := hG
                refine ⟨g1, k1, r, k2, ?_⟩
                unfold spCopy cpT
                rw [show qCopy (runA (sH S)) (nI m) (nI f) (nI n) (nI t) = .inr (nI n) from by unfold qCopy; rw [qM_ok hm hd, cIf_f (nI_nl2 hc), cIf_t hok], cIf_t hcS]
                refine ⟨k3, RR_t hR k4 (fun i hi => ?_), k4.mono (fun n q => by subst q; exact ⟨by decide, by decide⟩)⟩
                rw [k5, hL', cl_nI hf, cl_nI ht, cl_nI hc]
                unfold va_cpy
                by_cases e : t ≤ i ∧ i < t + n
                · rw [if_pos e, if_pos e]
                  exact (h.2.o hm hd).2.2.2 _ (by rw [hL, cl_nI (by omega)]; omega) (by omega)
                · rw [if_neg e, if_neg e]
                  exact hR.2.2.2.2.2 i hi
              · have htl : ¬ t + n ≤ 16 := by
                  have q := cmp_gt.mp (Int32.not_le.mp c75)
                  rw [nI_l (n := t) ht, nI_l (n := n) hc, lN_add, lN_ltB (by omega) (by omega)] at q
                  omega
                refine pp_aload_n dX7_copy_78 rfl isRf_r (q := 79) rfl ?_
                refine pp_bipush dX7_copy_79 cb_m6 (q := 81) rfl ?_
                refine ps_callVi dX7_copy_81 lk_X7_132 (by exact h.1) (by rfl) (by rfl) (by rfl) (m_no6 h.1) (by rfl) (by exact Nat.le_of_ble_eq_true rfl) (by decide) (by decide) (by exact Nat.le_of_ble_eq_true rfl) (q := 84) rfl (fun r81 g81 h81 => ?_)
                obtain ⟨rfl, rfl⟩ := And.intro h81.1.symm h81.2.symm
                refine ri_ret dX7_copy_84 rfl rfl ?_
                first
                  | exact mq_no hR (by unfold isW; omega) (spc_no (by unfold qCopy; rw [qM_ok hm hd, cIf_f (nI_nl2 hc), cIf_f (fun q => absurd c41 q.1)]) (fun q => absurd q.2.2 (fun q => absurd c41 q.1)))
                  | exact mq_no hR (by unfold isW; omega) (spc_no (by unfold qCopy; rw [qM_ok hm hd, cIf_f (nI_nl2 hc), cIf_f (fun q => absurd c46 q.2.1)]) (fun q => absurd q.2.2 (fun q => absurd c46 q.2.1)))
                  | exact mq_no hR (by unfold isW; omega) (spc_no (by unfold qCopy; rw [qM_ok hm hd, cIf_f (nI_nl2 hc), cIf_f (fun q => absurd (by have := q.2.2.1; rw [cl_nI (n := m) (by omega), hL, cl_nI hf, cl_nI hc, cl_nI (by omega)] at this; exact this) hfl)]) (fun q => absurd q.2.2 (fun q => absurd (by have := q.2.2.1; rw [cl_nI (n := m) (by omega), hL, cl_nI hf, cl_nI hc, cl_nI (by omega)] at this; exact this) hfl)))
                  | exact mq_no hR (by unfold isW; omega) (spc_no (by unfold qCopy; rw [qM_ok hm hd, cIf_f (nI_nl2 hc), cIf_f (fun q => absurd (by have := q.2.2.2; rw [cl_nI ht, cl_nI hc] at this; exact this) htl)]) (fun q => absurd q.2.2 (fun q => absurd (by have := q.2.2.2; rw [cl_nI ht, cl_nI hc] at this; exact this) htl)))
      · have hn0 : c < 0 := Int32.not_le.mp c30
        refine pp_aload_n dX7_copy_33 rfl isRf_r (q := 34) rfl ?_
        refine pp_bipush dX7_copy_34 cb_m4 (q := 36) rfl ?_
        refine ps_callVi dX7_copy_36 lk_X7_132 (by exact h.1) (by rfl) (by rfl) (by rfl) (m_no4 h.1) (by rfl) (by exact Nat.le_of_ble_eq_true rfl) (by decide) (by decide) (by exact Nat.le_of_ble_eq_true rfl) (q := 39) rfl (fun r36 g36 h36 => ?_)
        obtain ⟨rfl, rfl⟩ := And.intro h36.1.symm h36.2.symm
        refine ri_ret dX7_copy_39 rfl rfl ?_
        exact mq_no hR (by unfold isW; omega) (spc_no (by unfold qCopy; rw [qM_ok hm hd, cIf_t hn0]) (fun q => q.2.1 hn0))
    · have hd := isB_f hb16 c19
      refine pp_aload_n dX7_copy_22 rfl isRf_r (q := 23) rfl ?_
      refine pp_bipush dX7_copy_23 cb_m2 (q := 25) rfl ?_
      refine ps_callVi dX7_copy_25 lk_X7_132 (by exact h.1) (by rfl) (by rfl) (by rfl) (m_no2 h.1) (by rfl) (by exact Nat.le_of_ble_eq_true rfl) (by decide) (by decide) (by exact Nat.le_of_ble_eq_true rfl) (q := 28) rfl (fun r25 g25 h25 => ?_)
      obtain ⟨rfl, rfl⟩ := And.intro h25.1.symm h25.2.symm
      refine ri_ret dX7_copy_28 rfl rfl ?_
      exact mq_no hR (by unfold isW; omega) (spc_no (by unfold qCopy qM; rw [cIf_t ⟨m, hm, rfl⟩, cIf_f (fun q => hd (mdX_i hm q))]) (fun q => hd (mdX_i hm q.1)))
  · have ha := isB_f hb1 c4
    refine pp_aload_n dX7_copy_7 rfl isRf_r (q := 8) rfl ?_
    refine pp_bipush dX7_copy_8 cb_m3 (q := 10) rfl ?_
    refine ps_callVi dX7_copy_10 lk_X7_132 (by exact h.1) (by rfl) (by rfl) (by rfl) (m_no3 h.1) (by rfl) (by exact Nat.le_of_ble_eq_true rfl) (by decide) (by decide) (by exact Nat.le_of_ble_eq_true rfl) (q := 13) rfl (fun r10 g10 h10 => ?_)
    obtain ⟨rfl, rfl⟩ := And.intro h10.1.symm h10.2.symm
    refine ri_ret dX7_copy_13 rfl rfl ?_
    exact mq_no hR (by unfold isW; omega) (spc_no (cIf_f ha) (fun q => ha (by obtain ⟨i, hi, e, -⟩ := q.1; exact ⟨i, hi, e⟩)))
set_option maxRecDepth 20000 in
set_option maxHeartbeats 4000000 in
theorem s_nx1 {ad : Nm → Nat} {g : Sg} {A : AW} {N n m : Nat} {i n' : Nat} (h : RS g A n False) (hI : INV N N A) (hm : m < 64) (hd : mdA A m) (ho : nxO (A.1 m) = some i) (hn1 : (A.1 m).1 14 = nI n') (hn2 : n' ≤ 64) (hin : i < n') : PS mX7_next 46 [some (.ref (ad (40, 0, 0))), some (.int (nI m)), none, none, none] [] ad g (Ri (fun v g' => v = woA m (A.1 m) ∧ RS g' A n False ∧ EqM g g')) := by
  refine pp_aload_n dX7_next_46 rfl isRf_r (q := 47) rfl ?_
  refine pp_iload_n dX7_next_47 rfl (q := 48) rfl ?_
  refine ps_callVi dX7_next_48 lk_X7_109 (by exact h.1) (by rfl) (by rfl) (by rfl) (m_still h hm hd (hI.m hm hd).2.2.2.2.1) (by rfl) (by exact Nat.le_of_ble_eq_true rfl) (by decide) (by decide) (by exact Nat.le_of_ble_eq_true rfl) (q := 51) rfl (fun r48 g48 h48 => ?_)
  obtain ⟨rfl, rfl⟩ := And.intro h48.1.symm h48.2.symm
  rw [ho]
  change PP mX7_next 51 _ [Value.int (nI i)] _ _
  refine pp_istore_n dX7_next_51 (by decide) (ls1_2 (nl1 rfl)) (q := 52) rfl ?_
  refine pp_iload_n dX7_next_52 rfl (q := 53) rfl ?_
  refine pp_if_lt (tgt := 72) dX7_next_53 (by decide) (q := 56) rfl (fun c53 => absurd c53 (nI_nl2 (by omega))) (fun c53 => ?_)
  refine pp_aload_n dX7_next_56 rfl isRf_r (q := 57) rfl ?_
  refine ps_get dX7_next_57 fl_X7_8 h.1 rfl rfl (q := 60) rfl ?_
  refine pp_sipush dX7_next_60 cs_20928 (q := 63) rfl ?_
  refine pp_bipush dX7_next_63 cb_64 (q := 65) rfl ?_
  refine pp_iload_n dX7_next_65 rfl (q := 66) rfl ?_
  refine pp_imul dX7_next_66 (q := 67) rfl ?_
  try rw [pk_mul]
  refine pp_iadd dX7_next_67 (q := 68) rfl ?_
  try rw [nI_add]
  refine pp_iload_n dX7_next_68 rfl (q := 69) rfl ?_
  refine pp_iadd dX7_next_69 (q := 70) rfl ?_
  try rw [nI_add]
  refine ps_iald (j := 20928 + 64 * m + i) dX7_next_70 h.1 rfl rfl (by omega) (by decide) (q := 71) rfl ?_
  rw [(h.2.o hm hd).2.2.2 i (by rw [hn1, cl_nI (by omega)]; exact hin) (by omega)]
  refine ri_ret dX7_next_71 rfl rfl ?_
  exact ⟨by unfold woA; rw [ho], h, EqM.rf⟩
set_option maxRecDepth 20000 in
set_option maxHeartbeats 4000000 in
theorem s_nx0 {ad : Nm → Nat} {g : Sg} {A : AW} {N n m : Nat} (h : RS g A n False) (hI : INV N N A) (hm : m < 64) (hd : mdA A m) (ho : nxO (A.1 m) = none) : PS mX7_next 46 [some (.ref (ad (40, 0, 0))), some (.int (nI m)), none, none, none] [] ad g (Ri (fun v g' => v = woA m (A.1 m) ∧ RS g' A n False ∧ EqM g g')) := by
  refine pp_aload_n dX7_next_46 rfl isRf_r (q := 47) rfl ?_
  refine pp_iload_n dX7_next_47 rfl (q := 48) rfl ?_
  refine ps_callVi dX7_next_48 lk_X7_109 (by exact (by first | exact h1.1 | exact h.1)) (by rfl) (by rfl) (by rfl) (m_still h hm hd (hI.m hm hd).2.2.2.2.1) (by rfl) (by exact Nat.le_of_ble_eq_true rfl) (by decide) (by decide) (by exact Nat.le_of_ble_eq_true rfl) (q := 51) rfl (fun r48 g48 h48 => ?_)
  obtain ⟨rfl, rfl⟩ := And.intro h48.1.symm h48.2.symm
  rw [ho]
  change PP mX7_next 51 _ [Value.int (-1)] _ _
  refine pp_istore_n dX7_next_51 (by decide) (ls1_2 (nl1 rfl)) (q := 52) rfl ?_
  refine pp_iload_n dX7_next_52 rfl (q := 53) rfl ?_
  refine pp_if_lt (tgt := 72) dX7_next_53 (by decide) (q := 56) rfl (fun c53 => ?_) (fun c53 => absurd (by decide) c53)
  refine pp_aload_n dX7_next_72 rfl isRf_r (q := 73) rfl ?_
  refine ps_get dX7_next_73 fl_X7_17 (by first | exact h1.1 | exact h.1) rfl rfl (q := 76) rfl ?_
  refine pp_iload_n dX7_next_76 rfl (q := 77) rfl ?_
  refine ps_lald (j := m) dX7_next_77 (by first | exact h1.1 | exact h.1) rfl rfl hm (by decide) (q := 78) rfl ?_
  refine pp_lstore_n dX7_next_78 (by decide) (ls2_3 (nl1 rfl)) (q := 79) rfl ?_
  refine pp_aload_n dX7_next_79 rfl isRf_r (q := 80) rfl ?_
  refine pp_iload_n dX7_next_80 rfl (q := 81) rfl ?_
  refine ps_callVv dX7_next_81 lk_X7_112 (by exact (by first | exact h1.1 | exact h.1)) (by rfl) (by rfl) (by rfl) (m_mix h hm hd) (by rfl) (by exact Nat.le_of_ble_eq_true rfl) (by decide) (by decide) (by exact Nat.le_of_ble_eq_true rfl) (q := 84) rfl (fun g81 h81 => ?_)
  obtain ⟨r0, hr0, h1, h48, h11, hE1⟩ := h81
  refine pp_aload_n dX7_next_84 rfl isRf_r (q := 85) rfl ?_
  refine ps_get dX7_next_85 fl_X7_17 (by first | exact h1.1 | exact h.1) rfl rfl (q := 88) rfl ?_
  refine pp_iload_n dX7_next_88 rfl (q := 89) rfl ?_
  refine pp_lload_n dX7_next_89 rfl (q := 90) rfl ?_
  refine ps_last (j := m) dX7_next_90 (by first | exact h1.1 | exact h.1) (fun _ => rfl) rfl hm (by decide) (q := 91) rfl ?_
  have h2 : RS (sB g81 (43, 0, 0) (vp_updL (gB g81 (43, 0, 0)) m (gB g (43, 0, 0) m))) A n False := by
    refine ⟨h1.1, ?_⟩
    have q := h1.2.mem (f' := gA g81 (41, 0, 0)) (sd' := vp_updL (gB g81 (43, 0, 0)) m (gB g (43, 0, 0) m)) (M := A.1 m) hm (fun _ _ => rfl) (fun m' hm' => if_neg hm') ?_ hd
    · rw [aSet_aSet, aSet_self] at q
      exact q
    · have q2 := RFo_sj (v := gB g (43, 0, 0) m) (h1.2.o hm (md_set hd))
      rw [aSet_m] at q2
      have e : ∀ s, meSJ (meSJ (A.1 m) s) (gB g (43, 0, 0) m) = A.1 m := fun s => by
        rw [(h.2.o hm hd).2.1]
        unfold meSJ
        rfl
      rw [e] at q2
      exact q2
  have hE2 : EqM g (sB g81 (43, 0, 0) (vp_updL (gB g81 (43, 0, 0)) m (gB g (43, 0, 0) m))) := hE1.sB ms43
  refine pp_aload_n dX7_next_91 rfl isRf_r (q := 92) rfl ?_
  refine ps_get dX7_next_92 fl_X7_96 (by first | exact h1.1 | exact h.1) rfl rfl (q := 95) rfl ?_
  rw [show gI (sB g81 (43, 0, 0) (vp_updL (gB g81 (43, 0, 0)) m (gB g (43, 0, 0) m))) (40, 0, 0) 11 = nI (sel (gsel ((A.1 m).2.2 31) m (-1)) 64).length from h11]
  refine pp_if_ne (tgt := 102) dX7_next_95 (by decide) (q := 98) rfl (fun c95 => ?_) (fun c95 => ?_)
  · have hl : ¬ (sel (gsel ((A.1 m).2.2 31) m (-1)) 64).length = 0 := fun q => c95 (by rw [q]; rfl)
    refine pp_aload_n dX7_next_102 rfl isRf_r (q := 103) rfl ?_
    refine ps_get dX7_next_103 fl_X7_33 (by first | exact h1.1 | exact h.1) rfl rfl (q := 106) rfl ?_
    refine pp_iconst dX7_next_106 ci_0 (q := 107) rfl ?_
    refine ps_iald (j := 0) dX7_next_107 (by first | exact h1.1 | exact h.1) rfl rfl (by show 0 < 64; omega) (by decide) (q := 108) rfl ?_
    rw [show gA (sB g81 (43, 0, 0) (vp_updL (gB g81 (43, 0, 0)) m (gB g (43, 0, 0) m))) (48, 0, 0) 0 = (mkR ((A.1 m).2.2 31) ((A.1 m).2.2 36) m (A.1 m).2.1).1 0 from by show gA g81 (48, 0, 0) 0 = _; rw [h48]; exact (mix_eq hr0).2 0 (by omega)]
    refine ri_ret dX7_next_108 rfl rfl ?_
    first | exact ⟨by unfold woA; rw [ho]; exact (if_neg hl).symm, h2, hE2⟩ | exact ⟨by unfold woA; rw [ho]; exact (if_pos hl).symm, h2, hE2⟩
  · have hl : (sel (gsel ((A.1 m).2.2 31) m (-1)) 64).length = 0 := eqT (b := 0) c95 (by have := sel_le (gsel ((A.1 m).2.2 31) m (-1)) 64; omega) (by omega)
    refine pp_iconst dX7_next_98 ci_m1 (q := 99) rfl ?_
    refine pp_goto (tgt := 108) dX7_next_99 (by decide) ?_
    refine ri_ret dX7_next_108 rfl rfl ?_
    first | exact ⟨by unfold woA; rw [ho]; exact (if_neg hl).symm, h2, hE2⟩ | exact ⟨by unfold woA; rw [ho]; exact (if_pos hl).symm, h2, hE2⟩
set_option maxRecDepth 20000 in
set_option maxHeartbeats 4000000 in
theorem m_next {ad : Nm → Nat} {g : Sg} {S : CS} {a : Int32} (hR : RR g S) (hH : okH (sH S)) : PS mX7_next 0 (ent mX7_next [.ref (ad (40, 0, 0)), .int a]) [] ad g (MdQ g (anS S (qNext (runA (sH S)) a))) := by
  have h := hR.1
  have hI := inv_run hH
  have hn := okH_len hH
  show PP mX7_next 0 [some (.ref (ad (40, 0, 0))), some (.int a), none, none, none] [] (Rel ad g) _
  refine pp_iload_n dX7_next_0 rfl (q := 1) rfl ?_
  refine ps_callSi dX7_next_1 lk_X7_121 (by rfl) m_isMem (by rfl) (by exact Nat.le_of_ble_eq_true rfl) (by decide) (by decide) (by exact Nat.le_of_ble_eq_true rfl) (q := 4) rfl (fun r1 g1 h1 => ?_)
  obtain ⟨hb1, rfl⟩ := And.intro h1.1 h1.2.symm
  refine pp_if_ne (tgt := 14) dX7_next_4 (by decide) (q := 7) rfl (fun c4 => ?_) (fun c4 => ?_)
  · obtain ⟨m, hm, rfl⟩ := isB_t hb1 c4
    refine pp_aload_n dX7_next_14 rfl isRf_r (q := 15) rfl ?_
    refine pp_iload_n dX7_next_15 rfl (q := 16) rfl ?_
    refine ps_callVi dX7_next_16 lk_X7_125 (by exact h.1) (by rfl) (by rfl) (by rfl) (m_made h hI hm) (by rfl) (by exact Nat.le_of_ble_eq_true rfl) (by decide) (by decide) (by exact Nat.le_of_ble_eq_true rfl) (q := 19) rfl (fun r16 g16 h16 => ?_)
    obtain ⟨hb16, rfl⟩ := And.intro h16.1 h16.2.symm
    refine pp_if_ne (tgt := 29) dX7_next_19 (by decide) (q := 22) rfl (fun c19 => ?_) (fun c19 => ?_)
    · have hd := isB_t hb16 c19
      refine pp_aload_n dX7_next_29 rfl isRf_r (q := 30) rfl ?_
      refine pp_iload_n dX7_next_30 rfl (q := 31) rfl ?_
      refine pp_iconst dX7_next_31 ci_0 (q := 32) rfl ?_
      refine ps_callVi dX7_next_32 lk_X7_48 (by exact h.1) (by rfl) (by rfl) (by rfl) (m_of h.1 hm (by omega)) (by rfl) (by exact Nat.le_of_ble_eq_true rfl) (by decide) (by decide) (by exact Nat.le_of_ble_eq_true rfl) (q := 35) rfl (fun r32 g32 h32 => ?_)
      obtain ⟨rfl, rfl⟩ := And.intro h32.1.symm h32.2.symm
      rw [Nat.add_zero]
      refine pp_iconst dX7_next_35 ci_1 (q := 36) rfl ?_
      refine pp_icmp_eq (tgt := 46) dX7_next_36 (by decide) (q := 39) rfl (fun c36 => ?_) (fun c36 => ?_)
      · have hu := (h.2.st hI hm).2.mp c36
        have hq : qNext (runA (sH S)) (nI m) = .inr (woA m ((runA (sH S)).1 m)) := by unfold qNext; rw [qM_ok hm hd, cl_nI (by omega), cIf_t (show ((runA (sH S)).1 m).1 2 = 0 from hu.2)]
        have fin : PS mX7_next 46 [some (.ref (ad (40, 0, 0))), some (.int (nI m)), none, none, none] [] ad g (Ri (fun v g' => v = woA m ((runA (sH S)).1 m) ∧ RS g' (runA (sH S)) (sH S).length False ∧ EqM g g')) := by
          cases ho : nxO ((runA (sH S)).1 m) with
          | none => exact s_nx0 h hI hm hd ho
          | some i =>
            obtain ⟨n', hn1, hn2, hin⟩ := nxO_lt (hI.m hm hd).2.2.2.2.1 ho
            exact s_nx1 h hI hm hd ho hn1 hn2 hin
        refine fin.weak (fun v G hG => ?_)
        obtain ⟨g1, k1, r, k2, k3, k4, k5⟩ := hG
        subst k3
        exact ⟨g1, k1, _, k2, mq_inrE hR k5 k4 hq⟩
      · have hu : ¬ upA (runA (sH S)) m := fun q => c36 ((h.2.st hI hm).2.mpr q)
        refine pp_aload_n dX7_next_39 rfl isRf_r (q := 40) rfl ?_
        refine pp_bipush dX7_next_40 cb_m8 (q := 42) rfl ?_
        refine ps_callVi dX7_next_42 lk_X7_132 (by exact h.1) (by rfl) (by rfl) (by rfl) (m_no8 h.1) (by rfl) (by exact Nat.le_of_ble_eq_true rfl) (by decide) (by decide) (by exact Nat.le_of_ble_eq_true rfl) (q := 45) rfl (fun r42 g42 h42 => ?_)
        obtain ⟨rfl, rfl⟩ := And.intro h42.1.symm h42.2.symm
        refine ri_ret dX7_next_45 rfl rfl ?_
        exact mq_inl hR (by unfold isW; omega) (by unfold qNext; rw [qM_ok hm hd, cl_nI (by omega), cIf_f (show ¬ ((runA (sH S)).1 m).1 2 = 0 from fun q => hu ⟨hd, q⟩)])
    · have hd := isB_f hb16 c19
      refine pp_aload_n dX7_next_22 rfl isRf_r (q := 23) rfl ?_
      refine pp_bipush dX7_next_23 cb_m2 (q := 25) rfl ?_
      refine ps_callVi dX7_next_25 lk_X7_132 (by exact h.1) (by rfl) (by rfl) (by rfl) (m_no2 h.1) (by rfl) (by exact Nat.le_of_ble_eq_true rfl) (by decide) (by decide) (by exact Nat.le_of_ble_eq_true rfl) (q := 28) rfl (fun r25 g25 h25 => ?_)
      obtain ⟨rfl, rfl⟩ := And.intro h25.1.symm h25.2.symm
      refine ri_ret dX7_next_28 rfl rfl ?_
      exact mq_inl hR (by unfold isW; omega) (by unfold qNext qM; rw [cIf_t ⟨m, hm, rfl⟩, cIf_f (fun q => hd (mdX_i hm q))])
  · have ha := isB_f hb1 c4
    refine pp_aload_n dX7_next_7 rfl isRf_r (q := 8) rfl ?_
    refine pp_bipush dX7_next_8 cb_m3 (q := 10) rfl ?_
    refine ps_callVi dX7_next_10 lk_X7_132 (by exact h.1) (by rfl) (by rfl) (by rfl) (m_no3 h.1) (by rfl) (by exact Nat.le_of_ble_eq_true rfl) (by decide) (by decide) (by exact Nat.le_of_ble_eq_true rfl) (q := 13) rfl (fun r10 g10 h10 => ?_)
    obtain ⟨rfl, rfl⟩ := And.intro h10.1.symm h10.2.symm
    refine ri_ret dX7_next_13 rfl rfl ?_
    exact mq_inl hR (by unfold isW; omega) (cIf_f ha)
