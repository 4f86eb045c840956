theorem nxO_mk {m : Nat} {M : Me} : nxO (meMkR m M) = if (sel (gsel (M.2.2 31) m (-1)) 64).length = 0 then none else some 0 := by
  have hle := sel_le (gsel (M.2.2 31) m (-1)) 64
  have e14 : (meMkR m M).1 14 = nI (sel (gsel (M.2.2 31) m (-1)) 64).length := rfl
  have e15 : (meMkR m M).1 15 = nI 0 := rfl
  have e36 : (meMkR m M).2.2 36 = (mkR (M.2.2 31) (M.2.2 36) m M.2.1).1 := rfl
  have e31 : (meMkR m M).2.2 31 = M.2.2 31 := rfl
  unfold nxO
  rw [e14, e15, e36, e31, nI_clamp (by omega), nI_clamp (by omega)]
  by_cases h : (sel (gsel (M.2.2 31) m (-1)) 64).length = 0
  · rw [h, if_pos rfl]
    rfl
  · rw [if_neg h]
    refine fnd_hit (by omega) ?_
    have hp : ∃ x, x < 64 ∧ (mkR (M.2.2 31) (M.2.2 36) m M.2.1).1 0 = nI x ∧ living (M.2.2 31) x := by
      unfold mkR
      refine shl_all (P := fun v => ∃ x, x < 64 ∧ v = nI x ∧ living (M.2.2 31) x) (n := (sel (gsel (M.2.2 31) m (-1)) 64).length) (by omega) (fun i hi => ?_) 0 (by omega)
      have hm : (sel (gsel (M.2.2 31) m (-1)) 64)[i] ∈ sel (gsel (M.2.2 31) m (-1)) 64 := List.getElem_mem hi
      obtain ⟨h1, h2⟩ := sel_lt hm
      refine ⟨_, h1, wl_at (List.getElem?_eq_getElem hi), Classical.byContradiction (fun q => ?_)⟩
      rw [gsel_f (Or.inr (Or.inr q))] at h2
      cases h2
    obtain ⟨x, hx, ex, hl⟩ := hp
    unfold livR
    rw [ex, nI_clamp (by omega)]
    exact decide_eq_true hl
theorem RFo_sim {f : Nat → Int32} {sd : Nat → Int64} {m : Nat} {M M' : Me} (h : RFo f sd m M) (e2 : M'.1 2 = M.1 2) (e4 : M'.1 4 = M.1 4) (e5 : M'.1 5 = M.1 5) (e6 : M'.1 6 = M.1 6) (e7 : M'.1 7 = M.1 7) (e14 : M'.1 14 = M.1 14) (e15 : M'.1 15 = M.1 15) (eJ : M'.2.1 = M.2.1) (eA : ∀ k, 31 ≤ k → k ≤ 35 → M'.2.2 k = M.2.2 k) (eR : ∀ j, j < cl (M.1 14) → j < 64 → M'.2.2 36 j = M.2.2 36 j) : RFo f sd m M' := by
  obtain ⟨⟨a0, a1, a2, a3, a4, a5, a6⟩, b, c, d⟩ := h
  refine ⟨⟨by rw [e2]; exact a0, by rw [e4]; exact a1, by rw [e5]; exact a2, by rw [e6]; exact a3, by rw [e7]; exact a4, by rw [e14]; exact a5, by rw [e15]; exact a6⟩, by rw [eJ]; exact b, fun x hx => ?_, fun j h1 h2 => ?_⟩
  · rw [eA 31 (by omega) (by omega)]
    refine ⟨(c x hx).1, fun hk e h1 h2 => ?_⟩
    rw [eA (31 + e) (by omega) (by omega)]
    exact (c x hx).2 hk e h1 h2
  · rw [e14] at h1
    rw [eR j h1 h2]
    exact d j h1 h2
theorem RS.sim {g : Sg} {A : AW} {n m : Nat} {o : Prop} {M M' : Me} (h : RS g (aSet A m M) n o) (hm : m < 64) (h1 : M.1 1 = nI 1) (hs : RFo (gA g (41, 0, 0)) (gB g (43, 0, 0)) m M → RFo (gA g (41, 0, 0)) (gB g (43, 0, 0)) m M') (h1' : M'.1 1 = nI 1) : RS g (aSet A m M') n o := by
  have hd : mdA (aSet A m M) m := by unfold mdA; rw [aSet_m]; exact h1
  have ho := h.2.o hm hd
  rw [aSet_m] at ho
  have := h.2.mem (f' := gA g (41, 0, 0)) (sd' := gB g (43, 0, 0)) (M := M') hm (fun _ _ => rfl) (fun _ _ => rfl) (hs ho) h1'
  rw [aSet_aSet] at this
  exact ⟨h.1, this⟩
def meRo (M : Me) (r : Nat → Int32) (i : Nat) : Me := (M.1, M.2.1, fun k => if k = 36 then (fun j => if j < i then r j else M.2.2 36 j) else M.2.2 k)
theorem RFo_ro {f : Nat → Int32} {sd : Nat → Int64} {m i : Nat} {M : Me} {r : Nat → Int32} (h : RFo f sd m (meRo M r i)) (hm : m < 64) (hi : i < 64) : RFo (upd f (20928 + 64 * m + i) (r i)) sd m (meRo M r (i + 1)) := by
  obtain ⟨⟨a0, a1, a2, a3, a4, a5, a6⟩, b, c, d⟩ := h
  refine ⟨⟨(upd_ne (by omega)).trans a0, (upd_ne (by omega)).trans a1, (upd_ne (by omega)).trans a2, (upd_ne (by omega)).trans a3, (upd_ne (by omega)).trans a4, (upd_ne (by omega)).trans a5, (upd_ne (by omega)).trans a6⟩, b, fun x hx => ⟨(upd_ne (by have := nw_own (m := m) (c := 0) hx (by omega); omega)).trans (c x hx).1, fun hk e h1 h2 => ?_⟩, fun j h1 h2 => ?_⟩
  · refine (upd_ne (by have := nw_own (m := m) (c := e) hx h2; omega)).trans (((c x hx).2 hk e h1 h2).trans ?_)
    show (if 31 + e = 36 then _ else M.2.2 (31 + e)) x = (if 31 + e = 36 then _ else M.2.2 (31 + e)) x
    rw [if_neg (by omega), if_neg (by omega)]
  · show _ = (if j < i + 1 then r j else M.2.2 36 j)
    by_cases e : j = i
    · subst e
      rw [upd_eq, if_pos (by omega)]
    · rw [upd_ne (by omega)]
      refine (d j h1 h2).trans ?_
      show (if j < i then r j else M.2.2 36 j) = _
      by_cases q : j < i
      · rw [if_pos q, if_pos (by omega)]
      · rw [if_neg q, if_neg (by omega)]
theorem meRo_0 {M : Me} {r : Nat → Int32} : meRo M r 0 = M := by
  unfold meRo
  have e : (fun k => if k = 36 then (fun j => if j < 0 then r j else M.2.2 36 j) else M.2.2 k) = M.2.2 := by
    funext k
    split
    · rename_i q; subst q; funext j; rw [if_neg (Nat.not_lt_zero j)]
    · rfl
  rw [e]
set_option maxRecDepth 20000 in
set_option maxHeartbeats 4000000 in
theorem s_nxc {ad : Nm → Nat} {g : Sg} {A : AW} {M : Me} {r : Nat → Int32} {n m i L : Nat} {o : Prop} {v2 : Int32} {Q : Option Value → PH → Prop} (h : RS g (aSet A m (meRo M r i)) n o) (hmb : m < 64) (hM : M.1 1 = nI 1) (hi : i < L) (hL : L ≤ 64) (hr : gA g (48, 0, 0) = r) (h11 : gI g (40, 0, 0) 11 = nI L) (hf : ∀ j, j < i → gA g (41, 0, 0) (20928 + 64 * m + j) = r j) (hk : ∀ g', RS g' (aSet A m (meRo M r (i + 1))) n o → EqM g g' → gA g' (48, 0, 0) = r → gI g' (40, 0, 0) 11 = nI L → (∀ j, j < i + 1 → gA g' (41, 0, 0) (20928 + 64 * m + j) = r j) → PP mX7_nextOf 23 [some (.ref (ad (40, 0, 0))), some (.int (nI m)), some (.int v2), some (.int (nI (i + 1)))] [] (Rel ad g') Q) : PP mX7_nextOf 23 [some (.ref (ad (40, 0, 0))), some (.int (nI m)), some (.int v2), some (.int (nI i))] [] (Rel ad g) Q := by
  refine pp_iload_n dX7_nextOf_23 rfl (q := 24) rfl ?_
  refine pp_aload_n dX7_nextOf_24 rfl isRf_r (q := 25) rfl ?_
  refine ps_get dX7_nextOf_25 fl_X7_96 (by first | exact h1.1.1 | exact h.1) rfl rfl (q := 28) rfl ?_
  rw [h11]
  refine pp_icmp_ge (tgt := 58) dX7_nextOf_28 (by decide) (q := 31) rfl (fun c28 => absurd c28 (nI_ge hi (by omega))) (fun c28 => ?_)
  refine pp_aload_n dX7_nextOf_31 rfl isRf_r (q := 32) rfl ?_
  refine ps_get dX7_nextOf_32 fl_X7_8 (by first | exact h1.1.1 | exact h.1) rfl rfl (q := 35) rfl ?_
  refine pp_sipush dX7_nextOf_35 cs_20928 (q := 38) rfl ?_
  refine pp_bipush dX7_nextOf_38 cb_64 (q := 40) rfl ?_
  refine pp_iload_n dX7_nextOf_40 rfl (q := 41) rfl ?_
  refine pp_imul dX7_nextOf_41 (q := 42) rfl ?_
  try rw [pk_mul]
  refine pp_iadd dX7_nextOf_42 (q := 43) rfl ?_
  try rw [nI_add]
  refine pp_iload_n dX7_nextOf_43 rfl (q := 44) rfl ?_
  refine pp_iadd dX7_nextOf_44 (q := 45) rfl ?_
  try rw [nI_add]
  refine pp_aload_n dX7_nextOf_45 rfl isRf_r (q := 46) rfl ?_
  refine ps_get dX7_nextOf_46 fl_X7_33 (by first | exact h1.1.1 | exact h.1) rfl rfl (q := 49) rfl ?_
  refine pp_iload_n dX7_nextOf_49 rfl (q := 50) rfl ?_
  refine ps_iald (j := i) dX7_nextOf_50 (by first | exact h1.1.1 | exact h.1) rfl rfl (by omega) (by decide) (q := 51) rfl ?_
  rw [hr]
  refine ps_iast dX7_nextOf_51 (by first | exact h1.1.1 | exact h.1) (fun _ => rfl) rfl (by omega) (by decide) (q := 52) rfl ?_
  have ho := h.2.o hmb (by unfold mdA; rw [aSet_m]; exact hM)
  rw [aSet_m] at ho
  have h1 := h.set (f := upd (gA g (41, 0, 0)) (20928 + 64 * m + i) (r i)) (M := meRo M r (i + 1)) hmb (fun j hj => upd_ne (fun e => hj (by unfold ownI; omega))) (RFo_ro ho hmb (by omega)) hM
  rw [aSet_aSet] at h1
  refine pp_iinc dX7_nextOf_52 rfl (nI_1 _) (ls1_3 (nl1 rfl)) (q := 55) rfl ?_
  refine pp_goto (tgt := 23) dX7_nextOf_55 (by decide) ?_
  exact hk _ h1.1 h1.2 hr h11 (fun j hj => by show upd (gA g (41, 0, 0)) (20928 + 64 * m + i) (r i) (20928 + 64 * m + j) = r j; by_cases e : j = i; (subst e; exact upd_eq); (rw [upd_ne (by omega)]; exact hf j (by omega)))
theorem RFo_t5L {f : Nat → Int32} {sd : Nat → Int64} {m L : Nat} {M : Me} {r : Nat → Int32} (h : RFo f sd m (meRo M r L)) (hm : m < 64) (hL : L ≤ 64) (hf : ∀ j, j < L → f (20928 + 64 * m + j) = r j) : RFo (upd f (7 * m + 5) (nI L)) sd m (meSI (meRo M r L) 14 (nI L)) := by
  obtain ⟨⟨a0, a1, a2, a3, a4, a5, a6⟩, b, c, d⟩ := h
  refine ⟨⟨(upd_ne (by omega)).trans a0, (upd_ne (by omega)).trans a1, (upd_ne (by omega)).trans a2, (upd_ne (by omega)).trans a3, (upd_ne (by omega)).trans a4, upd_eq, (upd_ne (by omega)).trans a6⟩, b, fun x hx => ⟨(upd_ne (by have := nw_own (m := m) (c := 0) hx (by omega); omega)).trans (c x hx).1, fun hk e h1 h2 => (upd_ne (by have := nw_own (m := m) (c := e) hx h2; omega)).trans ((c x hx).2 hk e h1 h2)⟩, fun j h1 h2 => ?_⟩
  have h3 : j < cl (nI L) := h1
  rw [cl_nI (by omega)] at h3
  rw [upd_ne (by omega), hf j h3]
  show r j = if j < L then r j else M.2.2 36 j
  rw [if_pos h3]
set_option maxRecDepth 20000 in
set_option maxHeartbeats 4000000 in
theorem s_nxe {ad : Nm → Nat} {g : Sg} {A : AW} {M : Me} {r : Nat → Int32} {n m L : Nat} {o : Prop} {v2 : Int32} {Q : Option Value → PH → Prop} (h : RS g (aSet A m (meRo M r L)) n o) (hmb : m < 64) (hM : M.1 1 = nI 1) (hL : L ≤ 64) (h11 : gI g (40, 0, 0) 11 = nI L) (hf : ∀ j, j < L → gA g (41, 0, 0) (20928 + 64 * m + j) = r j) (hk : ∀ g', RS g' (aSet A m (meSI (meSI (meRo M r L) 14 (nI L)) 15 (nI 0))) n o → EqM g g' → ∀ z, gI g' (40, 0, 0) 11 = nI L → PP mX7_nextOf 76 [some (.ref (ad (40, 0, 0))), some (.int (nI m)), some (.int v2), z] [] (Rel ad g') Q) : PP mX7_nextOf 23 [some (.ref (ad (40, 0, 0))), some (.int (nI m)), some (.int v2), some (.int (nI L))] [] (Rel ad g) Q := by
  refine pp_iload_n dX7_nextOf_23 rfl (q := 24) rfl ?_
  refine pp_aload_n dX7_nextOf_24 rfl isRf_r (q := 25) rfl ?_
  refine ps_get dX7_nextOf_25 fl_X7_96 (by first | exact h2.1.1 | exact h1.1.1 | exact h.1) rfl rfl (q := 28) rfl ?_
  rw [h11]
  refine pp_icmp_ge (tgt := 58) dX7_nextOf_28 (by decide) (q := 31) rfl (fun c28 => ?_) (fun c28 => absurd (nI_le (Nat.le_refl _) (by omega)) c28)
  refine pp_aload_n dX7_nextOf_58 rfl isRf_r (q := 59) rfl ?_
  refine pp_iload_n dX7_nextOf_59 rfl (q := 60) rfl ?_
  refine pp_iconst dX7_nextOf_60 ci_5 (q := 61) rfl ?_
  refine pp_aload_n dX7_nextOf_61 rfl isRf_r (q := 62) rfl ?_
  refine ps_get dX7_nextOf_62 fl_X7_96 (by first | exact h2.1.1 | exact h1.1.1 | exact h.1) rfl rfl (q := 65) rfl ?_
  rw [h11]
  refine ps_callVv dX7_nextOf_65 lk_X7_63 (by exact (by first | exact h2.1.1 | exact h1.1.1 | exact h.1)) (by rfl) (by rfl) (by rfl) (m_to h.1 hmb (by omega)) (by rfl) (by exact Nat.le_of_ble_eq_true rfl) (by decide) (by decide) (by exact Nat.le_of_ble_eq_true rfl) (q := 68) rfl (fun g65 h65 => ?_)
  subst h65
  have ho := h.2.o hmb (by unfold mdA; rw [aSet_m]; exact hM)
  rw [aSet_m] at ho
  have h1 := h.set (f := upd (gA g (41, 0, 0)) (7 * m + 5) (nI L)) (M := meSI (meRo M r L) 14 (nI L)) hmb (fun j hj => upd_ne (fun e => hj (by unfold ownI; omega))) (RFo_t5L ho hmb hL hf) hM
  rw [aSet_aSet] at h1
  have hd1 : mdA (aSet A m (meSI (meRo M r L) 14 (nI L))) m := by unfold mdA; rw [aSet_m]; exact hM
  refine pp_aload_n dX7_nextOf_68 rfl isRf_r (q := 69) rfl ?_
  refine pp_iload_n dX7_nextOf_69 rfl (q := 70) rfl ?_
  refine pp_bipush dX7_nextOf_70 cb_6 (q := 72) rfl ?_
  refine pp_iconst dX7_nextOf_72 ci_0 (q := 73) rfl ?_
  refine ps_callVv dX7_nextOf_73 lk_X7_63 (by exact (by first | exact h2.1.1 | exact h1.1.1 | exact h.1)) (by rfl) (by rfl) (by rfl) (m_to h1.1.1 hmb (by omega)) (by rfl) (by exact Nat.le_of_ble_eq_true rfl) (by decide) (by decide) (by exact Nat.le_of_ble_eq_true rfl) (q := 76) rfl (fun g73 h73 => ?_)
  subst h73
  have ho2 := h1.1.2.o hmb hd1
  rw [aSet_m] at ho2
  have h2 := h1.1.set (f := upd (gA (sA g (41, 0, 0) (upd (gA g (41, 0, 0)) (7 * m + 5) (nI L))) (41, 0, 0)) (7 * m + 6) (nI 0)) (M := meSI (meSI (meRo M r L) 14 (nI L)) 15 (nI 0)) hmb (fun j hj => upd_ne (fun e => hj (by unfold ownI; omega))) (RFo_t6 ho2 hmb) hM
  rw [aSet_aSet] at h2
  exact hk _ h2.1 (h1.2.tr h2.2) _ h11
