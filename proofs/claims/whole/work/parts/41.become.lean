/-! the empty world; clearing -/
def A0 : AW := (fun _ => (fun _ => 0, 0, fun _ _ => 0), 0, fun _ => 0, fun _ => 0, ((0, 0), (0, 0), fun _ _ => 0, fun _ _ => 0))
theorem A0_md (m : Nat) : ¬ mdA A0 m := fun h => by
  have : (0 : Int32) = nI 1 := h
  exact absurd this (by decide)
/-- rows of a member end at 64 -/
def Zb (g : Sg) (w m : Nat) : Prop := ∀ k j, 31 ≤ k → k ≤ 35 → 64 ≤ j → gA g (k, w, m) j = 0
theorem RW.zb {g : Sg} {w : Nat} {A : AW} (h : RW g w A) {m : Nat} (hm : m < 64) (ha : al g (30, w, m)) : Zb g w m := by
  intro k j h1 h2 hj
  by_cases hd : mdA A m
  · rw [(h.m hm hd).ar h1 h2]
    exact (h.m hm hd).2.2.2.2.2 k j h1 h2 hj
  · exact (h.2.2.2.2.2.2 m hm hd ha).2 k j h1 h2 hj
theorem RX_A0 {g : Sg} {w : Nat} (h1 : al g (10, w, 0)) (h2 : ∀ r, r < 3 → gI g (20, w, r) 3 = nI 0) (h3 : gI g (13, w, 0) 2 = nI 0) (h4 : gI g (13, w, 0) 3 = nI 0) (h5 : gI g (10, w, 0) 1 = nI 0) (h6 : ∀ a, a < 64 → gB g (12, w, 0) a = 0) (h7 : ∀ k, k < 12 → gA g (14, w, 0) k = 0) (h8 : ∀ m, m < 64 → al g (30, w, m) → gI g (30, w, m) 1 = nI 0 ∧ Zb g w m) (hC : Cp g w) : RX g w A0 [] := by
  have hr : ∀ r, r < 3 → rOk g w r 0 := fun r hr => ⟨hr, h2 r hr, by omega, by have := (hC r hr).2; have := mst_b1 hr; omega⟩
  refine ⟨⟨h1, ⟨hr 0 (by omega), hr 1 (by omega), h3, h4, fun l c hl => absurd hl (Nat.not_lt_zero l), fun l c hl => absurd hl (Nat.not_lt_zero l)⟩, h5, h6, h7, fun m _ hd => absurd hd (A0_md m), fun m hm _ ha => h8 m hm ha⟩, ⟨hr 2 (by omega), fun i h c hh => by simp at hh⟩, hC⟩
def fillL (f : Nat → Int64) (v : Int64) (i : Nat) : Nat → Int64 := fun k => if k < i then v else f k
theorem fillL_0 (f : Nat → Int64) (v : Int64) : fillL f v 0 = f := by funext k; unfold fillL; rw [if_neg]; omega
theorem fillL_s (f : Nat → Int64) (v : Int64) (i : Nat) : vp_updL (fillL f v i) i v = fillL f v (i + 1) := by
  funext k
  unfold vp_updL fillL
  by_cases h : k = i
  · rw [if_pos h, if_pos (by omega)]
  · rw [if_neg h]
    by_cases h2 : k < i
    · rw [if_pos h2, if_pos (by omega)]
    · rw [if_neg h2, if_neg (by omega)]
theorem sB_id {g : Sg} {n : Nm} : sB g n (gB g n) = g := by
  have : up3 (gB g) n (gB g n) = gB g := by
    funext n'
    unfold up3
    split
    · subst_vars; rfl
    · rfl
  show (g.1, g.2.1, g.2.2.1, up3 (gB g) n (gB g n), g.2.2.2.2) = g
  rw [this]
  rfl
set_option maxRecDepth 20000 in
set_option maxHeartbeats 4000000 in
theorem l_fillL {ad : Nm → Nat} {g : Sg} {w : Nat} {v : Int64} {f : Nat → Int64} (hw : al g (10, w, 0)) : ∀ (j i : Nat), 64 - i < j → i ≤ 64 → PP mJ7_fill_d0a16 6 [some (.ref (ad (12, w, 0))), some (.long v), none, some (.int (nI i)), some (.int (nI 64))] [] (Rel ad (sB g (12, w, 0) (fillL f v i))) (fun r G => ∃ g', Rel ad g' G ∧ Rv (fun g' => g' = sB g (12, w, 0) (fillL f v 64)) r g') := by
  intro j
  induction j with
  | zero => intro i h; omega
  | succ j ih =>
    intro i hij hik
    refine pp_iload_n dJ7_fill_d0a16_6 rfl (q := 7) rfl ?_
    refine pp_iload dJ7_fill_d0a16_7 rfl (q := 9) rfl ?_
    refine pp_icmp_ge (tgt := 22) dJ7_fill_d0a16_9 (by decide) (q := 12) rfl (fun c9 => ?_) (fun c9 => ?_)
    · have e : i = 64 := by have := leT c9 (by decide) (by omega); omega
      subst e
      exact rv_ret dJ7_fill_d0a16_22 rfl rfl
    · have hlt := leF c9 (by decide) (by omega)
      refine pp_aload_n dJ7_fill_d0a16_12 rfl isRf_r (q := 13) rfl ?_
      refine pp_iload_n dJ7_fill_d0a16_13 rfl (q := 14) rfl ?_
      refine pp_lload_n dJ7_fill_d0a16_14 rfl (q := 15) rfl ?_
      refine ps_last dJ7_fill_d0a16_15 hw (fun _ => rfl) rfl (by omega) (by decide) (q := 16) rfl ?_
      refine pp_iinc dJ7_fill_d0a16_16 rfl (nI_1 _) (ls1_3 nl0) (q := 19) rfl ?_
      refine pp_goto (tgt := 6) dJ7_fill_d0a16_19 (by decide) ?_
      rw [sB_sB, gB_sB, if_pos rfl, fillL_s]
      exact ih (i + 1) (by omega) (by omega)
set_option maxRecDepth 20000 in
set_option maxHeartbeats 4000000 in
theorem c_fillL {ad : Nm → Nat} {g : Sg} {w : Nat} {v : Int64} (hw : al g (10, w, 0)) : PS mJ7_fill_d0a16 0 (ent mJ7_fill_d0a16 [.ref (ad (12, w, 0)), .long v]) [] ad g (Rv (fun g' => g' = sB g (12, w, 0) (fillL (gB g (12, w, 0)) v 64))) := by
  show PP mJ7_fill_d0a16 0 [some (.ref (ad (12, w, 0))), some (.long v), none, none, none] [] (Rel ad g) _
  refine pp_iconst dJ7_fill_d0a16_0 ci_0 (q := 1) rfl ?_
  refine pp_istore_n dJ7_fill_d0a16_1 (by decide) (ls1_3 nl0) (q := 2) rfl ?_
  refine pp_aload_n dJ7_fill_d0a16_2 rfl isRf_r (q := 3) rfl ?_
  refine ps_alen dJ7_fill_d0a16_3 hw rfl (by decide) (q := 4) rfl ?_
  refine pp_istore dJ7_fill_d0a16_4 (by decide) (ls1_4 (nl1 rfl)) (q := 6) rfl ?_
  have hg : g = sB g (12, w, 0) (fillL (gB g (12, w, 0)) v 0) := by rw [fillL_0, sB_id]
  have := l_fillL (ad := ad) (v := v) (f := gB g (12, w, 0)) hw 65 0 (by omega) (by omega)
  rw [← hg] at this
  exact this
def Clr (w : Nat) (g g1 : Sg) (i : Nat) : Prop := gJ g1 = gJ g ∧ gA g1 = gA g ∧ gB g1 = gB g ∧ gN g1 = gN g ∧ gF g1 = gF g ∧ gZ g1 = gZ g ∧ gU g1 = gU g ∧ (∀ n, ¬ (n.1 = 30 ∧ n.2.1 = w) → gI g1 n = gI g n) ∧ ∀ m, m < i → al g (30, w, m) → gI g1 (30, w, m) 1 = nI 0
theorem Clr.s1 {w i : Nat} {g g1 : Sg} (h : Clr w g g1 i) : Clr w g (sI g1 (30, w, i) 1 (nI 0)) (i + 1) := by
  obtain ⟨a1, a2, a3, a4, a5, a6, a7, a8, a9⟩ := h
  refine ⟨a1, a2, a3, a4, a5, a6, a7, fun n hn => ?_, fun m hm ha => ?_⟩
  · have : n ≠ (30, w, i) := fun e => hn (by rw [e]; exact ⟨rfl, rfl⟩)
    rw [← a8 n hn]
    exact up3_ne this
  · rw [gI_sI]
    by_cases e : m = i
    · rw [if_pos ⟨by rw [e], rfl⟩]
    · rw [if_neg (fun q => e (by have := q.1; simpa using this))]
      exact a9 m (by omega) ha
theorem Clr.s0 {w i : Nat} {g g1 : Sg} (h : Clr w g g1 i) (hf : ¬ gF g1 (30, w, i) = true) : Clr w g g1 (i + 1) := by
  obtain ⟨a1, a2, a3, a4, a5, a6, a7, a8, a9⟩ := h
  refine ⟨a1, a2, a3, a4, a5, a6, a7, a8, fun m hm ha => ?_⟩
  by_cases e : m = i
  · subst e
    rw [a5] at hf
    exact absurd ha.1 hf
  · exact a9 m (by omega) ha
theorem Clr.alv {w i : Nat} {g g1 : Sg} (h : Clr w g g1 i) {n : Nm} (ha : al g n) : al g1 n := by
  obtain ⟨a1, a2, a3, a4, a5, a6⟩ := h
  exact ⟨by rw [a5]; exact ha.1, ha.2⟩
set_option maxRecDepth 20000 in
set_option maxHeartbeats 4000000 in
theorem s_clr1 {ad : Nm → Nat} {g g1 : Sg} {w i : Nat} {Q : Option Value → PH → Prop} (hw1 : al g1 (10, w, 0)) (hC : Clr w g g1 i) (hi : i < 64) (hf : gF g1 (30, w, i) = true) (hk : ∀ g2, Clr w g g2 (i + 1) → ∀ x, PP mX5_clear 2 [some (.ref (ad (10, w, 0))), some (.int (nI (i + 1))), x] [] (Rel ad g2) Q) (x : Option Value) : PP mX5_clear 2 [some (.ref (ad (10, w, 0))), some (.int (nI i)), x] [] (Rel ad g1) Q := by
  have hal : al g1 (30, w, i) := ⟨hf, fun h => by cases h⟩
  refine pp_iload_n dX5_clear_2 rfl (q := 3) rfl ?_
  refine pp_bipush dX5_clear_3 cb_64 (q := 5) rfl ?_
  refine pp_icmp_ge (tgt := 30) dX5_clear_5 (by decide) (q := 8) rfl (fun c5 => absurd c5 (nI_ge hi (by decide))) (fun c5 => ?_)
  refine pp_aload_n dX5_clear_8 rfl isRf_r (q := 9) rfl ?_
  refine ps_get dX5_clear_9 fl_X5_11 hw1 rfl rfl (q := 12) rfl ?_
  refine pp_iload_n dX5_clear_12 rfl (q := 13) rfl ?_
  refine ps_aald dX5_clear_13 hw1 rfl rfl hi (by decide) (q := 14) rfl ?_
  rw [if_pos hf]
  change PP mX5_clear 14 _ [Value.ref (ad (30, w, i))] _ _
  refine pp_astore_n dX5_clear_14 isRf_r (by decide) (ls1_2 (nl1 rfl)) (q := 15) rfl ?_
  refine pp_aload_n dX5_clear_15 rfl isRf_r (q := 16) rfl ?_
  refine pp_ifnull_r dX5_clear_16 (q := 19) rfl ?_
  refine pp_aload_n dX5_clear_19 rfl isRf_r (q := 20) rfl ?_
  refine pp_iconst dX5_clear_20 ci_0 (q := 21) rfl ?_
  refine ps_puti dX5_clear_21 fl_X5_51 hal rfl (by exact Nat.le_of_ble_eq_true rfl) rfl rfl rfl (q := 24) rfl ?_
  refine pp_iinc dX5_clear_24 rfl (nI_1 _) (ls1_1 (nl1 rfl)) (q := 27) rfl ?_
  refine pp_goto (tgt := 2) dX5_clear_27 (by decide) ?_
  exact hk _ (hC.s1) _
set_option maxRecDepth 20000 in
set_option maxHeartbeats 4000000 in
theorem s_clr0 {ad : Nm → Nat} {g g1 : Sg} {w i : Nat} {Q : Option Value → PH → Prop} (hw1 : al g1 (10, w, 0)) (hC : Clr w g g1 i) (hi : i < 64) (hf : ¬ gF g1 (30, w, i) = true) (hk : ∀ g2, Clr w g g2 (i + 1) → ∀ x, PP mX5_clear 2 [some (.ref (ad (10, w, 0))), some (.int (nI (i + 1))), x] [] (Rel ad g2) Q) (x : Option Value) : PP mX5_clear 2 [some (.ref (ad (10, w, 0))), some (.int (nI i)), x] [] (Rel ad g1) Q := by
  refine pp_iload_n dX5_clear_2 rfl (q := 3) rfl ?_
  refine pp_bipush dX5_clear_3 cb_64 (q := 5) rfl ?_
  refine pp_icmp_ge (tgt := 30) dX5_clear_5 (by decide) (q := 8) rfl (fun c5 => absurd c5 (nI_ge hi (by decide))) (fun c5 => ?_)
  refine pp_aload_n dX5_clear_8 rfl isRf_r (q := 9) rfl ?_
  refine ps_get dX5_clear_9 fl_X5_11 hw1 rfl rfl (q := 12) rfl ?_
  refine pp_iload_n dX5_clear_12 rfl (q := 13) rfl ?_
  refine ps_aald dX5_clear_13 hw1 rfl rfl hi (by decide) (q := 14) rfl ?_
  rw [if_neg hf]
  change PP mX5_clear 14 _ [Value.null] _ _
  refine pp_astore_n dX5_clear_14 (by first | exact isRf_r | exact isRf_va | exact isRf_n) (by decide) (ls1_2 (nl1 rfl)) (q := 15) rfl ?_
  refine pp_aload_n dX5_clear_15 rfl (by first | exact isRf_r | exact isRf_va | exact isRf_n) (q := 16) rfl ?_
  refine pp_ifnull_n (tgt := 24) dX5_clear_16 (by decide) ?_
  refine pp_iinc dX5_clear_24 rfl (nI_1 _) (ls1_1 (nl1 rfl)) (q := 27) rfl ?_
  refine pp_goto (tgt := 2) dX5_clear_27 (by decide) ?_
  exact hk _ (hC.s0 hf) _
def clG (g : Sg) (w : Nat) : Sg := sA (sI (sI (sI (sI (sI (sB (sI g (10, w, 0) 1 (nI 0)) (12, w, 0) (fillL (gB (sI g (10, w, 0) 1 (nI 0)) (12, w, 0)) (lN 0) 64)) (20, w, 0) 3 (nI 0)) (20, w, 1) 3 (nI 0)) (13, w, 0) 2 (nI 0)) (13, w, 0) 3 (nI 0)) (20, w, 2) 3 (nI 0)) (14, w, 0) (fillf (gA (sI (sI (sI (sI (sI (sB (sI g (10, w, 0) 1 (nI 0)) (12, w, 0) (fillL (gB (sI g (10, w, 0) 1 (nI 0)) (12, w, 0)) (lN 0) 64)) (20, w, 0) 3 (nI 0)) (20, w, 1) 3 (nI 0)) (13, w, 0) 2 (nI 0)) (13, w, 0) 3 (nI 0)) (20, w, 2) 3 (nI 0)) (14, w, 0)) (nI 0) 12)
set_option maxRecDepth 20000 in
set_option maxHeartbeats 4000000 in
theorem e_clr {ad : Nm → Nat} {g1 : Sg} {w : Nat} (hw1 : al g1 (10, w, 0)) (x : Option Value) : PS mX5_clear 2 [some (.ref (ad (10, w, 0))), some (.int (nI 64)), x] [] ad g1 (Rv (fun g' => g' = clG g1 w)) := by
  refine pp_iload_n dX5_clear_2 rfl (q := 3) rfl ?_
  refine pp_bipush dX5_clear_3 cb_64 (q := 5) rfl ?_
  refine pp_icmp_ge (tgt := 30) dX5_clear_5 (by decide) (q := 8) rfl (fun c5 => ?_) (fun c5 => absurd (nI_le (Nat.le_refl 64) (by decide)) c5)
  refine pp_aload_n dX5_clear_30 rfl isRf_r (q := 31) rfl ?_
  refine pp_iconst dX5_clear_31 ci_0 (q := 32) rfl ?_
  refine ps_puti dX5_clear_32 fl_X5_17 hw1 rfl (by exact Nat.le_of_ble_eq_true rfl) rfl rfl rfl (q := 35) rfl ?_
  refine pp_aload_n dX5_clear_35 rfl isRf_r (q := 36) rfl ?_
  refine ps_get dX5_clear_36 fl_X5_21 hw1 rfl rfl (q := 39) rfl ?_
  refine pp_lconst (v := lN 0) dX5_clear_39 rfl (q := 40) rfl ?_
  refine ps_callSv dX5_clear_40 lk_X5_54 (by rfl) (c_fillL (by exact hw1)) (by rfl) (by exact Nat.le_of_ble_eq_true rfl) (by decide) (by decide) (by exact Nat.le_of_ble_eq_true rfl) (q := 43) rfl (fun g40 h40 => ?_)
  have h40 := h40.symm
  subst h40
  refine pp_aload_n dX5_clear_43 rfl isRf_r (q := 44) rfl ?_
  refine ps_get dX5_clear_44 fl_X5_28 hw1 rfl rfl (q := 47) rfl ?_
  refine ps_callVv dX5_clear_47 lk_X5_60 (by exact hw1) (by rfl) (by rfl) (by rfl) (c_clearB (by exact hw1)) (by rfl) (by exact Nat.le_of_ble_eq_true rfl) (by decide) (by decide) (by exact Nat.le_of_ble_eq_true rfl) (q := 50) rfl (fun g47 h47 => ?_)
  have h47 := h47.symm
  subst h47
  refine pp_aload_n dX5_clear_50 rfl isRf_r (q := 51) rfl ?_
  refine ps_get dX5_clear_51 fl_X5_37 hw1 rfl rfl (q := 54) rfl ?_
  refine pp_iconst dX5_clear_54 ci_0 (q := 55) rfl ?_
  refine ps_puti dX5_clear_55 fl_X5_63 hw1 rfl (by exact Nat.le_of_ble_eq_true rfl) rfl rfl rfl (q := 58) rfl ?_
  refine pp_aload_n dX5_clear_58 rfl isRf_r (q := 59) rfl ?_
  refine ps_get dX5_clear_59 fl_X5_41 hw1 rfl rfl (q := 62) rfl ?_
  refine pp_iconst dX5_clear_62 ci_0 (q := 63) rfl ?_
  refine ps_callSv dX5_clear_63 lk_X5_66 (by rfl) (c_fill (k := 12) (by exact hw1) (fun _ _ _ _ _ _ _ => rfl) (by decide)) (by rfl) (by exact Nat.le_of_ble_eq_true rfl) (by decide) (by decide) (by exact Nat.le_of_ble_eq_true rfl) (q := 66) rfl (fun g63 h63 => ?_)
  have h63 := h63.symm
  subst h63
  refine rv_ret dX5_clear_66 rfl ?_
  exact rfl
theorem l_clr {ad : Nm → Nat} {g : Sg} {w : Nat} (hw : al g (10, w, 0)) : ∀ (j i : Nat) (g1 : Sg), 64 - i < j → i ≤ 64 → Clr w g g1 i → ∀ x, PS mX5_clear 2 [some (.ref (ad (10, w, 0))), some (.int (nI i)), x] [] ad g1 (Rv (fun g' => ∃ g2, Clr w g g2 64 ∧ g' = clG g2 w)) := by
  intro j
  induction j with
  | zero => intro i g1 h; omega
  | succ j ih =>
    intro i g1 hij hik hC x
    by_cases e : i = 64
    · subst e
      refine (e_clr (hC.alv hw) x).weak (fun v G hG => ?_)
      obtain ⟨g', h1, h2, h3⟩ := hG
      exact ⟨g', h1, h2, g1, hC, h3⟩
    · by_cases hf : gF g1 (30, w, i) = true
      · exact s_clr1 (hC.alv hw) hC (by omega) hf (fun g2 hC2 => ih (i + 1) g2 (by omega) (by omega) hC2) x
      · exact s_clr0 (hC.alv hw) hC (by omega) hf (fun g2 hC2 => ih (i + 1) g2 (by omega) (by omega) hC2) x
theorem Clr.rf {w : Nat} {g : Sg} : Clr w g g 0 := ⟨rfl, rfl, rfl, rfl, rfl, rfl, rfl, fun _ _ => rfl, fun m hm => absurd hm (Nat.not_lt_zero m)⟩
theorem Clr.rx {w : Nat} {g g2 : Sg} {A : AW} {H : List Act} (hX : RX g w A H) (hC : Clr w g g2 64) : RX (clG g2 w) w A0 [] := by
  obtain ⟨a1, a2, a3, a4, a5, a6, a7, a8, a9⟩ := hC
  refine RX_A0 ⟨by show gF g2 _ = true; rw [a5]; exact hX.1.1.1, hX.1.1.2⟩ (fun r hr => ?_) ?_ ?_ ?_ (fun a ha => ?_) (fun k hk => ?_) (fun m hm ha => ?_) (fun r hr => ?_)
  · show gI (sI (sI (sI (sI (sI (sI g2 (10, w, 0) 1 (nI 0)) (20, w, 0) 3 (nI 0)) (20, w, 1) 3 (nI 0)) (13, w, 0) 2 (nI 0)) (13, w, 0) 3 (nI 0)) (20, w, 2) 3 (nI 0)) (20, w, r) 3 = nI 0
    obtain rfl | rfl | rfl : r = 0 ∨ r = 1 ∨ r = 2 := by omega
    all_goals simp [gI_sI]
  · show gI (sI (sI (sI (sI (sI (sI g2 (10, w, 0) 1 (nI 0)) (20, w, 0) 3 (nI 0)) (20, w, 1) 3 (nI 0)) (13, w, 0) 2 (nI 0)) (13, w, 0) 3 (nI 0)) (20, w, 2) 3 (nI 0)) (13, w, 0) 2 = nI 0
    simp [gI_sI]
  · show gI (sI (sI (sI (sI (sI (sI g2 (10, w, 0) 1 (nI 0)) (20, w, 0) 3 (nI 0)) (20, w, 1) 3 (nI 0)) (13, w, 0) 2 (nI 0)) (13, w, 0) 3 (nI 0)) (20, w, 2) 3 (nI 0)) (13, w, 0) 3 = nI 0
    simp [gI_sI]
  · show gI (sI (sI (sI (sI (sI (sI g2 (10, w, 0) 1 (nI 0)) (20, w, 0) 3 (nI 0)) (20, w, 1) 3 (nI 0)) (13, w, 0) 2 (nI 0)) (13, w, 0) 3 (nI 0)) (20, w, 2) 3 (nI 0)) (10, w, 0) 1 = nI 0
    simp [gI_sI]
  · show up3 (gB g2) (12, w, 0) (fillL (gB g2 (12, w, 0)) (lN 0) 64) (12, w, 0) a = 0
    rw [up3_eq]
    unfold fillL
    rw [if_pos ha]
    rfl
  · show up3 (gA g2) (14, w, 0) (fillf (gA g2 (14, w, 0)) (nI 0) 12) (14, w, 0) k = 0
    rw [up3_eq]
    unfold fillf
    rw [if_pos hk]
    rfl
  · have ha' : al g (30, w, m) := ⟨by rw [← a5]; exact ha.1, ha.2⟩
    refine ⟨?_, fun k j h1 h2 hj => ?_⟩
    · show gI (sI (sI (sI (sI (sI (sI g2 (10, w, 0) 1 (nI 0)) (20, w, 0) 3 (nI 0)) (20, w, 1) 3 (nI 0)) (13, w, 0) 2 (nI 0)) (13, w, 0) 3 (nI 0)) (20, w, 2) 3 (nI 0)) (30, w, m) 1 = nI 0
      rw [gI_sI, if_neg (fun q => by cases q.1), gI_sI, if_neg (fun q => by cases q.1), gI_sI, if_neg (fun q => by cases q.1), gI_sI, if_neg (fun q => by cases q.1), gI_sI, if_neg (fun q => by cases q.1), gI_sI, if_neg (fun q => by cases q.1)]
      exact a9 m hm ha'
    · show up3 (gA g2) (14, w, 0) (fillf (gA g2 (14, w, 0)) (nI 0) 12) (k, w, m) j = 0
      rw [up3_ne (fun q => by cases q; omega), a2]
      exact hX.1.zb hm ha' k j h1 h2 hj
  · show _ ≤ gN g2 _ ∧ gN g2 _ ≤ _
    rw [a4]
    exact hX.2.2 r hr
theorem Clr.w {w : Nat} {ad : Nm → Nat} {g g2 : Sg} (hC : Clr w g g2 64) : EqW w ad g ad (clG g2 w) := by
  obtain ⟨a1, a2, a3, a4, a5, a6, a7, a8, a9⟩ := hC
  have h2 : EqX (fun n => n.1 = 30 ∧ n.2.1 = w) g g2 := ⟨fun n hn => ⟨a8 n hn, by rw [a1], by rw [a2], by rw [a3]⟩, a4, a5, a6, a7⟩
  have q : ∀ k r, 10 ≤ k → k ≤ 36 → wA w (k, w, r) := fun k r h1 h2 => ⟨rfl, h1, h2⟩
  have h3 : EqX (wA w) g2 (clG g2 w) := (((((((EqX.rf.sI (q 10 0 (by omega) (by omega))).sB (q 12 0 (by omega) (by omega))).sI (q 20 0 (by omega) (by omega))).sI (q 20 1 (by omega) (by omega))).sI (q 13 0 (by omega) (by omega))).sI (q 13 0 (by omega) (by omega))).sI (q 20 2 (by omega) (by omega))).sA (q 14 0 (by omega) (by omega))
  exact ((h2.mono (fun n hn => ⟨hn.2, by have := hn.1; omega, by have := hn.1; omega⟩)).tr h3).W (fun _ h => h)
set_option maxRecDepth 20000 in
set_option maxHeartbeats 4000000 in
theorem c_clear {ad : Nm → Nat} {g : Sg} {w : Nat} {A : AW} {H : List Act} (hX : RX g w A H) : PS mX5_clear 0 (ent mX5_clear [.ref (ad (10, w, 0))]) [] ad g (Rv (fun g' => RX g' w A0 [] ∧ EqW w ad g ad g')) := by
  show PP mX5_clear 0 [some (.ref (ad (10, w, 0))), none, none] [] (Rel ad g) _
  refine pp_iconst dX5_clear_0 ci_0 (q := 1) rfl ?_
  refine pp_istore_n dX5_clear_1 (by decide) (ls1_1 (nl1 rfl)) (q := 2) rfl ?_
  refine (l_clr hX.1.1 65 0 g (by omega) (by omega) Clr.rf _).weak (fun v G hG => ?_)
  obtain ⟨g', h1, h2, g2, h3, rfl⟩ := hG
  exact ⟨_, h1, h2, h3.rx hX, h3.w⟩
