theorem RF.cg {f f' : Nat → Int32} {sd sd' : Nat → Int64} {A : AW} {n : Nat} (h : RF f sd A n False) (hf : ∀ i, i < 118735 → f' i = f i) (hs : ∀ i, i < 64 → sd' i = sd i) : RF f' sd' A n False := by
  obtain ⟨h1, h2, h3, h4, h5⟩ := h
  refine ⟨fun m hm => ⟨fun d => ((h1 m hm).1 d).cg (fun i hi => hf i (by have := own_lt hm hi; omega)) (hs m hm), fun d => ⟨?_, fun x hx => ?_⟩⟩, h2.cg (fun i _ hi => hf i (by omega)), h3.cg (fun i _ hi => hf i (by omega)), h4.cg (fun i _ hi => hf i hi), (hf _ (by omega)).trans h5⟩
  · rw [hf _ (by omega)]; exact ((h1 m hm).2 d).1
  · rw [hf _ (by unfold nw; omega)]; exact ((h1 m hm).2 d).2 x hx
def imE (a b : Nat) (g g' : Sg) : Prop := EqX (fun n => n = (a, 0, 0) ∨ n = (b, 0, 0)) g g'
set_option maxRecDepth 20000 in
set_option maxHeartbeats 4000000 in
theorem s_img1 {ad : Nm → Nat} {g : Sg} {i : Nat} {Q : Option Value → PH → Prop} (hm : al g (40, 0, 0)) (hi : i < 118735) (hk : PP mX7_image 2 [some (.ref (ad (40, 0, 0))), some (.int (nI (i + 1)))] [] (Rel ad (sA g (42, 0, 0) (upd (gA g (42, 0, 0)) i (gA g (41, 0, 0) i)))) Q) : PP mX7_image 2 [some (.ref (ad (40, 0, 0))), some (.int (nI i))] [] (Rel ad g) Q := by
  refine pp_iload_n dX7_image_2 rfl (q := 3) rfl ?_
  refine pp_ldc (v := nI 118735) dX7_image_3 kc_X7_7 (q := 5) rfl ?_
  refine pp_icmp_ge (tgt := 26) dX7_image_5 (by decide) (q := 8) rfl (fun c5 => absurd c5 (nI_ge hi (by decide))) (fun c5 => ?_)
  refine pp_aload_n dX7_image_8 rfl isRf_r (q := 9) rfl ?_
  refine ps_get dX7_image_9 fl_X7_14 hm rfl rfl (q := 12) rfl ?_
  refine pp_iload_n dX7_image_12 rfl (q := 13) rfl ?_
  refine pp_aload_n dX7_image_13 rfl isRf_r (q := 14) rfl ?_
  refine ps_get dX7_image_14 fl_X7_8 hm rfl rfl (q := 17) rfl ?_
  refine pp_iload_n dX7_image_17 rfl (q := 18) rfl ?_
  refine ps_iald (j := i) dX7_image_18 hm rfl rfl hi (by decide) (q := 19) rfl ?_
  refine ps_iast (j := i) dX7_image_19 hm (fun _ => rfl) rfl hi (by decide) (q := 20) rfl ?_
  refine pp_iinc dX7_image_20 rfl (nI_1 _) (ls1_1 (nl1 rfl)) (q := 23) rfl ?_
  refine pp_goto (tgt := 2) dX7_image_23 (by decide) ?_
  exact hk
set_option maxRecDepth 20000 in
set_option maxHeartbeats 4000000 in
theorem s_img2 {ad : Nm → Nat} {g : Sg} {Q : Option Value → PH → Prop} (hm : al g (40, 0, 0)) (hk : PP mX7_image 28 [some (.ref (ad (40, 0, 0))), some (.int (nI 0))] [] (Rel ad g) Q) : PP mX7_image 2 [some (.ref (ad (40, 0, 0))), some (.int (nI 118735))] [] (Rel ad g) Q := by
  refine pp_iload_n dX7_image_2 rfl (q := 3) rfl ?_
  refine pp_ldc (v := nI 118735) dX7_image_3 kc_X7_7 (q := 5) rfl ?_
  refine pp_icmp_ge (tgt := 26) dX7_image_5 (by decide) (q := 8) rfl (fun c5 => ?_) (fun c5 => absurd (by decide) c5)
  refine pp_iconst dX7_image_26 ci_0 (q := 27) rfl ?_
  refine pp_istore_n dX7_image_27 (by decide) (ls1_1 (nl1 rfl)) (q := 28) rfl ?_
  exact hk
set_option maxRecDepth 20000 in
set_option maxHeartbeats 4000000 in
theorem s_img3 {ad : Nm → Nat} {g : Sg} {i : Nat} {Q : Option Value → PH → Prop} (hm : al g (40, 0, 0)) (hi : i < 64) (hk : PP mX7_image 28 [some (.ref (ad (40, 0, 0))), some (.int (nI (i + 1)))] [] (Rel ad (sB g (44, 0, 0) (vp_updL (gB g (44, 0, 0)) i (gB g (43, 0, 0) i)))) Q) : PP mX7_image 28 [some (.ref (ad (40, 0, 0))), some (.int (nI i))] [] (Rel ad g) Q := by
  refine pp_iload_n dX7_image_28 rfl (q := 29) rfl ?_
  refine pp_bipush dX7_image_29 cb_64 (q := 31) rfl ?_
  refine pp_icmp_ge (tgt := 52) dX7_image_31 (by decide) (q := 34) rfl (fun c31 => absurd c31 (nI_ge hi (by decide))) (fun c31 => ?_)
  refine pp_aload_n dX7_image_34 rfl isRf_r (q := 35) rfl ?_
  refine ps_get dX7_image_35 fl_X7_21 hm rfl rfl (q := 38) rfl ?_
  refine pp_iload_n dX7_image_38 rfl (q := 39) rfl ?_
  refine pp_aload_n dX7_image_39 rfl isRf_r (q := 40) rfl ?_
  refine ps_get dX7_image_40 fl_X7_17 hm rfl rfl (q := 43) rfl ?_
  refine pp_iload_n dX7_image_43 rfl (q := 44) rfl ?_
  refine ps_lald (j := i) dX7_image_44 hm rfl rfl hi (by decide) (q := 45) rfl ?_
  refine ps_last (j := i) dX7_image_45 hm (fun _ => rfl) rfl hi (by decide) (q := 46) rfl ?_
  refine pp_iinc dX7_image_46 rfl (nI_1 _) (ls1_1 (nl1 rfl)) (q := 49) rfl ?_
  refine pp_goto (tgt := 28) dX7_image_49 (by decide) ?_
  exact hk
theorem l_img1 {ad : Nm → Nat} {g : Sg} {Q : Option Value → PH → Prop} (hm : al g (40, 0, 0)) (hk : ∀ g', imE 42 44 g g' → (∀ j, j < 118735 → gA g' (42, 0, 0) j = gA g (41, 0, 0) j) → PP mX7_image 28 [some (.ref (ad (40, 0, 0))), some (.int (nI 0))] [] (Rel ad g') Q) : ∀ (j i : Nat) (g' : Sg), 118735 - i < j → i ≤ 118735 → imE 42 44 g g' → (∀ j, j < i → gA g' (42, 0, 0) j = gA g (41, 0, 0) j) → PP mX7_image 2 [some (.ref (ad (40, 0, 0))), some (.int (nI i))] [] (Rel ad g') Q := by
  intro j
  induction j with
  | zero => intro i g' h; omega
  | succ j ih =>
    intro i g' hij hik hX hG
    have hm' : al g' (40, 0, 0) := hX.al' hm
    by_cases e : i = 118735
    · subst e
      exact s_img2 hm' (hk g' hX hG)
    · refine s_img1 hm' (by omega) (ih (i + 1) _ (by omega) (by omega) (hX.sA (Or.inl rfl)) (fun k hk => ?_))
      show upd (gA g' (42, 0, 0)) i (gA g' (41, 0, 0) i) k = _
      rw [(hX.1 (41, 0, 0) (by decide)).2.2.1]
      by_cases e2 : k = i
      · rw [e2, upd_eq]
      · rw [upd_ne e2]; exact hG k (by omega)
theorem l_img3 {ad : Nm → Nat} {g : Sg} {Q : Option Value → PH → Prop} (hm : al g (40, 0, 0)) (hk : ∀ g', imE 42 44 g g' → gA g' (42, 0, 0) = gA g (42, 0, 0) → (∀ j, j < 64 → gB g' (44, 0, 0) j = gB g (43, 0, 0) j) → PP mX7_image 28 [some (.ref (ad (40, 0, 0))), some (.int (nI 64))] [] (Rel ad g') Q) : ∀ (j i : Nat) (g' : Sg), 64 - i < j → i ≤ 64 → imE 42 44 g g' → gA g' (42, 0, 0) = gA g (42, 0, 0) → (∀ j, j < i → gB g' (44, 0, 0) j = gB g (43, 0, 0) j) → PP mX7_image 28 [some (.ref (ad (40, 0, 0))), some (.int (nI i))] [] (Rel ad g') Q := by
  intro j
  induction j with
  | zero => intro i g' h; omega
  | succ j ih =>
    intro i g' hij hik hX hA hG
    have hm' : al g' (40, 0, 0) := hX.al' hm
    by_cases e : i = 64
    · subst e
      exact hk g' hX hA hG
    · refine s_img3 hm' (by omega) (ih (i + 1) _ (by omega) (by omega) (hX.sB (Or.inr rfl)) hA (fun k hk => ?_))
      show vp_updL (gB g' (44, 0, 0)) i (gB g' (43, 0, 0) i) k = _
      rw [(hX.1 (43, 0, 0) (by decide)).2.2.2]
      by_cases e2 : k = i
      · rw [e2]; exact if_pos rfl
      · exact (if_neg e2).trans (hG k (by omega))
set_option maxRecDepth 20000 in
set_option maxHeartbeats 4000000 in
theorem s_bck1 {ad : Nm → Nat} {g : Sg} {i : Nat} {Q : Option Value → PH → Prop} (hm : al g (40, 0, 0)) (hi : i < 118735) (hk : PP mX7_back 16 [some (.ref (ad (40, 0, 0))), some (.int (nI (i + 1)))] [] (Rel ad (sA g (41, 0, 0) (upd (gA g (41, 0, 0)) i (gA g (42, 0, 0) i)))) Q) : PP mX7_back 16 [some (.ref (ad (40, 0, 0))), some (.int (nI i))] [] (Rel ad g) Q := by
  refine pp_iload_n dX7_back_16 rfl (q := 17) rfl ?_
  refine pp_ldc (v := nI 118735) dX7_back_17 kc_X7_7 (q := 19) rfl ?_
  refine pp_icmp_ge (tgt := 40) dX7_back_19 (by decide) (q := 22) rfl (fun c19 => absurd c19 (nI_ge hi (by decide))) (fun c19 => ?_)
  refine pp_aload_n dX7_back_22 rfl isRf_r (q := 23) rfl ?_
  refine ps_get dX7_back_23 fl_X7_8 hm rfl rfl (q := 26) rfl ?_
  refine pp_iload_n dX7_back_26 rfl (q := 27) rfl ?_
  refine pp_aload_n dX7_back_27 rfl isRf_r (q := 28) rfl ?_
  refine ps_get dX7_back_28 fl_X7_14 hm rfl rfl (q := 31) rfl ?_
  refine pp_iload_n dX7_back_31 rfl (q := 32) rfl ?_
  refine ps_iald (j := i) dX7_back_32 hm rfl rfl hi (by decide) (q := 33) rfl ?_
  refine ps_iast (j := i) dX7_back_33 hm (fun _ => rfl) rfl hi (by decide) (q := 34) rfl ?_
  refine pp_iinc dX7_back_34 rfl (nI_1 _) (ls1_1 (nl1 rfl)) (q := 37) rfl ?_
  refine pp_goto (tgt := 16) dX7_back_37 (by decide) ?_
  exact hk
set_option maxRecDepth 20000 in
set_option maxHeartbeats 4000000 in
theorem s_bck2 {ad : Nm → Nat} {g : Sg} {Q : Option Value → PH → Prop} (hm : al g (40, 0, 0)) (hk : PP mX7_back 42 [some (.ref (ad (40, 0, 0))), some (.int (nI 0))] [] (Rel ad g) Q) : PP mX7_back 16 [some (.ref (ad (40, 0, 0))), some (.int (nI 118735))] [] (Rel ad g) Q := by
  refine pp_iload_n dX7_back_16 rfl (q := 17) rfl ?_
  refine pp_ldc (v := nI 118735) dX7_back_17 kc_X7_7 (q := 19) rfl ?_
  refine pp_icmp_ge (tgt := 40) dX7_back_19 (by decide) (q := 22) rfl (fun c19 => ?_) (fun c19 => absurd (by decide) c19)
  refine pp_iconst dX7_back_40 ci_0 (q := 41) rfl ?_
  refine pp_istore_n dX7_back_41 (by decide) (ls1_1 (nl1 rfl)) (q := 42) rfl ?_
  exact hk
set_option maxRecDepth 20000 in
set_option maxHeartbeats 4000000 in
theorem s_bck3 {ad : Nm → Nat} {g : Sg} {i : Nat} {Q : Option Value → PH → Prop} (hm : al g (40, 0, 0)) (hi : i < 64) (hk : PP mX7_back 42 [some (.ref (ad (40, 0, 0))), some (.int (nI (i + 1)))] [] (Rel ad (sB g (43, 0, 0) (vp_updL (gB g (43, 0, 0)) i (gB g (44, 0, 0) i)))) Q) : PP mX7_back 42 [some (.ref (ad (40, 0, 0))), some (.int (nI i))] [] (Rel ad g) Q := by
  refine pp_iload_n dX7_back_42 rfl (q := 43) rfl ?_
  refine pp_bipush dX7_back_43 cb_64 (q := 45) rfl ?_
  refine pp_icmp_ge (tgt := 66) dX7_back_45 (by decide) (q := 48) rfl (fun c45 => absurd c45 (nI_ge hi (by decide))) (fun c45 => ?_)
  refine pp_aload_n dX7_back_48 rfl isRf_r (q := 49) rfl ?_
  refine ps_get dX7_back_49 fl_X7_17 hm rfl rfl (q := 52) rfl ?_
  refine pp_iload_n dX7_back_52 rfl (q := 53) rfl ?_
  refine pp_aload_n dX7_back_53 rfl isRf_r (q := 54) rfl ?_
  refine ps_get dX7_back_54 fl_X7_21 hm rfl rfl (q := 57) rfl ?_
  refine pp_iload_n dX7_back_57 rfl (q := 58) rfl ?_
  refine ps_lald (j := i) dX7_back_58 hm rfl rfl hi (by decide) (q := 59) rfl ?_
  refine ps_last (j := i) dX7_back_59 hm (fun _ => rfl) rfl hi (by decide) (q := 60) rfl ?_
  refine pp_iinc dX7_back_60 rfl (nI_1 _) (ls1_1 (nl1 rfl)) (q := 63) rfl ?_
  refine pp_goto (tgt := 42) dX7_back_63 (by decide) ?_
  exact hk
theorem l_bck1 {ad : Nm → Nat} {g : Sg} {Q : Option Value → PH → Prop} (hm : al g (40, 0, 0)) (hk : ∀ g', imE 41 43 g g' → (∀ j, j < 118735 → gA g' (41, 0, 0) j = gA g (42, 0, 0) j) → PP mX7_back 42 [some (.ref (ad (40, 0, 0))), some (.int (nI 0))] [] (Rel ad g') Q) : ∀ (j i : Nat) (g' : Sg), 118735 - i < j → i ≤ 118735 → imE 41 43 g g' → (∀ j, j < i → gA g' (41, 0, 0) j = gA g (42, 0, 0) j) → PP mX7_back 16 [some (.ref (ad (40, 0, 0))), some (.int (nI i))] [] (Rel ad g') Q := by
  intro j
  induction j with
  | zero => intro i g' h; omega
  | succ j ih =>
    intro i g' hij hik hX hG
    have hm' : al g' (40, 0, 0) := hX.al' hm
    by_cases e : i = 118735
    · subst e
      exact s_bck2 hm' (hk g' hX hG)
    · refine s_bck1 hm' (by omega) (ih (i + 1) _ (by omega) (by omega) (hX.sA (Or.inl rfl)) (fun k hk => ?_))
      show upd (gA g' (41, 0, 0)) i (gA g' (42, 0, 0) i) k = _
      rw [(hX.1 (42, 0, 0) (by decide)).2.2.1]
      by_cases e2 : k = i
      · rw [e2, upd_eq]
      · rw [upd_ne e2]; exact hG k (by omega)
theorem l_bck3 {ad : Nm → Nat} {g : Sg} {Q : Option Value → PH → Prop} (hm : al g (40, 0, 0)) (hk : ∀ g', imE 41 43 g g' → gA g' (41, 0, 0) = gA g (41, 0, 0) → (∀ j, j < 64 → gB g' (43, 0, 0) j = gB g (44, 0, 0) j) → PP mX7_back 42 [some (.ref (ad (40, 0, 0))), some (.int (nI 64))] [] (Rel ad g') Q) : ∀ (j i : Nat) (g' : Sg), 64 - i < j → i ≤ 64 → imE 41 43 g g' → gA g' (41, 0, 0) = gA g (41, 0, 0) → (∀ j, j < i → gB g' (43, 0, 0) j = gB g (44, 0, 0) j) → PP mX7_back 42 [some (.ref (ad (40, 0, 0))), some (.int (nI i))] [] (Rel ad g') Q := by
  intro j
  induction j with
  | zero => intro i g' h; omega
  | succ j ih =>
    intro i g' hij hik hX hA hG
    have hm' : al g' (40, 0, 0) := hX.al' hm
    by_cases e : i = 64
    · subst e
      exact hk g' hX hA hG
    · refine s_bck3 hm' (by omega) (ih (i + 1) _ (by omega) (by omega) (hX.sB (Or.inr rfl)) hA (fun k hk => ?_))
      show vp_updL (gB g' (43, 0, 0)) i (gB g' (44, 0, 0) i) k = _
      rw [(hX.1 (44, 0, 0) (by decide)).2.2.2]
      by_cases e2 : k = i
      · rw [e2]; exact if_pos rfl
      · exact (if_neg e2).trans (hG k (by omega))
set_option maxRecDepth 20000 in
set_option maxHeartbeats 4000000 in
theorem m_image {ad : Nm → Nat} {g : Sg} {S : CS} (hR : RR g S) (hH : okH (sH S)) : PS mX7_image 0 (ent mX7_image [.ref (ad (40, 0, 0))]) [] ad g (MdQ g (spImage S)) := by
  have h := hR.1
  have hI := inv_run hH
  have hn := okH_len hH
  show PP mX7_image 0 [some (.ref (ad (40, 0, 0))), none] [] (Rel ad g) _
  refine pp_iconst dX7_image_0 ci_0 (q := 1) rfl ?_
  refine pp_istore_n dX7_image_1 (by decide) (ls1_1 (nl1 rfl)) (q := 2) rfl ?_
  refine l_img1 (g := g) h.1 (fun g1 hX1 hG1 => ?_) 118736 0 g (by omega) (by omega) EqX.rf (fun j hj => absurd hj (by omega))
  have h1a : al g1 (40, 0, 0) := hX1.al' h.1
  refine l_img3 (g := g1) h1a (fun g2 hX2 hA2 hB2 => ?_) 65 0 g1 (by omega) (by omega) EqX.rf rfl (fun j hj => absurd hj (by omega))
  have h2a : al g2 (40, 0, 0) := hX2.al' h1a
  have hX : imE 42 44 g g2 := hX1.tr hX2
  have e41 : gA g2 (41, 0, 0) 118722 = gA g (41, 0, 0) 118722 := by rw [(hX.1 (41, 0, 0) (by decide)).2.2.1]
  have hfin : nI (sH S).length = (spImage S).1 ∧ RR (sI g2 (40, 0, 0) 4 (nI 1)) (spImage S).2 ∧ EqX mdS g (sI g2 (40, 0, 0) 4 (nI 1)) := by
    obtain ⟨r1, r2, r3, r4, r5, r8⟩ := hR
    have q : ∀ k, k ≠ 42 → k ≠ 44 → ¬ (((k, 0, 0) : Nm) = (42, 0, 0) ∨ ((k, 0, 0) : Nm) = (44, 0, 0)) := fun k h1 h2 q => q.elim (fun z => h1 (congrArg (fun z => z.1) z)) (fun z => h2 (congrArg (fun z => z.1) z))
    have hI4 : ∀ j, j ≠ 4 → gI (sI g2 (40, 0, 0) 4 (nI 1)) (40, 0, 0) j = gI g (40, 0, 0) j := fun j hj => by rw [gI_sI, if_neg (fun q => hj q.2), (hX.1 _ (q 40 (by omega) (by omega))).1]
    have hS2 : RS g2 (runA (sH S)) (sH S).length False := EqX.rs hX (fun n q => by rcases q with rfl | rfl <;> exact ⟨by decide, by decide⟩) r1
    refine ⟨rfl, ⟨⟨hS2.1, hS2.2⟩, ⟨by rw [gI_sI, if_pos ⟨rfl, rfl⟩], ?_⟩, fun k hk => ?_, ?_, ⟨(hI4 9 (by omega)).trans r5.1, r5.2.1, fun i v hv => ?_⟩, fun i hi => ?_⟩, (hX.mono (fun n q => by rcases q with rfl | rfl <;> exact ⟨by decide, by decide⟩)).sI ⟨by show 40 ≤ 40; omega, by show 40 ≤ 49; omega⟩⟩
    · show RF (gA g2 (42, 0, 0)) (gB g2 (44, 0, 0)) (runA (sH S)) (sH S).length False
      exact r1.2.cg (fun i hi => by rw [hA2]; exact hG1 i hi) (fun i hi => by rw [hB2 i hi, (hX1.1 (43, 0, 0) (by decide)).2.2.2])
    · show gA g2 (47, 0, 0) k = _
      rw [(hX.1 _ (q 47 (by omega) (by omega))).2.2.1]; exact r3 k hk
    · rw [hI4 10 (by omega)]; exact r4
    · show gA g2 (46, 0, 0) i = _
      rw [(hX.1 _ (q 46 (by omega) (by omega))).2.2.1]; exact r5.2.2 i v hv
    · show gA g2 (45, 0, 0) i = _
      rw [(hX.1 _ (q 45 (by omega) (by omega))).2.2.1]; exact r8 i hi
  refine pp_iload_n dX7_image_28 rfl (q := 29) rfl ?_
  refine pp_bipush dX7_image_29 cb_64 (q := 31) rfl ?_
  refine pp_icmp_ge (tgt := 52) dX7_image_31 (by decide) (q := 34) rfl (fun c31 => ?_) (fun c31 => absurd (by decide) c31)
  refine pp_aload_n dX7_image_52 rfl isRf_r (q := 53) rfl ?_
  refine pp_iconst dX7_image_53 ci_1 (q := 54) rfl ?_
  refine ps_puti dX7_image_54 fl_X7_213 h2a rfl (by exact Nat.le_of_ble_eq_true rfl) rfl rfl rfl (q := 57) rfl ?_
  refine pp_aload_n dX7_image_57 rfl isRf_r (q := 58) rfl ?_
  refine ps_get dX7_image_58 fl_X7_8 h2a rfl rfl (q := 61) rfl ?_
  refine pp_ldc (v := nI 118722) dX7_image_61 kc_X7_53 (q := 63) rfl ?_
  refine ps_iald (j := 118722) dX7_image_63 h2a rfl rfl (by omega) (by decide) (q := 64) rfl ?_
  rw [show gA (sI g2 (40, 0, 0) 4 (nI 1)) (41, 0, 0) 118722 = nI (sH S).length from e41.trans h.2.2.2.2.2]
  refine ri_ret dX7_image_64 rfl rfl ?_
  exact hfin
set_option maxRecDepth 20000 in
set_option maxHeartbeats 4000000 in
theorem m_back {ad : Nm → Nat} {g : Sg} {S : CS} (hR : RR g S) (hH : okH (sH S)) : PS mX7_back 0 (ent mX7_back [.ref (ad (40, 0, 0))]) [] ad g (MdQ g (spBack S)) := by
  have h := hR.1
  have hI := inv_run hH
  have hn := okH_len hH
  show PP mX7_back 0 [some (.ref (ad (40, 0, 0))), none] [] (Rel ad g) _
  refine pp_aload_n dX7_back_0 rfl isRf_r (q := 1) rfl ?_
  refine ps_get dX7_back_1 fl_X7_213 h.1 rfl rfl (q := 4) rfl ?_
  refine pp_if_ne (tgt := 14) dX7_back_4 (by decide) (q := 7) rfl (fun c4 => ?_) (fun c4 => ?_)
  · obtain ⟨K, eK, hK⟩ : ∃ K, S.2.1 = some K ∧ (gI g (40, 0, 0) 4 = nI 1 ∧ RF (gA g (42, 0, 0)) (gB g (44, 0, 0)) (runA K) K.length False) := by
      have r2 := hR.2.1
      unfold RK at r2
      cases e : sK S with
      | none => rw [e] at r2; exact absurd r2 c4
      | some K => rw [e] at r2; exact ⟨K, e, r2⟩
    refine pp_iconst dX7_back_14 ci_0 (q := 15) rfl ?_
    refine pp_istore_n dX7_back_15 (by decide) (ls1_1 (nl1 rfl)) (q := 16) rfl ?_
    refine l_bck1 (g := g) h.1 (fun g1 hX1 hG1 => ?_) 118736 0 g (by omega) (by omega) EqX.rf (fun j hj => absurd hj (by omega))
    have h1a : al g1 (40, 0, 0) := hX1.al' h.1
    refine l_bck3 (g := g1) h1a (fun g2 hX2 hA2 hB2 => ?_) 65 0 g1 (by omega) (by omega) EqX.rf rfl (fun j hj => absurd hj (by omega))
    have h2a : al g2 (40, 0, 0) := hX2.al' h1a
    have hX : imE 41 43 g g2 := hX1.tr hX2
    have hS2 : RS g2 (runA K) K.length False := ⟨h2a, hK.2.cg (fun i hi => by rw [hA2]; exact hG1 i hi) (fun i hi => by rw [hB2 i hi, (hX1.1 (44, 0, 0) (by decide)).2.2.2])⟩
    have hfin : nI K.length = (spBack S).1 ∧ RR g2 (spBack S).2 ∧ EqX mdS g g2 := by
      have es : spBack S = (nI K.length, (K, some K, S.2.2)) := by unfold spBack; rw [eK]
      rw [es]
      obtain ⟨r1, r2, r3, r4, r5, r8⟩ := hR
      have q : ∀ k, k ≠ 41 → k ≠ 43 → ¬ (((k, 0, 0) : Nm) = (41, 0, 0) ∨ ((k, 0, 0) : Nm) = (43, 0, 0)) := fun k h1 h2 q => q.elim (fun z => h1 (congrArg (fun z => z.1) z)) (fun z => h2 (congrArg (fun z => z.1) z))
      have e40 : gI g2 (40, 0, 0) = gI g (40, 0, 0) := (hX.1 _ (q 40 (by omega) (by omega))).1
      refine ⟨rfl, ⟨hS2, ⟨by rw [e40]; exact hK.1, ?_⟩, fun k hk => ?_, by rw [e40]; exact r4, ⟨by rw [e40]; exact r5.1, r5.2.1, fun i v hv => ?_⟩, fun i hi => ?_⟩, hX.mono (fun n q => by rcases q with rfl | rfl <;> exact ⟨by decide, by decide⟩)⟩
      · rw [(hX.1 _ (q 42 (by omega) (by omega))).2.2.1, (hX.1 _ (q 44 (by omega) (by omega))).2.2.2]; exact hK.2
      · rw [(hX.1 _ (q 47 (by omega) (by omega))).2.2.1]; exact r3 k hk
      · rw [(hX.1 _ (q 46 (by omega) (by omega))).2.2.1]; exact r5.2.2 i v hv
      · rw [(hX.1 _ (q 45 (by omega) (by omega))).2.2.1]; exact r8 i hi
    refine pp_iload_n dX7_back_42 rfl (q := 43) rfl ?_
    refine pp_bipush dX7_back_43 cb_64 (q := 45) rfl ?_
    refine pp_icmp_ge (tgt := 66) dX7_back_45 (by decide) (q := 48) rfl (fun c45 => ?_) (fun c45 => absurd (by decide) c45)
    refine pp_aload_n dX7_back_66 rfl isRf_r (q := 67) rfl ?_
    refine ps_get dX7_back_67 fl_X7_8 h2a rfl rfl (q := 70) rfl ?_
    refine pp_ldc (v := nI 118722) dX7_back_70 kc_X7_53 (q := 72) rfl ?_
    refine ps_iald (j := 118722) dX7_back_72 h2a rfl rfl (by omega) (by decide) (q := 73) rfl ?_
    rw [show gA g2 (41, 0, 0) 118722 = nI K.length from hS2.2.2.2.2.2]
    refine ri_ret dX7_back_73 rfl rfl ?_
    exact hfin
  · have eK : S.2.1 = none := by
      have r2 := hR.2.1
      unfold RK at r2
      cases e : sK S with
      | none => exact e
      | some K => rw [e] at r2; exact absurd (r2.1.symm.trans c4) (by decide)
    refine pp_aload_n dX7_back_7 rfl isRf_r (q := 8) rfl ?_
    refine pp_bipush dX7_back_8 cb_m9 (q := 10) rfl ?_
    refine ps_callVi dX7_back_10 lk_X7_132 (by exact h.1) (by rfl) (by rfl) (by rfl) (m_no9 h.1) (by rfl) (by exact Nat.le_of_ble_eq_true rfl) (by decide) (by decide) (by exact Nat.le_of_ble_eq_true rfl) (q := 13) rfl (fun r10 g10 h10 => ?_)
    obtain ⟨rfl, rfl⟩ := And.intro h10.1.symm h10.2.symm
    refine ri_ret dX7_back_13 rfl rfl ?_
    exact mq_no hR (by unfold isW; omega) (by unfold spBack; rw [eK])
