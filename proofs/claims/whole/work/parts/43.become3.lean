theorem rS_b {w r : Nat} (hr : r < 2) : ∀ n, rS w r n → bkS w n := fun n q => by
  rcases q with rfl | rfl
  · exact ⟨rfl, Or.inr (Or.inl rfl), hr⟩
  · exact ⟨rfl, Or.inr (Or.inr rfl), hr⟩
theorem RB_r0 {g g' : Sg} {w n : Nat} {B : Bk} {L : Nat → Nat → Int32} (hB : RB g w B) (he : EqX (rS w 0) g g') (hr : rOk g' w 0 n) (hL : ∀ l c, l < n → c < 8 → rv g' w 0 l c = L l c) : RB g' w ((n, bP B), B.2.1, L, bp B) := by
  obtain ⟨b1, b2, b3, b4, b5, b6⟩ := hB
  have q : ∀ k a b, (k ≠ 20 ∧ k ≠ 21 ∨ b ≠ 0) → ¬ rS w 0 (k, a, b) := fun k a b hk hb => by rcases hb with e | e <;> cases e <;> omega
  refine ⟨hr, ⟨b2.1, by rw [(he.1 _ (q 20 w 1 (by omega))).1]; exact b2.2.1, by rw [he.2.1]; exact b2.2.2.1, by rw [he.2.1]; exact b2.2.2.2⟩, by rw [(he.1 _ (q 13 w 0 (by omega))).1]; exact b3, by rw [(he.1 _ (q 13 w 0 (by omega))).1]; exact b4, hL, fun p c hp hc => ?_⟩
  unfold rv
  rw [(he.1 _ (q 21 w 1 (by omega))).2.2.1]
  exact b6 p c hp hc
theorem RB_r1 {g g' : Sg} {w n : Nat} {B : Bk} {L : Nat → Nat → Int32} (hB : RB g w B) (he : EqX (rS w 1) g g') (hr : rOk g' w 1 n) (hL : ∀ l c, l < n → c < 4 → rv g' w 1 l c = L l c) : RB g' w ((bL B, n), B.2.1, bl B, L) := by
  obtain ⟨b1, b2, b3, b4, b5, b6⟩ := hB
  have q : ∀ k a b, (k ≠ 20 ∧ k ≠ 21 ∨ b ≠ 1) → ¬ rS w 1 (k, a, b) := fun k a b hk hb => by rcases hb with e | e <;> cases e <;> omega
  refine ⟨⟨b1.1, by rw [(he.1 _ (q 20 w 0 (by omega))).1]; exact b1.2.1, by rw [he.2.1]; exact b1.2.2.1, by rw [he.2.1]; exact b1.2.2.2⟩, hr, by rw [(he.1 _ (q 13 w 0 (by omega))).1]; exact b3, by rw [(he.1 _ (q 13 w 0 (by omega))).1]; exact b4, fun p c hp hc => ?_, hL⟩
  unfold rv
  rw [(he.1 _ (q 21 w 0 (by omega))).2.2.1]
  exact b5 p c hp hc
theorem RB_dx {g : Sg} {w d x : Nat} {B : Bk} (hB : RB g w B) : RB (sI (sI g (13, w, 0) 2 (nI d)) (13, w, 0) 3 (nI x)) w (B.1, (d, x), B.2.2) := by
  obtain ⟨b1, b2, b3, b4, b5, b6⟩ := hB
  have q : ∀ r, gI (sI (sI g (13, w, 0) 2 (nI d)) (13, w, 0) 3 (nI x)) (20, w, r) 3 = gI g (20, w, r) 3 := fun r => by
    rw [gI_sI, if_neg (fun q => by cases q.1), gI_sI, if_neg (fun q => by cases q.1)]
  refine ⟨⟨b1.1, by rw [q]; exact b1.2.1, b1.2.2.1, b1.2.2.2⟩, ⟨b2.1, by rw [q]; exact b2.2.1, b2.2.2.1, b2.2.2.2⟩, ?_, ?_, b5, b6⟩
  · rw [gI_sI, if_neg (fun q => by cases q.2), gI_sI, if_pos ⟨rfl, rfl⟩]
  · rw [gI_sI, if_pos ⟨rfl, rfl⟩]
set_option maxRecDepth 20000 in
set_option maxHeartbeats 4000000 in
theorem c_becB {ad : Nm → Nat} {g : Sg} {w w' : Nat} {A V : AW} {H K : List Act} (hX : RX g w A H) (hV : RX g w' V K) (hne : w' ≠ w) (hl : bL (aB V) ≤ 1200) (hp : bP (aB V) ≤ 20000) : PP mX0_become 0 (ent mX0_become [.ref (ad (13, w, 0)), .ref (ad (13, w', 0))]) [] (Rel ad g) (PQ (fun v ad' g' => v = none ∧ EqW w ad g ad' g' ∧ RX g' w (aBk A (aB V)) H)) := by
  show PP mX0_become 0 [some (.ref (ad (13, w, 0))), some (.ref (ad (13, w', 0)))] [] (Rel ad g) _
  refine pp_aload_n dX0_become_0 rfl isRf_r (q := 1) rfl ?_
  refine ps_get dX0_become_1 fl_X0_14 (by first | exact hX2.1.1 | exact hX1.1.1 | exact hX.1.1) rfl rfl (q := 4) rfl ?_
  refine pp_aload_n dX0_become_4 rfl isRf_r (q := 5) rfl ?_
  refine ps_get dX0_become_5 fl_X0_14 (by first | exact hV2.1.1 | exact hV1.1.1 | exact hV.1.1) rfl rfl (q := 8) rfl ?_
  refine ps_callVq dX0_become_8 lk_X0_68 (by exact (by first | exact hX2.1.1 | exact hX1.1.1 | exact hX.1.1)) (by rfl) (by rfl) (by rfl) (c_becR (by exact hX.1.1) (by exact hV.1.1) hX.1.2.1.1 hV.1.2.1.1 (hX.2.2 0 (by omega)) hl) (by rfl) (by exact Nat.le_of_ble_eq_true rfl) (by decide) (by decide) (by exact Nat.le_of_ble_eq_true rfl) (q := 11) rfl (fun v8 ad8 g8 h8 => ?_)
  obtain ⟨rfl, hE1, ⟨⟨g1, hgx, hex⟩, hok, hrv⟩⟩ := h8
  have hV1 := hE1.rx hne hV
  have hXg := hgx.RXE (by omega) hX
  have hX1 := RX_bk hXg (hex.mono (rS_b (by omega))) (RB_r0 hXg.1.2.1 hex hok (fun l c h1 h2 => (hrv l c h1 h2).trans (hV.1.2.1.2.2.2.2.1 l c h1 h2)))
  rw [← hE1.2.1 (13, w, 0) hX.1.1 (by show 13 ≠ 21; omega), ← hE1.2.1 (13, w', 0) hV.1.1 (by show 13 ≠ 21; omega)]
  change PP mX0_become 11 _ [] _ _
  refine pp_aload_n dX0_become_11 rfl isRf_r (q := 12) rfl ?_
  refine ps_get dX0_become_12 fl_X0_20 (by first | exact hX2.1.1 | exact hX1.1.1 | exact hX.1.1) rfl rfl (q := 15) rfl ?_
  refine pp_aload_n dX0_become_15 rfl isRf_r (q := 16) rfl ?_
  refine ps_get dX0_become_16 fl_X0_20 (by first | exact hV2.1.1 | exact hV1.1.1 | exact hV.1.1) rfl rfl (q := 19) rfl ?_
  refine ps_callVq dX0_become_19 lk_X0_68 (by exact (by first | exact hX2.1.1 | exact hX1.1.1 | exact hX.1.1)) (by rfl) (by rfl) (by rfl) (c_becR (by exact hX1.1.1) (by exact hV1.1.1) hX1.1.2.1.2.1 hV1.1.2.1.2.1 (hX1.2.2 1 (by omega)) hp) (by rfl) (by exact Nat.le_of_ble_eq_true rfl) (by decide) (by decide) (by exact Nat.le_of_ble_eq_true rfl) (q := 22) rfl (fun v19 ad19 g19 h19 => ?_)
  obtain ⟨rfl, hE2, ⟨⟨g2, hgx2, hex2⟩, hok2, hrv2⟩⟩ := h19
  have hV2 := hE2.rx hne hV1
  have hXg2 := hgx2.RXE (by omega) hX1
  have hX2 := RX_bk hXg2 (hex2.mono (rS_b (by omega))) (RB_r1 hXg2.1.2.1 hex2 hok2 (fun l c h1 h2 => (hrv2 l c h1 h2).trans (hV1.1.2.1.2.2.2.2.2 l c h1 h2)))
  rw [← hE2.2.1 (13, w, 0) hX1.1.1 (by show 13 ≠ 21; omega), ← hE2.2.1 (13, w', 0) hV1.1.1 (by show 13 ≠ 21; omega)]
  change PP mX0_become 22 _ [] _ _
  refine pp_aload_n dX0_become_22 rfl isRf_r (q := 23) rfl ?_
  refine pp_aload_n dX0_become_23 rfl isRf_r (q := 24) rfl ?_
  refine ps_get dX0_become_24 fl_X0_23 (by first | exact hV2.1.1 | exact hV1.1.1 | exact hV.1.1) rfl rfl (q := 27) rfl ?_
  rw [hV2.1.2.1.2.2.1]
  refine ps_puti dX0_become_27 fl_X0_23 (by first | exact hX2.1.1 | exact hX1.1.1 | exact hX.1.1) rfl (by exact Nat.le_of_ble_eq_true rfl) rfl rfl rfl (q := 30) rfl ?_
  refine pp_aload_n dX0_become_30 rfl isRf_r (q := 31) rfl ?_
  refine pp_aload_n dX0_become_31 rfl isRf_r (q := 32) rfl ?_
  refine ps_get dX0_become_32 fl_X0_27 (by first | exact hV2.1.1 | exact hV1.1.1 | exact hV.1.1) rfl rfl (q := 35) rfl ?_
  rw [show gI (sI g19 (13, w, 0) 2 (nI (bD (aB V)))) (13, w', 0) 3 = nI (bX (aB V)) from by rw [gI_sI, if_neg (fun q => by cases q.2)]; exact hV2.1.2.1.2.2.2.1]
  refine ps_puti dX0_become_35 fl_X0_27 (by first | exact hX2.1.1 | exact hX1.1.1 | exact hX.1.1) rfl (by exact Nat.le_of_ble_eq_true rfl) rfl rfl rfl (q := 38) rfl ?_
  refine pp_vret dX0_become_38 rfl (fun G hG => ⟨_, _, hG, ?_⟩)
  have hE3 : EqX (bkS w) g19 (sI (sI g19 (13, w, 0) 2 (nI (bD (aB V)))) (13, w, 0) 3 (nI (bX (aB V)))) := (EqX.rf.sI ⟨rfl, Or.inl rfl, by show 0 < 2; omega⟩).sI ⟨rfl, Or.inl rfl, by show 0 < 2; omega⟩
  have hX3 := RX_bk hX2 hE3 (RB_dx (d := bD (aB V)) (x := bX (aB V)) hX2.1.2.1)
  exact ⟨rfl, (hE1.tr hE2).tr (hE3.mono (fun _ h => bkS_w h)).w, hX3⟩
/-! the members of a world, one by one -/
def mixA (A V : AW) (i : Nat) : AW := (fun m => if m < i then V.1 m else A.1 m, A.2)
theorem mixA_0 {A V : AW} : mixA A V 0 = A := by
  unfold mixA
  have : (fun m => if m < 0 then V.1 m else A.1 m) = A.1 := by funext m; rw [if_neg (Nat.not_lt_zero m)]
  rw [this]
theorem mixA_s {A V : AW} {i : Nat} : aSet (mixA A V i) i (V.1 i) = mixA A V (i + 1) := by
  unfold mixA aSet
  congr 1
  funext m
  dsimp only
  by_cases e : m = i
  · subst e; rw [if_pos rfl, if_pos (by omega)]
  · rw [if_neg e]
    by_cases h : m < i
    · rw [if_pos h, if_pos (by omega)]
    · rw [if_neg h, if_neg (by omega)]
theorem RW_rep {g : Sg} {w m : Nat} {A : AW} {M : Me} (h : RW g w A) (hf : ¬ al g (30, w, m)) (hM : ¬ M.1 1 = nI 1) : RW g w (aSet A m M) := by
  obtain ⟨h1, h2, h3, h4, h5, h6, h7⟩ := h
  refine ⟨h1, h2, h3, h4, h5, fun m' hm' hd => ?_, fun m' hm' hd ha => ?_⟩
  · by_cases e : m' = m
    · subst e
      exact absurd (by have : ((aSet A m' M).1 m').1 1 = nI 1 := hd; rw [aSet_m] at this; exact this) hM
    · rw [aSet_ne e]
      exact h6 m' hm' (by have : ((aSet A m M).1 m').1 1 = nI 1 := hd; rw [aSet_ne e] at this; exact this)
  · by_cases e : m' = m
    · subst e; exact absurd ha hf
    · exact h7 m' hm' (fun q => hd (by show ((aSet A m M).1 m').1 1 = nI 1; rw [aSet_ne e]; exact q)) ha
theorem RW_unm {g : Sg} {w m : Nat} {A : AW} {M : Me} (h : RW g w A) (hm : m < 64) (ha : al g (30, w, m)) (hM : ¬ M.1 1 = nI 1) : RW (sI g (30, w, m) 1 (nI 0)) w (aSet A m M) := by
  have hz := h.zb hm ha
  obtain ⟨h1, h2, h3, h4, h5, h6, h7⟩ := h
  have he : EqX (memS w m) g (sI g (30, w, m) 1 (nI 0)) := EqX.rf.sI ⟨rfl, rfl, by show 30 ≤ 30; omega, by show 30 ≤ 36; omega⟩
  have ne : ∀ k a b, k < 30 → ¬ memS w m (k, a, b) := fun k a b hk q => by have := q.2.2.1; omega
  have hb : RB (sI g (30, w, m) 1 (nI 0)) w (aB A) := by
    obtain ⟨b1, b2, b3, b4, b5, b6⟩ := h2
    have r : ∀ r n, rOk g w r n → rOk (sI g (30, w, m) 1 (nI 0)) w r n := fun r n hr => ⟨hr.1, by rw [(he.1 (20, w, r) (ne _ _ _ (by omega))).1]; exact hr.2.1, hr.2.2.1, hr.2.2.2⟩
    exact ⟨r _ _ b1, r _ _ b2, by rw [(he.1 (13, w, 0) (ne _ _ _ (by omega))).1]; exact b3, by rw [(he.1 (13, w, 0) (ne _ _ _ (by omega))).1]; exact b4, b5, b6⟩
  refine ⟨h1, hb, by rw [(he.1 (10, w, 0) (ne _ _ _ (by omega))).1]; exact h3, h4, h5, fun m' hm' hd => ?_, fun m' hm' hd ha' => ?_⟩
  · by_cases e : m' = m
    · subst e
      exact absurd (by have : ((aSet A m' M).1 m').1 1 = nI 1 := hd; rw [aSet_m] at this; exact this) hM
    · rw [aSet_ne e]
      exact (h6 m' hm' (by have : ((aSet A m M).1 m').1 1 = nI 1 := hd; rw [aSet_ne e] at this; exact this)).eqx he (fun k a b q => e q.2.1)
  · by_cases e : m' = m
    · subst e
      exact ⟨by rw [gI_sI, if_pos ⟨rfl, rfl⟩], hz⟩
    · obtain ⟨c1, c2⟩ := h7 m' hm' (fun q => hd (by show ((aSet A m M).1 m').1 1 = nI 1; rw [aSet_ne e]; exact q)) ha'
      exact ⟨by rw [(he.1 (30, w, m') (fun q => e q.2.1)).1]; exact c1, c2⟩
set_option maxRecDepth 20000 in
set_option maxHeartbeats 4000000 in
theorem s_becm {ad1 : Nm → Nat} {g1 : Sg} {w w' i : Nat} {A V : AW} {H K : List Act} {Q : Option Value → PH → Prop} (hX : RX g1 w (mixA A V i) H) (hV : RX g1 w' V K) (hne : w' ≠ w) (hi : i < 64) (hd : mdA V i) (hk : ∀ ad2 g2, RX g2 w (mixA A V (i + 1)) H → RX g2 w' V K → EqW w ad1 g1 ad2 g2 → ∀ x y, PP mX5_become 2 [some (.ref (ad2 (10, w, 0))), some (.ref (ad2 (10, w', 0))), some (.int (nI (i + 1))), x, y] [] (Rel ad2 g2) Q) (x y : Option Value) : PP mX5_become 2 [some (.ref (ad1 (10, w, 0))), some (.ref (ad1 (10, w', 0))), some (.int (nI i)), x, y] [] (Rel ad1 g1) Q := by
  refine pp_iload_n dX5_become_2 rfl (q := 3) rfl ?_
  refine pp_bipush dX5_become_3 cb_64 (q := 5) rfl ?_
  refine pp_icmp_ge (tgt := 55) dX5_become_5 (by decide) (q := 8) rfl (fun c5 => absurd c5 (nI_ge hi (by decide))) (fun c5 => ?_)
  refine pp_aload_n dX5_become_8 rfl isRf_r (q := 9) rfl ?_
  refine pp_iload_n dX5_become_9 rfl (q := 10) rfl ?_
  refine ps_callVr dX5_become_10 lk_X5_76 (by exact (by first | exact hV3.1.1 | exact hV2.1.1 | exact hV1.1.1 | exact hV.1.1)) (by rfl) (by rfl) (by rfl) (c_memAt hV.1 hi hd) (by rfl) (by exact Nat.le_of_ble_eq_true rfl) (by decide) (by decide) (by exact Nat.le_of_ble_eq_true rfl) (q := 13) rfl (fun r10 g10 h10 => ?_)
  obtain ⟨rfl, rfl⟩ := And.intro h10.1.symm h10.2.symm
  change PP mX5_become 13 _ [Value.ref (ad1 (30, w', i))] _ _
  refine pp_astore_n dX5_become_13 isRf_r (by decide) (ls1_3 (nl1 rfl)) (q := 14) rfl ?_
  refine pp_aload_n dX5_become_14 rfl isRf_r (q := 15) rfl ?_
  refine ps_get dX5_become_15 fl_X5_11 (by first | exact hX3.1.1 | exact hX2.1.1 | exact hX1.1.1 | exact hX.1.1) rfl rfl (q := 18) rfl ?_
  refine pp_iload_n dX5_become_18 rfl (q := 19) rfl ?_
  refine ps_aald dX5_become_19 (by first | exact hX3.1.1 | exact hX2.1.1 | exact hX1.1.1 | exact hX.1.1) rfl rfl hi (by decide) (q := 20) rfl ?_
  refine pp_astore dX5_become_20 (by first | exact isRf_r | exact isRf_va | exact isRf_n) (by decide) (ls1_4 (nl1 rfl)) (q := 22) rfl ?_
  refine pp_aload_n dX5_become_22 rfl isRf_r (q := 23) rfl ?_
  refine pp_ifnull_r dX5_become_23 (q := 26) rfl ?_
  refine pp_aload_n dX5_become_26 rfl isRf_r (q := 27) rfl ?_
  refine pp_iload_n dX5_become_27 rfl (q := 28) rfl ?_
  refine ps_callVq dX5_become_28 lk_X5_174 (by exact (by first | exact hX3.1.1 | exact hX2.1.1 | exact hX1.1.1 | exact hX.1.1)) (by rfl) (by rfl) (by rfl) (c_seatQ hX hi) (by rfl) (by exact Nat.le_of_ble_eq_true rfl) (by decide) (by decide) (by exact Nat.le_of_ble_eq_true rfl) (q := 31) rfl (fun v28 ad28 g28 h28 => ?_)
  obtain ⟨rfl, hE1, hX1, ha1⟩ := h28
  have hV1 := hE1.rx hne hV
  rw [← hE1.2.1 (10, w, 0) hX.1.1 (by show 10 ≠ 21; omega), ← hE1.2.1 (10, w', 0) hV.1.1 (by show 10 ≠ 21; omega), ← hE1.2.1 (30, w', i) (hV.1.m hi hd).1 (by show 30 ≠ 21; omega)]
  change PP mX5_become 31 _ [Value.ref (ad28 (30, w, i))] _ _
  refine pp_aload_n dX5_become_31 rfl isRf_r (q := 32) rfl ?_
  refine ps_callVv dX5_become_32 lk_X5_308 (by exact ha1) (by rfl) (by rfl) (by rfl) (c_becM ha1 (hV1.1.m hi hd) hd (hX1.1.zb hi ha1) hne) (by rfl) (by exact Nat.le_of_ble_eq_true rfl) (by decide) (by decide) (by exact Nat.le_of_ble_eq_true rfl) (q := 35) rfl (fun g32 h32 => ?_)
  obtain ⟨hM2, hE2⟩ := h32
  have hX2 := hX1.of (RW_mem hX1.1 hE2 hM2 hd) (hE2.mono m_w)
  rw [mixA_s] at hX2
  have hE3 : EqW w ad28 g28 ad28 g32 := (hE2.mono m_w).w
  have hV2 := hE3.rx hne hV1
  refine pp_goto (tgt := 49) dX5_become_35 (by decide) ?_
  refine pp_iinc dX5_become_49 rfl (nI_1 _) (ls1_2 (nl1 rfl)) (q := 52) rfl ?_
  refine pp_goto (tgt := 2) dX5_become_52 (by decide) ?_
  exact hk _ _ hX2 hV2 (hE1.tr hE3) _ _
set_option maxRecDepth 20000 in
set_option maxHeartbeats 4000000 in
theorem s_becu {ad1 : Nm → Nat} {g1 : Sg} {w w' i : Nat} {A V : AW} {H K : List Act} {Q : Option Value → PH → Prop} (hX : RX g1 w (mixA A V i) H) (hV : RX g1 w' V K) (hne : w' ≠ w) (hi : i < 64) (hd : ¬ mdA V i) (hf : gF g1 (30, w, i) = true) (hk : ∀ ad2 g2, RX g2 w (mixA A V (i + 1)) H → RX g2 w' V K → EqW w ad1 g1 ad2 g2 → ∀ x y, PP mX5_become 2 [some (.ref (ad2 (10, w, 0))), some (.ref (ad2 (10, w', 0))), some (.int (nI (i + 1))), x, y] [] (Rel ad2 g2) Q) (x y : Option Value) : PP mX5_become 2 [some (.ref (ad1 (10, w, 0))), some (.ref (ad1 (10, w', 0))), some (.int (nI i)), x, y] [] (Rel ad1 g1) Q := by
  have hal : al g1 (30, w, i) := ⟨hf, fun h => by cases h⟩
  refine pp_iload_n dX5_become_2 rfl (q := 3) rfl ?_
  refine pp_bipush dX5_become_3 cb_64 (q := 5) rfl ?_
  refine pp_icmp_ge (tgt := 55) dX5_become_5 (by decide) (q := 8) rfl (fun c5 => absurd c5 (nI_ge hi (by decide))) (fun c5 => ?_)
  refine pp_aload_n dX5_become_8 rfl isRf_r (q := 9) rfl ?_
  refine pp_iload_n dX5_become_9 rfl (q := 10) rfl ?_
  refine ps_callVr dX5_become_10 lk_X5_76 (by exact (by first | exact hV3.1.1 | exact hV2.1.1 | exact hV1.1.1 | exact hV.1.1)) (by rfl) (by rfl) (by rfl) (c_memAt_no hV.1 (noM_of hi hd)) (by rfl) (by exact Nat.le_of_ble_eq_true rfl) (by decide) (by decide) (by exact Nat.le_of_ble_eq_true rfl) (q := 13) rfl (fun r10 g10 h10 => ?_)
  obtain ⟨rfl, rfl⟩ := And.intro h10.1.symm h10.2.symm
  change PP mX5_become 13 _ [Value.null] _ _
  refine pp_astore_n dX5_become_13 (by first | exact isRf_r | exact isRf_va | exact isRf_n) (by decide) (ls1_3 (nl1 rfl)) (q := 14) rfl ?_
  refine pp_aload_n dX5_become_14 rfl isRf_r (q := 15) rfl ?_
  refine ps_get dX5_become_15 fl_X5_11 (by first | exact hX3.1.1 | exact hX2.1.1 | exact hX1.1.1 | exact hX.1.1) rfl rfl (q := 18) rfl ?_
  refine pp_iload_n dX5_become_18 rfl (q := 19) rfl ?_
  refine ps_aald dX5_become_19 (by first | exact hX3.1.1 | exact hX2.1.1 | exact hX1.1.1 | exact hX.1.1) rfl rfl hi (by decide) (q := 20) rfl ?_
  rw [if_pos hf]
  change PP mX5_become 20 _ [Value.ref (ad1 (30, w, i))] _ _
  refine pp_astore dX5_become_20 isRf_r (by decide) (ls1_4 (nl1 rfl)) (q := 22) rfl ?_
  refine pp_aload_n dX5_become_22 rfl (by first | exact isRf_r | exact isRf_va | exact isRf_n) (q := 23) rfl ?_
  refine pp_ifnull_n (tgt := 38) dX5_become_23 (by decide) ?_
  refine pp_aload dX5_become_38 rfl isRf_r (q := 40) rfl ?_
  refine pp_ifnull_r dX5_become_40 (q := 43) rfl ?_
  refine pp_aload dX5_become_43 rfl isRf_r (q := 45) rfl ?_
  refine pp_iconst dX5_become_45 ci_0 (q := 46) rfl ?_
  refine ps_puti dX5_become_46 fl_X5_51 hal rfl (by exact Nat.le_of_ble_eq_true rfl) rfl rfl rfl (q := 49) rfl ?_
  have hE3 : EqX (memS w i) g1 (sI g1 (30, w, i) 1 (nI 0)) := EqX.rf.sI ⟨rfl, rfl, by show 30 ≤ 30; omega, by show 30 ≤ 36; omega⟩
  have hX3 := hX.of (RW_unm (M := V.1 i) hX.1 hi hal hd) (hE3.mono m_w)
  rw [mixA_s] at hX3
  have hE4 : EqW w ad1 g1 ad1 (sI g1 (30, w, i) 1 (nI 0)) := (hE3.mono m_w).w
  have hV3 := hE4.rx hne hV
  refine pp_iinc dX5_become_49 rfl (nI_1 _) (ls1_2 (nl1 rfl)) (q := 52) rfl ?_
  refine pp_goto (tgt := 2) dX5_become_52 (by decide) ?_
  exact hk _ _ hX3 hV3 hE4 _ _
set_option maxRecDepth 20000 in
set_option maxHeartbeats 4000000 in
theorem s_becn {ad1 : Nm → Nat} {g1 : Sg} {w w' i : Nat} {A V : AW} {H K : List Act} {Q : Option Value → PH → Prop} (hX : RX g1 w (mixA A V i) H) (hV : RX g1 w' V K) (hne : w' ≠ w) (hi : i < 64) (hd : ¬ mdA V i) (hf : ¬ gF g1 (30, w, i) = true) (hk : ∀ ad2 g2, RX g2 w (mixA A V (i + 1)) H → RX g2 w' V K → EqW w ad1 g1 ad2 g2 → ∀ x y, PP mX5_become 2 [some (.ref (ad2 (10, w, 0))), some (.ref (ad2 (10, w', 0))), some (.int (nI (i + 1))), x, y] [] (Rel ad2 g2) Q) (x y : Option Value) : PP mX5_become 2 [some (.ref (ad1 (10, w, 0))), some (.ref (ad1 (10, w', 0))), some (.int (nI i)), x, y] [] (Rel ad1 g1) Q := by
  have hX3 := hX.of (RW_rep (M := V.1 i) hX.1 (fun q => hf q.1) hd) EqX.rf
  rw [mixA_s] at hX3
  refine pp_iload_n dX5_become_2 rfl (q := 3) rfl ?_
  refine pp_bipush dX5_become_3 cb_64 (q := 5) rfl ?_
  refine pp_icmp_ge (tgt := 55) dX5_become_5 (by decide) (q := 8) rfl (fun c5 => absurd c5 (nI_ge hi (by decide))) (fun c5 => ?_)
  refine pp_aload_n dX5_become_8 rfl isRf_r (q := 9) rfl ?_
  refine pp_iload_n dX5_become_9 rfl (q := 10) rfl ?_
  refine ps_callVr dX5_become_10 lk_X5_76 (by exact (by first | exact hV3.1.1 | exact hV2.1.1 | exact hV1.1.1 | exact hV.1.1)) (by rfl) (by rfl) (by rfl) (c_memAt_no hV.1 (noM_of hi hd)) (by rfl) (by exact Nat.le_of_ble_eq_true rfl) (by decide) (by decide) (by exact Nat.le_of_ble_eq_true rfl) (q := 13) rfl (fun r10 g10 h10 => ?_)
  obtain ⟨rfl, rfl⟩ := And.intro h10.1.symm h10.2.symm
  change PP mX5_become 13 _ [Value.null] _ _
  refine pp_astore_n dX5_become_13 (by first | exact isRf_r | exact isRf_va | exact isRf_n) (by decide) (ls1_3 (nl1 rfl)) (q := 14) rfl ?_
  refine pp_aload_n dX5_become_14 rfl isRf_r (q := 15) rfl ?_
  refine ps_get dX5_become_15 fl_X5_11 (by first | exact hX3.1.1 | exact hX2.1.1 | exact hX1.1.1 | exact hX.1.1) rfl rfl (q := 18) rfl ?_
  refine pp_iload_n dX5_become_18 rfl (q := 19) rfl ?_
  refine ps_aald dX5_become_19 (by first | exact hX3.1.1 | exact hX2.1.1 | exact hX1.1.1 | exact hX.1.1) rfl rfl hi (by decide) (q := 20) rfl ?_
  rw [if_neg hf]
  change PP mX5_become 20 _ [Value.null] _ _
  refine pp_astore dX5_become_20 (by first | exact isRf_r | exact isRf_va | exact isRf_n) (by decide) (ls1_4 (nl1 rfl)) (q := 22) rfl ?_
  refine pp_aload_n dX5_become_22 rfl (by first | exact isRf_r | exact isRf_va | exact isRf_n) (q := 23) rfl ?_
  refine pp_ifnull_n (tgt := 38) dX5_become_23 (by decide) ?_
  refine pp_aload dX5_become_38 rfl (by first | exact isRf_r | exact isRf_va | exact isRf_n) (q := 40) rfl ?_
  refine pp_ifnull_n (tgt := 49) dX5_become_40 (by decide) ?_
  refine pp_iinc dX5_become_49 rfl (nI_1 _) (ls1_2 (nl1 rfl)) (q := 52) rfl ?_
  refine pp_goto (tgt := 2) dX5_become_52 (by decide) ?_
  exact hk _ _ hX3 hV EqW.rf _ _
theorem RW_cut {g : Sg} {w : Nat} {A : AW} {f c : Nat → Int64} (h : RW g w A) (hf : ∀ a, a < 64 → f a = c a) : RW (sB g (12, w, 0) f) w (A.1, A.2.1, c, A.2.2.2) := by
  obtain ⟨h1, h2, h3, h4, h5, h6, h7⟩ := h
  refine ⟨h1, h2, h3, fun a ha => ?_, h5, h6, h7⟩
  rw [gB_sB, if_pos rfl]
  exact hf a ha
theorem RA_bec {g g' : Sg} {w w' : Nat} {K : List Act} (hK : RA g w' K) (hr : rOk g' w 2 K.length) (hv : ∀ i j, i < K.length → j < wdN 2 → rv g' w 2 i j = rv g w' 2 i j) : RA g' w K := ⟨hr, fun i h c hh hc => (hv i c (lt_of_getE hh) hc).trans (hK.2 i h c hh hc)⟩
set_option maxRecDepth 20000 in
set_option maxHeartbeats 4000000 in
theorem e_bec {ad1 : Nm → Nat} {g1 : Sg} {w w' : Nat} {A V : AW} {H K : List Act} (hX : RX g1 w (mixA A V 64) H) (hV : RX g1 w' V K) (hne : w' ≠ w) (hl : bL (aB V) ≤ 1200) (hp : bP (aB V) ≤ 20000) (hn : K.length ≤ 4000) (x y : Option Value) : PP mX5_become 2 [some (.ref (ad1 (10, w, 0))), some (.ref (ad1 (10, w', 0))), some (.int (nI 64)), x, y] [] (Rel ad1 g1) (PQ (fun v ad' g' => v = none ∧ EqW w ad1 g1 ad' g' ∧ RX g' w V K)) := by
  refine pp_iload_n dX5_become_2 rfl (q := 3) rfl ?_
  refine pp_bipush dX5_become_3 cb_64 (q := 5) rfl ?_
  refine pp_icmp_ge (tgt := 55) dX5_become_5 (by decide) (q := 8) rfl (fun c5 => ?_) (fun c5 => absurd (nI_le (Nat.le_refl 64) (by decide)) c5)
  refine pp_aload_n dX5_become_55 rfl isRf_r (q := 56) rfl ?_
  refine pp_aload_n dX5_become_56 rfl isRf_r (q := 57) rfl ?_
  refine ps_get dX5_become_57 fl_X5_17 (by first | exact hV4.1.1 | exact hV3.1.1 | exact hV2.1.1 | exact hV1.1.1 | exact hV.1.1) rfl rfl (q := 60) rfl ?_
  rw [hV.1.2.2.1]
  refine ps_puti dX5_become_60 fl_X5_17 (by first | exact hW4.1 | exact hX3.1.1 | exact hX2.1.1 | exact hX1.1.1 | exact hX.1.1) rfl (by exact Nat.le_of_ble_eq_true rfl) rfl rfl rfl (q := 63) rfl ?_
  have hX1 := hX.of (RW_mk (k := V.2.1) hX.1) (EqX.rf.sI (wS_of (by decide) (by decide)))
  have hE1 : EqW w ad1 g1 ad1 (sI g1 (10, w, 0) 1 (nI V.2.1)) := (EqX.rf.sI (wS_of (by decide) (by decide))).w
  have hV1 := hE1.rx hne hV
  refine pp_aload_n dX5_become_63 rfl isRf_r (q := 64) rfl ?_
  refine ps_get dX5_become_64 fl_X5_21 (by first | exact hV4.1.1 | exact hV3.1.1 | exact hV2.1.1 | exact hV1.1.1 | exact hV.1.1) rfl rfl (q := 67) rfl ?_
  refine pp_iconst dX5_become_67 ci_0 (q := 68) rfl ?_
  refine pp_aload_n dX5_become_68 rfl isRf_r (q := 69) rfl ?_
  refine ps_get dX5_become_69 fl_X5_21 (by first | exact hW4.1 | exact hX3.1.1 | exact hX2.1.1 | exact hX1.1.1 | exact hX.1.1) rfl rfl (q := 72) rfl ?_
  refine pp_iconst dX5_become_72 ci_0 (q := 73) rfl ?_
  refine pp_bipush dX5_become_73 cb_64 (q := 75) rfl ?_
  refine ps_copyl (n := (12, w', 0)) (m := (12, w, 0)) (n1 := 64) (n2 := 64) (a := 0) (b := 0) (k := 64) dX5_become_75 lc_X5_250 (by exact hV1.1.1) (by exact hX1.1.1) rfl (fun _ => rfl) rfl rfl rfl (by omega) (by omega) (by decide) (by decide) (by exact Nat.le_of_ble_eq_true rfl) (q := 78) rfl ?_
  have hX2 := hX1.of (RW_cut (c := V.2.2.1) hX1.1 (f := va_cpy (gB (sI g1 (10, w, 0) 1 (nI V.2.1)) (12, w', 0)) (gB (sI g1 (10, w, 0) 1 (nI V.2.1)) (12, w, 0)) 0 0 64) (fun a ha => by unfold va_cpy; rw [if_pos ⟨by omega, by omega⟩]; have := hV1.1.2.2.2.1 a ha; simpa using this)) (EqX.rf.sB (wS_of (by decide) (by decide)))
  have hE2 : EqW w ad1 (sI g1 (10, w, 0) 1 (nI V.2.1)) ad1 (sB (sI g1 (10, w, 0) 1 (nI V.2.1)) (12, w, 0) (va_cpy (gB (sI g1 (10, w, 0) 1 (nI V.2.1)) (12, w', 0)) (gB (sI g1 (10, w, 0) 1 (nI V.2.1)) (12, w, 0)) 0 0 64)) := (EqX.rf.sB (wS_of (by decide) (by decide))).w
  have hV2 := hE2.rx hne hV1
  refine pp_aload_n dX5_become_78 rfl isRf_r (q := 79) rfl ?_
  refine ps_get dX5_become_79 fl_X5_28 (by first | exact hW4.1 | exact hX3.1.1 | exact hX2.1.1 | exact hX1.1.1 | exact hX.1.1) rfl rfl (q := 82) rfl ?_
  refine pp_aload_n dX5_become_82 rfl isRf_r (q := 83) rfl ?_
  refine ps_get dX5_become_83 fl_X5_28 (by first | exact hV4.1.1 | exact hV3.1.1 | exact hV2.1.1 | exact hV1.1.1 | exact hV.1.1) rfl rfl (q := 86) rfl ?_
  refine ps_callVq dX5_become_86 lk_X5_311 (by exact (by first | exact hW4.1 | exact hX3.1.1 | exact hX2.1.1 | exact hX1.1.1 | exact hX.1.1)) (by rfl) (by rfl) (by rfl) (c_becB hX2 hV2 hne hl hp) (by rfl) (by exact Nat.le_of_ble_eq_true rfl) (by decide) (by decide) (by exact Nat.le_of_ble_eq_true rfl) (q := 89) rfl (fun v86 ad86 g86 h86 => ?_)
  obtain ⟨rfl, hE3, hX3⟩ := h86
  have hV3 := hE3.rx hne hV2
  rw [← hE3.2.1 (10, w, 0) hX2.1.1 (by show 10 ≠ 21; omega), ← hE3.2.1 (10, w', 0) hV2.1.1 (by show 10 ≠ 21; omega)]
  change PP mX5_become 89 _ [] _ _
  refine pp_aload_n dX5_become_89 rfl isRf_r (q := 90) rfl ?_
  refine ps_get dX5_become_90 fl_X5_37 (by first | exact hW4.1 | exact hX3.1.1 | exact hX2.1.1 | exact hX1.1.1 | exact hX.1.1) rfl rfl (q := 93) rfl ?_
  refine pp_aload_n dX5_become_93 rfl isRf_r (q := 94) rfl ?_
  refine ps_get dX5_become_94 fl_X5_37 (by first | exact hV4.1.1 | exact hV3.1.1 | exact hV2.1.1 | exact hV1.1.1 | exact hV.1.1) rfl rfl (q := 97) rfl ?_
  refine ps_callVq dX5_become_97 lk_X5_314 (by exact (by first | exact hW4.1 | exact hX3.1.1 | exact hX2.1.1 | exact hX1.1.1 | exact hX.1.1)) (by rfl) (by rfl) (by rfl) (c_becR (by exact hX3.1.1) (by exact hV3.1.1) hX3.2.1.1 hV3.2.1.1 (hX3.2.2 2 (by omega)) hn) (by rfl) (by exact Nat.le_of_ble_eq_true rfl) (by decide) (by decide) (by exact Nat.le_of_ble_eq_true rfl) (q := 100) rfl (fun v97 ad97 g97 h97 => ?_)
  obtain ⟨rfl, hE4, ⟨⟨g4, hgx, hex⟩, hok, hrv⟩⟩ := h97
  have hV4 := hE4.rx hne hV3
  have hXg := hgx.RXE (by omega) hX3
  have hW4 := RW_acts hXg.1 hex
  have hC4 : Cp g97 w := fun r hr => by rw [hex.2.1]; exact hXg.2.2 r hr
  have hA4 := RA_bec hV3.2.1 hok hrv
  have hX4 := And.intro hW4 (And.intro hA4 hC4)
  rw [← hE4.2.1 (10, w, 0) hX3.1.1 (by show 10 ≠ 21; omega), ← hE4.2.1 (10, w', 0) hV3.1.1 (by show 10 ≠ 21; omega)]
  change PP mX5_become 100 _ [] _ _
  refine pp_aload_n dX5_become_100 rfl isRf_r (q := 101) rfl ?_
  refine ps_get dX5_become_101 fl_X5_41 (by first | exact hV4.1.1 | exact hV3.1.1 | exact hV2.1.1 | exact hV1.1.1 | exact hV.1.1) rfl rfl (q := 104) rfl ?_
  refine pp_iconst dX5_become_104 ci_0 (q := 105) rfl ?_
  refine pp_aload_n dX5_become_105 rfl isRf_r (q := 106) rfl ?_
  refine ps_get dX5_become_106 fl_X5_41 (by first | exact hW4.1 | exact hX3.1.1 | exact hX2.1.1 | exact hX1.1.1 | exact hX.1.1) rfl rfl (q := 109) rfl ?_
  refine pp_iconst dX5_become_109 ci_0 (q := 110) rfl ?_
  refine pp_bipush dX5_become_110 cb_12 (q := 112) rfl ?_
  refine ps_copyi (n := (14, w', 0)) (m := (14, w, 0)) (n1 := 12) (n2 := 12) (a := 0) (b := 0) (k := 12) dX5_become_112 lc_X5_250 (by exact hV4.1.1) (by exact hW4.1) rfl (fun _ => rfl) rfl rfl rfl (by omega) (by omega) (by decide) (by decide) (by exact Nat.le_of_ble_eq_true rfl) (q := 115) rfl ?_
  refine pp_vret dX5_become_115 rfl (fun G hG => ⟨_, _, hG, ?_⟩)
  have hE5 : EqX (fun n => n = (14, w, 0)) g97 (sA g97 (14, w, 0) (va_cpy (gA g97 (14, w', 0)) (gA g97 (14, w, 0)) 0 0 12)) := EqX.rf.sA rfl
  have hW5 := RW_tr (f := V.2.2.2.1) hW4 hE5 (fun k hk => by
    rw [gA_sA, if_pos rfl]
    unfold va_cpy
    rw [if_pos ⟨by omega, by omega⟩]
    have := hV4.1.2.2.2.2.1 k hk
    simpa using this)
  have hX5 : RX _ w _ K := RX.of (A := aBk ((mixA A V 64).1, V.2.1, V.2.2.1, A.2.2.2) (aB V)) hX4 hW5 (hE5.mono t_w)
  refine ⟨rfl, (((hE1.tr hE2).tr hE3).tr hE4).tr (hE5.mono t_w).w, ?_⟩
  refine ⟨⟨hX5.1.1, hX5.1.2.1, hX5.1.2.2.1, hX5.1.2.2.2.1, hX5.1.2.2.2.2.1, fun m hm hd => ?_, fun m hm hd ha => ?_⟩, hX5.2⟩
  · have e : (mixA A V 64).1 m = V.1 m := if_pos hm
    have := hX5.1.2.2.2.2.2.1 m hm (by show ((mixA A V 64).1 m).1 1 = nI 1; rw [e]; exact hd)
    have h2 : RM _ w m ((mixA A V 64).1 m) := this
    rw [e] at h2
    exact h2
  · have e : (mixA A V 64).1 m = V.1 m := if_pos hm
    exact hX5.1.2.2.2.2.2.2 m hm (fun q => hd (by have q2 : ((mixA A V 64).1 m).1 1 = nI 1 := q; rw [e] at q2; exact q2)) ha
theorem l_bec {ad : Nm → Nat} {g : Sg} {w w' : Nat} {A V : AW} {H K : List Act} (hne : w' ≠ w) (hl : bL (aB V) ≤ 1200) (hp : bP (aB V) ≤ 20000) (hn : K.length ≤ 4000) : ∀ (j i : Nat) (ad1 : Nm → Nat) (g1 : Sg), 64 - i < j → i ≤ 64 → RX g1 w (mixA A V i) H → RX g1 w' V K → EqW w ad g ad1 g1 → ∀ x y, PP mX5_become 2 [some (.ref (ad1 (10, w, 0))), some (.ref (ad1 (10, w', 0))), some (.int (nI i)), x, y] [] (Rel ad1 g1) (PQ (fun v ad' g' => v = none ∧ EqW w ad g ad' g' ∧ RX g' w V K)) := by
  intro j
  induction j with
  | zero => intro i ad1 g1 h; omega
  | succ j ih =>
    intro i ad1 g1 hij hik hX hV hE x y
    by_cases e : i = 64
    · subst e
      refine (e_bec hX hV hne hl hp hn x y).weak (fun v G hG => ?_)
      obtain ⟨ad', g', h1, h2, h3, h4⟩ := hG
      exact ⟨ad', g', h1, h2, hE.tr h3, h4⟩
    · by_cases hd : mdA V i
      · exact s_becm hX hV hne (by omega) hd (fun ad2 g2 a b c => ih (i + 1) ad2 g2 (by omega) (by omega) a b (hE.tr c)) x y
      · by_cases hf : gF g1 (30, w, i) = true
        · exact s_becu hX hV hne (by omega) hd hf (fun ad2 g2 a b c => ih (i + 1) ad2 g2 (by omega) (by omega) a b (hE.tr c)) x y
        · exact s_becn hX hV hne (by omega) hd hf (fun ad2 g2 a b c => ih (i + 1) ad2 g2 (by omega) (by omega) a b (hE.tr c)) x y
set_option maxRecDepth 20000 in
set_option maxHeartbeats 4000000 in
theorem c_becW {ad : Nm → Nat} {g : Sg} {w w' : Nat} {A V : AW} {H K : List Act} (hX : RX g w A H) (hV : RX g w' V K) (hne : w' ≠ w) (hl : bL (aB V) ≤ 1200) (hp : bP (aB V) ≤ 20000) (hn : K.length ≤ 4000) : PP mX5_become 0 (ent mX5_become [.ref (ad (10, w, 0)), .ref (ad (10, w', 0))]) [] (Rel ad g) (PQ (fun v ad' g' => v = none ∧ EqW w ad g ad' g' ∧ RX g' w V K)) := by
  show PP mX5_become 0 [some (.ref (ad (10, w, 0))), some (.ref (ad (10, w', 0))), none, none, none] [] (Rel ad g) _
  refine pp_iconst dX5_become_0 ci_0 (q := 1) rfl ?_
  refine pp_istore_n dX5_become_1 (by decide) (ls1_2 (nl1 rfl)) (q := 2) rfl ?_
  exact l_bec (A := A) (H := H) hne hl hp hn 65 0 ad g (by omega) (by omega) (by rw [mixA_0]; exact hX) hV EqW.rf _ _
