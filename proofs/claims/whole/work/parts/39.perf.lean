/-! an act, by its number: the world and the answer -/
def cl (x : Int32) : Nat := x.toNatClampNeg
theorem cl_nI {n : Nat} (h : n < 2 ^ 31) : cl (nI n) = n := nI_clamp h
def faA (A : AW) (m : Nat) : AW × Int32 := (aSet A m (meFgt m (meSI (A.1 m) 2 (nI 1))), (meFgt m (meSI (A.1 m) 2 (nI 1))).1 4)
def riA (A : AW) (m : Nat) : AW × Int32 := (aSet A m (meRai m ((meSI (A.1 m) 2 (nI 0)).1 4 + nI 1) (meSI (A.1 m) 2 (nI 0))), (meRai m ((meSI (A.1 m) 2 (nI 0)).1 4 + nI 1) (meSI (A.1 m) 2 (nI 0))).1 4)
def loA (A : AW) (l : Nat) : AW × Int32 := (aBk A (exB (aB A) l), nI (bL (exB (aB A) l)) - nI (bD (exB (aB A) l)) - nI (bX (exB (aB A) l)))
noncomputable def liA (A : AW) (i j : Nat) (b : Prop) : AW × Int32 := cIf (tb (A.2.2.1 i) j ↔ b) (A, nI 0) (ctA A i j, nI 1)
noncomputable def stA (A : AW) (act : Nat) (a b : Int32) (sd : Int64) : AW × Int32 := match act with
  | 1 => (aMk A (cl a) sd, nI (A.2.1 + 1))
  | 2 => (sndA A (cl a) (nI 5) b (-1), nI (bL (aB A)))
  | 3 => gwA A (cl a)
  | 4 => ttA A (cl a)
  | 5 => faA A (cl a)
  | 6 => riA A (cl a)
  | 7 => brA A (cl a) (cl (bl (aB A) (cl a) 1)) (cl (bl (aB A) (cl a) 2)) (cl (bl (aB A) (cl a) 4)) (cl (bl (aB A) (cl a) 7))
  | 8 => loA A (cl a)
  | 9 => (aBk A (cpB (aB A) (cl a) (cl (bl (aB A) (cl a) 4)) (cl (bl (aB A) (cl a) 7))), nI (bL (aB A)))
  | 10 => liA A (cl a) (cl b) True
  | _ => liA A (cl a) (cl b) False
/-- what an act needs of the world -/
def okX (A : AW) : Prop := (∀ l, l < bL (aB A) → ∃ k s f t, pOk (aB A) l k s ∧ bl (aB A) l 1 = nI f ∧ f < 64 ∧ bl (aB A) l 2 = nI t ∧ t < 64 ∧ ∀ i, i < k → ∃ x, x < 64 ∧ bp (aB A) (s + i) 0 = nI x) ∧ ∀ m, m < 64 → mdA A m → wfR m (A.1 m)
theorem whyA_0 {A : AW} {n v : Nat} {a b : Int32} (h : whyA A n v a b = nI 0) : ¬ beyP A v a b ∧ ¬ misP A v a b ∧ ¬ dwnP A v a ∧ ¬ natP A v a b ∧ (bL (aB A) ≤ 1196 ∧ bP (aB A) ≤ 19800) ∧ n < 4000 := by
  unfold whyA at h
  by_cases h1 : beyP A v a b
  · rw [cIf_t h1] at h; exact absurd h (by decide)
  rw [cIf_f h1] at h
  by_cases h2 : misP A v a b
  · rw [cIf_t h2] at h; exact absurd h (by decide)
  rw [cIf_f h2] at h
  by_cases h3 : dwnP A v a
  · rw [cIf_t h3] at h; exact absurd h (by decide)
  rw [cIf_f h3] at h
  by_cases h4 : natP A v a b
  · rw [cIf_t h4] at h; exact absurd h (by decide)
  rw [cIf_f h4] at h
  by_cases h5 : (bL (aB A) ≤ 1196 ∧ bP (aB A) ≤ 19800) ∧ n < 4000
  · exact ⟨h1, h2, h3, h4, h5.1, h5.2⟩
  rw [cIf_f h5] at h
  exact absurd h (by decide)
theorem RX_bk {g g' : Sg} {w : Nat} {A : AW} {H : List Act} {B : Bk} (hX : RX g w A H) (he : EqX (bkS w) g g') (hB : RB g' w B) : RX g' w (aBk A B) H := hX.of (RW_bk hX.1 he hB) (he.mono (fun _ h => bkS_w h))
set_option maxRecDepth 20000 in
set_option maxHeartbeats 4000000 in
theorem c_pf1 {ad : Nm → Nat} {g : Sg} {w : Nat} {A : AW} {H : List Act} {sd : Int64} {z : Int32} {i : Nat} {b : Int32} (hX : RX g w A H) (hok : okX A) (hr : bL (aB A) ≤ 1196 ∧ bP (aB A) ≤ 19800) (hn : H.length < 4000) (hi : i < 64) (hd : ¬ mdA A i) : PP mX5_perform 17 [some (.ref (ad (10, w, 0))), some (.int (nI 1)), some (.int (nI i)), some (.int b), some (.long sd), none, some (.int z), none] [] (Rel ad g) (PQ (fun v ad' g' => EqW w ad g ad' g' ∧ v = some (.int ((aMk A i sd, nI (A.2.1 + 1))).2) ∧ RX g' w ((aMk A i sd, nI (A.2.1 + 1))).1 (H ++ [(nI 1, (nI i), b, sd)]))) := by
  refine pp_aload_n dX5_perform_17 rfl isRf_r (q := 18) rfl ?_
  refine pp_iload_n dX5_perform_18 rfl (q := 19) rfl ?_
  refine pp_iload_n dX5_perform_19 rfl (q := 20) rfl ?_
  refine pp_iload_n dX5_perform_20 rfl (q := 21) rfl ?_
  refine pp_lload dX5_perform_21 rfl (q := 23) rfl ?_
  refine ps_callVq dX5_perform_23 lk_X5_90 (by exact (by first | exact hX3.1.1 | exact hX2.1.1 | exact hX1.1.1 | exact hX.1.1)) (by rfl) (by rfl) (by rfl) (c_keepAct hX hn) (by rfl) (by exact Nat.le_of_ble_eq_true rfl) (by decide) (by decide) (by exact Nat.le_of_ble_eq_true rfl) (q := 26) rfl (fun v23 ad23 g23 h23 => ?_)
  obtain ⟨rfl, hE1, hX1⟩ := h23
  rw [← hE1.2.1 (10, w, 0) hX.1.1 (by show 10 ≠ 21; omega)]
  change PP mX5_perform 26 _ [] _ _
  refine pp_aload_n dX5_perform_26 rfl isRf_r (q := 27) rfl ?_
  refine ps_get dX5_perform_27 fl_X5_28 (by first | exact hX3.1.1 | exact hX2.1.1 | exact hX1.1.1 | exact hX.1.1) rfl rfl (q := 30) rfl ?_
  refine ps_callVq dX5_perform_30 lk_X5_94 (by exact (by first | exact hX3.1.1 | exact hX2.1.1 | exact hX1.1.1 | exact hX.1.1)) (by rfl) (by rfl) (by rfl) (c_reserveF hX1 hr.1 hr.2) (by rfl) (by exact Nat.le_of_ble_eq_true rfl) (by decide) (by decide) (by exact Nat.le_of_ble_eq_true rfl) (q := 33) rfl (fun v30 ad30 g30 h30 => ?_)
  obtain ⟨rfl, hE2, hX2, hroL, hroP⟩ := h30
  rw [← hE2.2.1 (10, w, 0) hX1.1.1 (by show 10 ≠ 21; omega)]
  change PP mX5_perform 33 _ [] _ _
  refine pp_iload_n dX5_perform_33 rfl (q := 34) rfl ?_
  refine pp_tswK (v := 1) (tgt := 92) dX5_perform_34 rfl (by decide) (by decide) (by decide) rfl (by decide) ?_
  refine pp_aload_n dX5_perform_92 rfl isRf_r (q := 93) rfl ?_
  refine pp_iload_n dX5_perform_93 rfl (q := 94) rfl ?_
  refine pp_lload dX5_perform_94 rfl (q := 96) rfl ?_
  refine ps_callVq dX5_perform_96 lk_X5_97 (by exact (by first | exact hX3.1.1 | exact hX2.1.1 | exact hX1.1.1 | exact hX.1.1)) (by rfl) (by rfl) (by rfl) (c_makeM hX2 hi hd) (by rfl) (by exact Nat.le_of_ble_eq_true rfl) (by decide) (by decide) (by exact Nat.le_of_ble_eq_true rfl) (q := 99) rfl (fun v96 ad96 g96 h96 => ?_)
  obtain ⟨rfl, hE3, hX3⟩ := h96
  change PP mX5_perform 99 _ [Value.int (nI (A.2.1 + 1))] _ _
  refine pp_iret dX5_perform_99 rfl rfl (fun G hG => ⟨_, _, hG, ?_⟩)
  exact ⟨(hE1.tr hE2).tr hE3, rfl, hX3⟩
set_option maxRecDepth 20000 in
set_option maxHeartbeats 4000000 in
theorem c_pf2 {ad : Nm → Nat} {g : Sg} {w : Nat} {A : AW} {H : List Act} {sd : Int64} {z : Int32} {i : Nat} {b : Int32} (hX : RX g w A H) (hok : okX A) (hr : bL (aB A) ≤ 1196 ∧ bP (aB A) ≤ 19800) (hn : H.length < 4000) (hi : i < 64) (hd : mdA A i) : PP mX5_perform 17 [some (.ref (ad (10, w, 0))), some (.int (nI 2)), some (.int (nI i)), some (.int b), some (.long sd), none, some (.int z), none] [] (Rel ad g) (PQ (fun v ad' g' => EqW w ad g ad' g' ∧ v = some (.int ((sndA A i (nI 5) b (-1), nI (bL (aB A)))).2) ∧ RX g' w ((sndA A i (nI 5) b (-1), nI (bL (aB A)))).1 (H ++ [(nI 2, (nI i), b, sd)]))) := by
  refine pp_aload_n dX5_perform_17 rfl isRf_r (q := 18) rfl ?_
  refine pp_iload_n dX5_perform_18 rfl (q := 19) rfl ?_
  refine pp_iload_n dX5_perform_19 rfl (q := 20) rfl ?_
  refine pp_iload_n dX5_perform_20 rfl (q := 21) rfl ?_
  refine pp_lload dX5_perform_21 rfl (q := 23) rfl ?_
  refine ps_callVq dX5_perform_23 lk_X5_90 (by exact (by first | exact hX3.1.1 | exact hX2.1.1 | exact hX1.1.1 | exact hX.1.1)) (by rfl) (by rfl) (by rfl) (c_keepAct hX hn) (by rfl) (by exact Nat.le_of_ble_eq_true rfl) (by decide) (by decide) (by exact Nat.le_of_ble_eq_true rfl) (q := 26) rfl (fun v23 ad23 g23 h23 => ?_)
  obtain ⟨rfl, hE1, hX1⟩ := h23
  rw [← hE1.2.1 (10, w, 0) hX.1.1 (by show 10 ≠ 21; omega)]
  change PP mX5_perform 26 _ [] _ _
  refine pp_aload_n dX5_perform_26 rfl isRf_r (q := 27) rfl ?_
  refine ps_get dX5_perform_27 fl_X5_28 (by first | exact hX3.1.1 | exact hX2.1.1 | exact hX1.1.1 | exact hX.1.1) rfl rfl (q := 30) rfl ?_
  refine ps_callVq dX5_perform_30 lk_X5_94 (by exact (by first | exact hX3.1.1 | exact hX2.1.1 | exact hX1.1.1 | exact hX.1.1)) (by rfl) (by rfl) (by rfl) (c_reserveF hX1 hr.1 hr.2) (by rfl) (by exact Nat.le_of_ble_eq_true rfl) (by decide) (by decide) (by exact Nat.le_of_ble_eq_true rfl) (q := 33) rfl (fun v30 ad30 g30 h30 => ?_)
  obtain ⟨rfl, hE2, hX2, hroL, hroP⟩ := h30
  rw [← hE2.2.1 (10, w, 0) hX1.1.1 (by show 10 ≠ 21; omega)]
  change PP mX5_perform 33 _ [] _ _
  refine pp_iload_n dX5_perform_33 rfl (q := 34) rfl ?_
  refine pp_tswK (v := 2) (tgt := 147) dX5_perform_34 rfl (by decide) (by decide) (by decide) rfl (by decide) ?_
  refine pp_aload_n dX5_perform_147 rfl isRf_r (q := 148) rfl ?_
  refine pp_iload_n dX5_perform_148 rfl (q := 149) rfl ?_
  refine ps_callVr dX5_perform_149 lk_X5_76 (by exact (by first | exact hX3.1.1 | exact hX2.1.1 | exact hX1.1.1 | exact hX.1.1)) (by rfl) (by rfl) (by rfl) (c_memAt hX2.1 hi hd) (by rfl) (by exact Nat.le_of_ble_eq_true rfl) (by decide) (by decide) (by exact Nat.le_of_ble_eq_true rfl) (q := 152) rfl (fun r149 g149 h149 => ?_)
  obtain ⟨rfl, rfl⟩ := And.intro h149.1.symm h149.2.symm
  change PP mX5_perform 152 _ [Value.ref (ad30 (30, w, i))] _ _
  refine pp_astore dX5_perform_152 isRf_r (by decide) (ls1_7 (nl1 rfl)) (q := 154) rfl ?_
  refine pp_aload dX5_perform_154 rfl isRf_r (q := 156) rfl ?_
  refine pp_ifnonnull_r (tgt := 162) dX5_perform_156 (by decide) ?_
  refine pp_iload_n dX5_perform_162 rfl (q := 163) rfl ?_
  refine pp_tswK (v := 2) (tgt := 196) dX5_perform_163 rfl (by decide) (by decide) (by decide) rfl (by decide) ?_
  refine pp_aload_n dX5_perform_196 rfl isRf_r (q := 197) rfl ?_
  refine pp_aload dX5_perform_197 rfl isRf_r (q := 199) rfl ?_
  refine pp_iconst dX5_perform_199 ci_5 (q := 200) rfl ?_
  refine pp_iload_n dX5_perform_200 rfl (q := 201) rfl ?_
  refine pp_iconst dX5_perform_201 ci_m1 (q := 202) rfl ?_
  refine ps_callVi dX5_perform_202 lk_X5_119 (by exact (by first | exact hX3.1.1 | exact hX2.1.1 | exact hX1.1.1 | exact hX.1.1)) (by rfl) (by rfl) (by rfl) (c_send hX2.1 hi hd (by show _ * 8 ≤ _; omega) (by have := pkL_le A i (isFl (nI 5)); omega)) (by rfl) (by exact Nat.le_of_ble_eq_true rfl) (by decide) (by decide) (by exact Nat.le_of_ble_eq_true rfl) (q := 205) rfl (fun r202 g202 h202 => ?_)
  obtain ⟨rfl, hA3, hE3, -⟩ := h202
  refine pp_iret dX5_perform_205 rfl rfl (fun G hG => ⟨_, _, hG, ?_⟩)
  exact ⟨(hE1.tr hE2).tr hE3.w, rfl, hX2.of hA3 hE3⟩
set_option maxRecDepth 20000 in
set_option maxHeartbeats 4000000 in
theorem c_pf3 {ad : Nm → Nat} {g : Sg} {w : Nat} {A : AW} {H : List Act} {sd : Int64} {z : Int32} {i : Nat} {b : Int32} (hX : RX g w A H) (hok : okX A) (hr : bL (aB A) ≤ 1196 ∧ bP (aB A) ≤ 19800) (hn : H.length < 4000) (hi : i < 64) (hd : mdA A i) : PP mX5_perform 17 [some (.ref (ad (10, w, 0))), some (.int (nI 3)), some (.int (nI i)), some (.int b), some (.long sd), none, some (.int z), none] [] (Rel ad g) (PQ (fun v ad' g' => EqW w ad g ad' g' ∧ v = some (.int (gwA A i).2) ∧ RX g' w (gwA A i).1 (H ++ [(nI 3, (nI i), b, sd)]))) := by
  refine pp_aload_n dX5_perform_17 rfl isRf_r (q := 18) rfl ?_
  refine pp_iload_n dX5_perform_18 rfl (q := 19) rfl ?_
  refine pp_iload_n dX5_perform_19 rfl (q := 20) rfl ?_
  refine pp_iload_n dX5_perform_20 rfl (q := 21) rfl ?_
  refine pp_lload dX5_perform_21 rfl (q := 23) rfl ?_
  refine ps_callVq dX5_perform_23 lk_X5_90 (by exact (by first | exact hX3.1.1 | exact hX2.1.1 | exact hX1.1.1 | exact hX.1.1)) (by rfl) (by rfl) (by rfl) (c_keepAct hX hn) (by rfl) (by exact Nat.le_of_ble_eq_true rfl) (by decide) (by decide) (by exact Nat.le_of_ble_eq_true rfl) (q := 26) rfl (fun v23 ad23 g23 h23 => ?_)
  obtain ⟨rfl, hE1, hX1⟩ := h23
  rw [← hE1.2.1 (10, w, 0) hX.1.1 (by show 10 ≠ 21; omega)]
  change PP mX5_perform 26 _ [] _ _
  refine pp_aload_n dX5_perform_26 rfl isRf_r (q := 27) rfl ?_
  refine ps_get dX5_perform_27 fl_X5_28 (by first | exact hX3.1.1 | exact hX2.1.1 | exact hX1.1.1 | exact hX.1.1) rfl rfl (q := 30) rfl ?_
  refine ps_callVq dX5_perform_30 lk_X5_94 (by exact (by first | exact hX3.1.1 | exact hX2.1.1 | exact hX1.1.1 | exact hX.1.1)) (by rfl) (by rfl) (by rfl) (c_reserveF hX1 hr.1 hr.2) (by rfl) (by exact Nat.le_of_ble_eq_true rfl) (by decide) (by decide) (by exact Nat.le_of_ble_eq_true rfl) (q := 33) rfl (fun v30 ad30 g30 h30 => ?_)
  obtain ⟨rfl, hE2, hX2, hroL, hroP⟩ := h30
  rw [← hE2.2.1 (10, w, 0) hX1.1.1 (by show 10 ≠ 21; omega)]
  change PP mX5_perform 33 _ [] _ _
  refine pp_iload_n dX5_perform_33 rfl (q := 34) rfl ?_
  refine pp_tswK (v := 3) (tgt := 147) dX5_perform_34 rfl (by decide) (by decide) (by decide) rfl (by decide) ?_
  refine pp_aload_n dX5_perform_147 rfl isRf_r (q := 148) rfl ?_
  refine pp_iload_n dX5_perform_148 rfl (q := 149) rfl ?_
  refine ps_callVr dX5_perform_149 lk_X5_76 (by exact (by first | exact hX3.1.1 | exact hX2.1.1 | exact hX1.1.1 | exact hX.1.1)) (by rfl) (by rfl) (by rfl) (c_memAt hX2.1 hi hd) (by rfl) (by exact Nat.le_of_ble_eq_true rfl) (by decide) (by decide) (by exact Nat.le_of_ble_eq_true rfl) (q := 152) rfl (fun r149 g149 h149 => ?_)
  obtain ⟨rfl, rfl⟩ := And.intro h149.1.symm h149.2.symm
  change PP mX5_perform 152 _ [Value.ref (ad30 (30, w, i))] _ _
  refine pp_astore dX5_perform_152 isRf_r (by decide) (ls1_7 (nl1 rfl)) (q := 154) rfl ?_
  refine pp_aload dX5_perform_154 rfl isRf_r (q := 156) rfl ?_
  refine pp_ifnonnull_r (tgt := 162) dX5_perform_156 (by decide) ?_
  refine pp_iload_n dX5_perform_162 rfl (q := 163) rfl ?_
  refine pp_tswK (v := 3) (tgt := 206) dX5_perform_163 rfl (by decide) (by decide) (by decide) rfl (by decide) ?_
  refine pp_aload_n dX5_perform_206 rfl isRf_r (q := 207) rfl ?_
  refine pp_aload dX5_perform_207 rfl isRf_r (q := 209) rfl ?_
  refine ps_callVi dX5_perform_209 lk_X5_123 (by exact (by first | exact hX3.1.1 | exact hX2.1.1 | exact hX1.1.1 | exact hX.1.1)) (by rfl) (by rfl) (by rfl) (c_goAway hX2.1 hi hd hroL hroP) (by rfl) (by exact Nat.le_of_ble_eq_true rfl) (by decide) (by decide) (by exact Nat.le_of_ble_eq_true rfl) (q := 212) rfl (fun r209 g209 h209 => ?_)
  obtain ⟨rfl, hA3, hE3⟩ := h209
  refine pp_iret dX5_perform_212 rfl rfl (fun G hG => ⟨_, _, hG, ?_⟩)
  exact ⟨(hE1.tr hE2).tr hE3.w, rfl, hX2.of hA3 hE3⟩
set_option maxRecDepth 20000 in
set_option maxHeartbeats 4000000 in
theorem c_pf4 {ad : Nm → Nat} {g : Sg} {w : Nat} {A : AW} {H : List Act} {sd : Int64} {z : Int32} {i : Nat} {b : Int32} (hX : RX g w A H) (hok : okX A) (hr : bL (aB A) ≤ 1196 ∧ bP (aB A) ≤ 19800) (hn : H.length < 4000) (hi : i < 64) (hd : mdA A i) : PP mX5_perform 17 [some (.ref (ad (10, w, 0))), some (.int (nI 4)), some (.int (nI i)), some (.int b), some (.long sd), none, some (.int z), none] [] (Rel ad g) (PQ (fun v ad' g' => EqW w ad g ad' g' ∧ v = some (.int (ttA A i).2) ∧ RX g' w (ttA A i).1 (H ++ [(nI 4, (nI i), b, sd)]))) := by
  refine pp_aload_n dX5_perform_17 rfl isRf_r (q := 18) rfl ?_
  refine pp_iload_n dX5_perform_18 rfl (q := 19) rfl ?_
  refine pp_iload_n dX5_perform_19 rfl (q := 20) rfl ?_
  refine pp_iload_n dX5_perform_20 rfl (q := 21) rfl ?_
  refine pp_lload dX5_perform_21 rfl (q := 23) rfl ?_
  refine ps_callVq dX5_perform_23 lk_X5_90 (by exact (by first | exact hX3.1.1 | exact hX2.1.1 | exact hX1.1.1 | exact hX.1.1)) (by rfl) (by rfl) (by rfl) (c_keepAct hX hn) (by rfl) (by exact Nat.le_of_ble_eq_true rfl) (by decide) (by decide) (by exact Nat.le_of_ble_eq_true rfl) (q := 26) rfl (fun v23 ad23 g23 h23 => ?_)
  obtain ⟨rfl, hE1, hX1⟩ := h23
  rw [← hE1.2.1 (10, w, 0) hX.1.1 (by show 10 ≠ 21; omega)]
  change PP mX5_perform 26 _ [] _ _
  refine pp_aload_n dX5_perform_26 rfl isRf_r (q := 27) rfl ?_
  refine ps_get dX5_perform_27 fl_X5_28 (by first | exact hX3.1.1 | exact hX2.1.1 | exact hX1.1.1 | exact hX.1.1) rfl rfl (q := 30) rfl ?_
  refine ps_callVq dX5_perform_30 lk_X5_94 (by exact (by first | exact hX3.1.1 | exact hX2.1.1 | exact hX1.1.1 | exact hX.1.1)) (by rfl) (by rfl) (by rfl) (c_reserveF hX1 hr.1 hr.2) (by rfl) (by exact Nat.le_of_ble_eq_true rfl) (by decide) (by decide) (by exact Nat.le_of_ble_eq_true rfl) (q := 33) rfl (fun v30 ad30 g30 h30 => ?_)
  obtain ⟨rfl, hE2, hX2, hroL, hroP⟩ := h30
  rw [← hE2.2.1 (10, w, 0) hX1.1.1 (by show 10 ≠ 21; omega)]
  change PP mX5_perform 33 _ [] _ _
  refine pp_iload_n dX5_perform_33 rfl (q := 34) rfl ?_
  refine pp_tswK (v := 4) (tgt := 147) dX5_perform_34 rfl (by decide) (by decide) (by decide) rfl (by decide) ?_
  refine pp_aload_n dX5_perform_147 rfl isRf_r (q := 148) rfl ?_
  refine pp_iload_n dX5_perform_148 rfl (q := 149) rfl ?_
  refine ps_callVr dX5_perform_149 lk_X5_76 (by exact (by first | exact hX3.1.1 | exact hX2.1.1 | exact hX1.1.1 | exact hX.1.1)) (by rfl) (by rfl) (by rfl) (c_memAt hX2.1 hi hd) (by rfl) (by exact Nat.le_of_ble_eq_true rfl) (by decide) (by decide) (by exact Nat.le_of_ble_eq_true rfl) (q := 152) rfl (fun r149 g149 h149 => ?_)
  obtain ⟨rfl, rfl⟩ := And.intro h149.1.symm h149.2.symm
  change PP mX5_perform 152 _ [Value.ref (ad30 (30, w, i))] _ _
  refine pp_astore dX5_perform_152 isRf_r (by decide) (ls1_7 (nl1 rfl)) (q := 154) rfl ?_
  refine pp_aload dX5_perform_154 rfl isRf_r (q := 156) rfl ?_
  refine pp_ifnonnull_r (tgt := 162) dX5_perform_156 (by decide) ?_
  refine pp_iload_n dX5_perform_162 rfl (q := 163) rfl ?_
  refine pp_tswK (v := 4) (tgt := 213) dX5_perform_163 rfl (by decide) (by decide) (by decide) rfl (by decide) ?_
  refine pp_aload_n dX5_perform_213 rfl isRf_r (q := 214) rfl ?_
  refine pp_aload dX5_perform_214 rfl isRf_r (q := 216) rfl ?_
  refine ps_callVi dX5_perform_216 lk_X5_127 (by exact (by first | exact hX3.1.1 | exact hX2.1.1 | exact hX1.1.1 | exact hX.1.1)) (by rfl) (by rfl) (by rfl) (c_takeTurn hX2.1 hi hd (hok.2 i hi hd) hroL hroP) (by rfl) (by exact Nat.le_of_ble_eq_true rfl) (by decide) (by decide) (by exact Nat.le_of_ble_eq_true rfl) (q := 219) rfl (fun r216 g216 h216 => ?_)
  obtain ⟨rfl, hA3, hE3⟩ := h216
  refine pp_iret dX5_perform_219 rfl rfl (fun G hG => ⟨_, _, hG, ?_⟩)
  exact ⟨(hE1.tr hE2).tr hE3.w, rfl, hX2.of hA3 hE3⟩
set_option maxRecDepth 20000 in
set_option maxHeartbeats 4000000 in
theorem c_pf5 {ad : Nm → Nat} {g : Sg} {w : Nat} {A : AW} {H : List Act} {sd : Int64} {z : Int32} {i : Nat} {b : Int32} (hX : RX g w A H) (hok : okX A) (hr : bL (aB A) ≤ 1196 ∧ bP (aB A) ≤ 19800) (hn : H.length < 4000) (hi : i < 64) (hd : mdA A i) : PP mX5_perform 17 [some (.ref (ad (10, w, 0))), some (.int (nI 5)), some (.int (nI i)), some (.int b), some (.long sd), none, some (.int z), none] [] (Rel ad g) (PQ (fun v ad' g' => EqW w ad g ad' g' ∧ v = some (.int (faA A i).2) ∧ RX g' w (faA A i).1 (H ++ [(nI 5, (nI i), b, sd)]))) := by
  refine pp_aload_n dX5_perform_17 rfl isRf_r (q := 18) rfl ?_
  refine pp_iload_n dX5_perform_18 rfl (q := 19) rfl ?_
  refine pp_iload_n dX5_perform_19 rfl (q := 20) rfl ?_
  refine pp_iload_n dX5_perform_20 rfl (q := 21) rfl ?_
  refine pp_lload dX5_perform_21 rfl (q := 23) rfl ?_
  refine ps_callVq dX5_perform_23 lk_X5_90 (by exact (by first | exact hX3.1.1 | exact hX2.1.1 | exact hX1.1.1 | exact hX.1.1)) (by rfl) (by rfl) (by rfl) (c_keepAct hX hn) (by rfl) (by exact Nat.le_of_ble_eq_true rfl) (by decide) (by decide) (by exact Nat.le_of_ble_eq_true rfl) (q := 26) rfl (fun v23 ad23 g23 h23 => ?_)
  obtain ⟨rfl, hE1, hX1⟩ := h23
  rw [← hE1.2.1 (10, w, 0) hX.1.1 (by show 10 ≠ 21; omega)]
  change PP mX5_perform 26 _ [] _ _
  refine pp_aload_n dX5_perform_26 rfl isRf_r (q := 27) rfl ?_
  refine ps_get dX5_perform_27 fl_X5_28 (by first | exact hX3.1.1 | exact hX2.1.1 | exact hX1.1.1 | exact hX.1.1) rfl rfl (q := 30) rfl ?_
  refine ps_callVq dX5_perform_30 lk_X5_94 (by exact (by first | exact hX3.1.1 | exact hX2.1.1 | exact hX1.1.1 | exact hX.1.1)) (by rfl) (by rfl) (by rfl) (c_reserveF hX1 hr.1 hr.2) (by rfl) (by exact Nat.le_of_ble_eq_true rfl) (by decide) (by decide) (by exact Nat.le_of_ble_eq_true rfl) (q := 33) rfl (fun v30 ad30 g30 h30 => ?_)
  obtain ⟨rfl, hE2, hX2, hroL, hroP⟩ := h30
  rw [← hE2.2.1 (10, w, 0) hX1.1.1 (by show 10 ≠ 21; omega)]
  change PP mX5_perform 33 _ [] _ _
  refine pp_iload_n dX5_perform_33 rfl (q := 34) rfl ?_
  refine pp_tswK (v := 5) (tgt := 147) dX5_perform_34 rfl (by decide) (by decide) (by decide) rfl (by decide) ?_
  refine pp_aload_n dX5_perform_147 rfl isRf_r (q := 148) rfl ?_
  refine pp_iload_n dX5_perform_148 rfl (q := 149) rfl ?_
  refine ps_callVr dX5_perform_149 lk_X5_76 (by exact (by first | exact hX3.1.1 | exact hX2.1.1 | exact hX1.1.1 | exact hX.1.1)) (by rfl) (by rfl) (by rfl) (c_memAt hX2.1 hi hd) (by rfl) (by exact Nat.le_of_ble_eq_true rfl) (by decide) (by decide) (by exact Nat.le_of_ble_eq_true rfl) (q := 152) rfl (fun r149 g149 h149 => ?_)
  obtain ⟨rfl, rfl⟩ := And.intro h149.1.symm h149.2.symm
  change PP mX5_perform 152 _ [Value.ref (ad30 (30, w, i))] _ _
  refine pp_astore dX5_perform_152 isRf_r (by decide) (ls1_7 (nl1 rfl)) (q := 154) rfl ?_
  refine pp_aload dX5_perform_154 rfl isRf_r (q := 156) rfl ?_
  refine pp_ifnonnull_r (tgt := 162) dX5_perform_156 (by decide) ?_
  refine pp_iload_n dX5_perform_162 rfl (q := 163) rfl ?_
  refine pp_tswK (v := 5) (tgt := 220) dX5_perform_163 rfl (by decide) (by decide) (by decide) rfl (by decide) ?_
  refine pp_aload_n dX5_perform_220 rfl isRf_r (q := 221) rfl ?_
  refine pp_aload dX5_perform_221 rfl isRf_r (q := 223) rfl ?_
  refine ps_callVi dX5_perform_223 lk_X5_130 (by exact (by first | exact hX3.1.1 | exact hX2.1.1 | exact hX1.1.1 | exact hX.1.1)) (by rfl) (by rfl) (by rfl) (c_fallDown hX2.1 hi hd) (by rfl) (by exact Nat.le_of_ble_eq_true rfl) (by decide) (by decide) (by exact Nat.le_of_ble_eq_true rfl) (q := 226) rfl (fun r223 g223 h223 => ?_)
  obtain ⟨rfl, hA3, hE3⟩ := h223
  refine pp_iret dX5_perform_226 rfl rfl (fun G hG => ⟨_, _, hG, ?_⟩)
  exact ⟨(hE1.tr hE2).tr hE3.w, rfl, hX2.of hA3 hE3⟩
set_option maxRecDepth 20000 in
set_option maxHeartbeats 4000000 in
theorem c_pf6 {ad : Nm → Nat} {g : Sg} {w : Nat} {A : AW} {H : List Act} {sd : Int64} {z : Int32} {i : Nat} {b : Int32} (hX : RX g w A H) (hok : okX A) (hr : bL (aB A) ≤ 1196 ∧ bP (aB A) ≤ 19800) (hn : H.length < 4000) (hi : i < 64) (hd : mdA A i) : PP mX5_perform 17 [some (.ref (ad (10, w, 0))), some (.int (nI 6)), some (.int (nI i)), some (.int b), some (.long sd), none, some (.int z), none] [] (Rel ad g) (PQ (fun v ad' g' => EqW w ad g ad' g' ∧ v = some (.int (riA A i).2) ∧ RX g' w (riA A i).1 (H ++ [(nI 6, (nI i), b, sd)]))) := by
  refine pp_aload_n dX5_perform_17 rfl isRf_r (q := 18) rfl ?_
  refine pp_iload_n dX5_perform_18 rfl (q := 19) rfl ?_
  refine pp_iload_n dX5_perform_19 rfl (q := 20) rfl ?_
  refine pp_iload_n dX5_perform_20 rfl (q := 21) rfl ?_
  refine pp_lload dX5_perform_21 rfl (q := 23) rfl ?_
  refine ps_callVq dX5_perform_23 lk_X5_90 (by exact (by first | exact hX3.1.1 | exact hX2.1.1 | exact hX1.1.1 | exact hX.1.1)) (by rfl) (by rfl) (by rfl) (c_keepAct hX hn) (by rfl) (by exact Nat.le_of_ble_eq_true rfl) (by decide) (by decide) (by exact Nat.le_of_ble_eq_true rfl) (q := 26) rfl (fun v23 ad23 g23 h23 => ?_)
  obtain ⟨rfl, hE1, hX1⟩ := h23
  rw [← hE1.2.1 (10, w, 0) hX.1.1 (by show 10 ≠ 21; omega)]
  change PP mX5_perform 26 _ [] _ _
  refine pp_aload_n dX5_perform_26 rfl isRf_r (q := 27) rfl ?_
  refine ps_get dX5_perform_27 fl_X5_28 (by first | exact hX3.1.1 | exact hX2.1.1 | exact hX1.1.1 | exact hX.1.1) rfl rfl (q := 30) rfl ?_
  refine ps_callVq dX5_perform_30 lk_X5_94 (by exact (by first | exact hX3.1.1 | exact hX2.1.1 | exact hX1.1.1 | exact hX.1.1)) (by rfl) (by rfl) (by rfl) (c_reserveF hX1 hr.1 hr.2) (by rfl) (by exact Nat.le_of_ble_eq_true rfl) (by decide) (by decide) (by exact Nat.le_of_ble_eq_true rfl) (q := 33) rfl (fun v30 ad30 g30 h30 => ?_)
  obtain ⟨rfl, hE2, hX2, hroL, hroP⟩ := h30
  rw [← hE2.2.1 (10, w, 0) hX1.1.1 (by show 10 ≠ 21; omega)]
  change PP mX5_perform 33 _ [] _ _
  refine pp_iload_n dX5_perform_33 rfl (q := 34) rfl ?_
  refine pp_tswK (v := 6) (tgt := 147) dX5_perform_34 rfl (by decide) (by decide) (by decide) rfl (by decide) ?_
  refine pp_aload_n dX5_perform_147 rfl isRf_r (q := 148) rfl ?_
  refine pp_iload_n dX5_perform_148 rfl (q := 149) rfl ?_
  refine ps_callVr dX5_perform_149 lk_X5_76 (by exact (by first | exact hX3.1.1 | exact hX2.1.1 | exact hX1.1.1 | exact hX.1.1)) (by rfl) (by rfl) (by rfl) (c_memAt hX2.1 hi hd) (by rfl) (by exact Nat.le_of_ble_eq_true rfl) (by decide) (by decide) (by exact Nat.le_of_ble_eq_true rfl) (q := 152) rfl (fun r149 g149 h149 => ?_)
  obtain ⟨rfl, rfl⟩ := And.intro h149.1.symm h149.2.symm
  change PP mX5_perform 152 _ [Value.ref (ad30 (30, w, i))] _ _
  refine pp_astore dX5_perform_152 isRf_r (by decide) (ls1_7 (nl1 rfl)) (q := 154) rfl ?_
  refine pp_aload dX5_perform_154 rfl isRf_r (q := 156) rfl ?_
  refine pp_ifnonnull_r (tgt := 162) dX5_perform_156 (by decide) ?_
  refine pp_iload_n dX5_perform_162 rfl (q := 163) rfl ?_
  refine pp_tswK (v := 6) (tgt := 227) dX5_perform_163 rfl (by decide) (by decide) (by decide) rfl (by decide) ?_
  refine pp_aload_n dX5_perform_227 rfl isRf_r (q := 228) rfl ?_
  refine pp_aload dX5_perform_228 rfl isRf_r (q := 230) rfl ?_
  refine ps_callVi dX5_perform_230 lk_X5_133 (by exact (by first | exact hX3.1.1 | exact hX2.1.1 | exact hX1.1.1 | exact hX.1.1)) (by rfl) (by rfl) (by rfl) (c_riseUp hX2.1 hi hd) (by rfl) (by exact Nat.le_of_ble_eq_true rfl) (by decide) (by decide) (by exact Nat.le_of_ble_eq_true rfl) (q := 233) rfl (fun r230 g230 h230 => ?_)
  obtain ⟨rfl, hA3, hE3⟩ := h230
  refine pp_iret dX5_perform_233 rfl rfl (fun G hG => ⟨_, _, hG, ?_⟩)
  exact ⟨(hE1.tr hE2).tr hE3.w, rfl, hX2.of hA3 hE3⟩
set_option maxRecDepth 20000 in
set_option maxHeartbeats 4000000 in
theorem c_pf7 {ad : Nm → Nat} {g : Sg} {w : Nat} {A : AW} {H : List Act} {sd : Int64} {z : Int32} {l k s f t : Nat} {b : Int32} (hX : RX g w A H) (hok : okX A) (hr : bL (aB A) ≤ 1196 ∧ bP (aB A) ≤ 19800) (hn : H.length < 4000) (hp : pOk (aB A) l k s) (hpx : ∀ i, i < k → ∃ x, x < 64 ∧ bp (aB A) (s + i) 0 = nI x) (hf : bl (aB A) l 1 = nI f) (hfb : f < 64) (ht : bl (aB A) l 2 = nI t) (htb : t < 64) : PP mX5_perform 17 [some (.ref (ad (10, w, 0))), some (.int (nI 7)), some (.int (nI l)), some (.int b), some (.long sd), none, some (.int z), none] [] (Rel ad g) (PQ (fun v ad' g' => EqW w ad g ad' g' ∧ v = some (.int (brA A l f t k s).2) ∧ RX g' w (brA A l f t k s).1 (H ++ [(nI 7, (nI l), b, sd)]))) := by
  refine pp_aload_n dX5_perform_17 rfl isRf_r (q := 18) rfl ?_
  refine pp_iload_n dX5_perform_18 rfl (q := 19) rfl ?_
  refine pp_iload_n dX5_perform_19 rfl (q := 20) rfl ?_
  refine pp_iload_n dX5_perform_20 rfl (q := 21) rfl ?_
  refine pp_lload dX5_perform_21 rfl (q := 23) rfl ?_
  refine ps_callVq dX5_perform_23 lk_X5_90 (by exact (by first | exact hX3.1.1 | exact hX2.1.1 | exact hX1.1.1 | exact hX.1.1)) (by rfl) (by rfl) (by rfl) (c_keepAct hX hn) (by rfl) (by exact Nat.le_of_ble_eq_true rfl) (by decide) (by decide) (by exact Nat.le_of_ble_eq_true rfl) (q := 26) rfl (fun v23 ad23 g23 h23 => ?_)
  obtain ⟨rfl, hE1, hX1⟩ := h23
  rw [← hE1.2.1 (10, w, 0) hX.1.1 (by show 10 ≠ 21; omega)]
  change PP mX5_perform 26 _ [] _ _
  refine pp_aload_n dX5_perform_26 rfl isRf_r (q := 27) rfl ?_
  refine ps_get dX5_perform_27 fl_X5_28 (by first | exact hX3.1.1 | exact hX2.1.1 | exact hX1.1.1 | exact hX.1.1) rfl rfl (q := 30) rfl ?_
  refine ps_callVq dX5_perform_30 lk_X5_94 (by exact (by first | exact hX3.1.1 | exact hX2.1.1 | exact hX1.1.1 | exact hX.1.1)) (by rfl) (by rfl) (by rfl) (c_reserveF hX1 hr.1 hr.2) (by rfl) (by exact Nat.le_of_ble_eq_true rfl) (by decide) (by decide) (by exact Nat.le_of_ble_eq_true rfl) (q := 33) rfl (fun v30 ad30 g30 h30 => ?_)
  obtain ⟨rfl, hE2, hX2, hroL, hroP⟩ := h30
  rw [← hE2.2.1 (10, w, 0) hX1.1.1 (by show 10 ≠ 21; omega)]
  change PP mX5_perform 33 _ [] _ _
  refine pp_iload_n dX5_perform_33 rfl (q := 34) rfl ?_
  refine pp_tswK (v := 7) (tgt := 100) dX5_perform_34 rfl (by decide) (by decide) (by decide) rfl (by decide) ?_
  refine pp_aload_n dX5_perform_100 rfl isRf_r (q := 101) rfl ?_
  refine pp_iload_n dX5_perform_101 rfl (q := 102) rfl ?_
  refine ps_callVi dX5_perform_102 lk_X5_101 (by exact (by first | exact hX3.1.1 | exact hX2.1.1 | exact hX1.1.1 | exact hX.1.1)) (by rfl) (by rfl) (by rfl) (c_bring hX2.1 hp hpx hf hfb ht htb (by show _ * 8 ≤ _; omega) (by omega)) (by rfl) (by exact Nat.le_of_ble_eq_true rfl) (by decide) (by decide) (by exact Nat.le_of_ble_eq_true rfl) (q := 105) rfl (fun r102 g102 h102 => ?_)
  obtain ⟨rfl, hA3, hE3⟩ := h102
  refine pp_iret dX5_perform_105 rfl rfl (fun G hG => ⟨_, _, hG, ?_⟩)
  exact ⟨(hE1.tr hE2).tr hE3.w, rfl, hX2.of hA3 hE3⟩
set_option maxRecDepth 20000 in
set_option maxHeartbeats 4000000 in
theorem c_pf8 {ad : Nm → Nat} {g : Sg} {w : Nat} {A : AW} {H : List Act} {sd : Int64} {z : Int32} {l : Nat} {b : Int32} (hX : RX g w A H) (hok : okX A) (hr : bL (aB A) ≤ 1196 ∧ bP (aB A) ≤ 19800) (hn : H.length < 4000) (hl : l < bL (aB A)) : PP mX5_perform 17 [some (.ref (ad (10, w, 0))), some (.int (nI 8)), some (.int (nI l)), some (.int b), some (.long sd), none, some (.int z), none] [] (Rel ad g) (PQ (fun v ad' g' => EqW w ad g ad' g' ∧ v = some (.int (loA A l).2) ∧ RX g' w (loA A l).1 (H ++ [(nI 8, (nI l), b, sd)]))) := by
  refine pp_aload_n dX5_perform_17 rfl isRf_r (q := 18) rfl ?_
  refine pp_iload_n dX5_perform_18 rfl (q := 19) rfl ?_
  refine pp_iload_n dX5_perform_19 rfl (q := 20) rfl ?_
  refine pp_iload_n dX5_perform_20 rfl (q := 21) rfl ?_
  refine pp_lload dX5_perform_21 rfl (q := 23) rfl ?_
  refine ps_callVq dX5_perform_23 lk_X5_90 (by exact (by first | exact hX3.1.1 | exact hX2.1.1 | exact hX1.1.1 | exact hX.1.1)) (by rfl) (by rfl) (by rfl) (c_keepAct hX hn) (by rfl) (by exact Nat.le_of_ble_eq_true rfl) (by decide) (by decide) (by exact Nat.le_of_ble_eq_true rfl) (q := 26) rfl (fun v23 ad23 g23 h23 => ?_)
  obtain ⟨rfl, hE1, hX1⟩ := h23
  rw [← hE1.2.1 (10, w, 0) hX.1.1 (by show 10 ≠ 21; omega)]
  change PP mX5_perform 26 _ [] _ _
  refine pp_aload_n dX5_perform_26 rfl isRf_r (q := 27) rfl ?_
  refine ps_get dX5_perform_27 fl_X5_28 (by first | exact hX3.1.1 | exact hX2.1.1 | exact hX1.1.1 | exact hX.1.1) rfl rfl (q := 30) rfl ?_
  refine ps_callVq dX5_perform_30 lk_X5_94 (by exact (by first | exact hX3.1.1 | exact hX2.1.1 | exact hX1.1.1 | exact hX.1.1)) (by rfl) (by rfl) (by rfl) (c_reserveF hX1 hr.1 hr.2) (by rfl) (by exact Nat.le_of_ble_eq_true rfl) (by decide) (by decide) (by exact Nat.le_of_ble_eq_true rfl) (q := 33) rfl (fun v30 ad30 g30 h30 => ?_)
  obtain ⟨rfl, hE2, hX2, hroL, hroP⟩ := h30
  rw [← hE2.2.1 (10, w, 0) hX1.1.1 (by show 10 ≠ 21; omega)]
  change PP mX5_perform 33 _ [] _ _
  refine pp_iload_n dX5_perform_33 rfl (q := 34) rfl ?_
  refine pp_tswK (v := 8) (tgt := 106) dX5_perform_34 rfl (by decide) (by decide) (by decide) rfl (by decide) ?_
  refine pp_aload_n dX5_perform_106 rfl isRf_r (q := 107) rfl ?_
  refine ps_get dX5_perform_107 fl_X5_28 (by first | exact hX3.1.1 | exact hX2.1.1 | exact hX1.1.1 | exact hX.1.1) rfl rfl (q := 110) rfl ?_
  refine pp_iload_n dX5_perform_110 rfl (q := 111) rfl ?_
  refine ps_callVv dX5_perform_111 lk_X5_105 (by exact (by first | exact hX3.1.1 | exact hX2.1.1 | exact hX1.1.1 | exact hX.1.1)) (by rfl) (by rfl) (by rfl) (c_endX hX2.1.1 hX2.1.2.1 hl) (by rfl) (by exact Nat.le_of_ble_eq_true rfl) (by decide) (by decide) (by exact Nat.le_of_ble_eq_true rfl) (q := 114) rfl (fun g111 h111 => ?_)
  obtain ⟨hB3, hE3⟩ := h111
  have hX3 := RX_bk hX2 hE3 hB3
  refine pp_aload_n dX5_perform_114 rfl isRf_r (q := 115) rfl ?_
  refine ps_get dX5_perform_115 fl_X5_28 (by first | exact hX3.1.1 | exact hX2.1.1 | exact hX1.1.1 | exact hX.1.1) rfl rfl (q := 118) rfl ?_
  refine ps_callVi dX5_perform_118 lk_X5_108 (by exact (by first | exact hX3.1.1 | exact hX2.1.1 | exact hX1.1.1 | exact hX.1.1)) (by rfl) (by rfl) (by rfl) (c_still hX3.1.1 hB3) (by rfl) (by exact Nat.le_of_ble_eq_true rfl) (by decide) (by decide) (by exact Nat.le_of_ble_eq_true rfl) (q := 121) rfl (fun r118 g118 h118 => ?_)
  obtain ⟨rfl, rfl⟩ := And.intro h118.1.symm h118.2.symm
  refine pp_iret dX5_perform_121 rfl rfl (fun G hG => ⟨_, _, hG, ?_⟩)
  exact ⟨(hE1.tr hE2).tr (hE3.mono (fun _ h => bkS_w h)).w, rfl, hX3⟩
set_option maxRecDepth 20000 in
set_option maxHeartbeats 4000000 in
theorem c_pf9 {ad : Nm → Nat} {g : Sg} {w : Nat} {A : AW} {H : List Act} {sd : Int64} {z : Int32} {l k s : Nat} {b : Int32} (hX : RX g w A H) (hok : okX A) (hr : bL (aB A) ≤ 1196 ∧ bP (aB A) ≤ 19800) (hn : H.length < 4000) (hp : pOk (aB A) l k s) : PP mX5_perform 17 [some (.ref (ad (10, w, 0))), some (.int (nI 9)), some (.int (nI l)), some (.int b), some (.long sd), none, some (.int z), none] [] (Rel ad g) (PQ (fun v ad' g' => EqW w ad g ad' g' ∧ v = some (.int ((aBk A (cpB (aB A) l k s), nI (bL (aB A)))).2) ∧ RX g' w ((aBk A (cpB (aB A) l k s), nI (bL (aB A)))).1 (H ++ [(nI 9, (nI l), b, sd)]))) := by
  refine pp_aload_n dX5_perform_17 rfl isRf_r (q := 18) rfl ?_
  refine pp_iload_n dX5_perform_18 rfl (q := 19) rfl ?_
  refine pp_iload_n dX5_perform_19 rfl (q := 20) rfl ?_
  refine pp_iload_n dX5_perform_20 rfl (q := 21) rfl ?_
  refine pp_lload dX5_perform_21 rfl (q := 23) rfl ?_
  refine ps_callVq dX5_perform_23 lk_X5_90 (by exact (by first | exact hX3.1.1 | exact hX2.1.1 | exact hX1.1.1 | exact hX.1.1)) (by rfl) (by rfl) (by rfl) (c_keepAct hX hn) (by rfl) (by exact Nat.le_of_ble_eq_true rfl) (by decide) (by decide) (by exact Nat.le_of_ble_eq_true rfl) (q := 26) rfl (fun v23 ad23 g23 h23 => ?_)
  obtain ⟨rfl, hE1, hX1⟩ := h23
  rw [← hE1.2.1 (10, w, 0) hX.1.1 (by show 10 ≠ 21; omega)]
  change PP mX5_perform 26 _ [] _ _
  refine pp_aload_n dX5_perform_26 rfl isRf_r (q := 27) rfl ?_
  refine ps_get dX5_perform_27 fl_X5_28 (by first | exact hX3.1.1 | exact hX2.1.1 | exact hX1.1.1 | exact hX.1.1) rfl rfl (q := 30) rfl ?_
  refine ps_callVq dX5_perform_30 lk_X5_94 (by exact (by first | exact hX3.1.1 | exact hX2.1.1 | exact hX1.1.1 | exact hX.1.1)) (by rfl) (by rfl) (by rfl) (c_reserveF hX1 hr.1 hr.2) (by rfl) (by exact Nat.le_of_ble_eq_true rfl) (by decide) (by decide) (by exact Nat.le_of_ble_eq_true rfl) (q := 33) rfl (fun v30 ad30 g30 h30 => ?_)
  obtain ⟨rfl, hE2, hX2, hroL, hroP⟩ := h30
  rw [← hE2.2.1 (10, w, 0) hX1.1.1 (by show 10 ≠ 21; omega)]
  change PP mX5_perform 33 _ [] _ _
  refine pp_iload_n dX5_perform_33 rfl (q := 34) rfl ?_
  refine pp_tswK (v := 9) (tgt := 122) dX5_perform_34 rfl (by decide) (by decide) (by decide) rfl (by decide) ?_
  refine pp_aload_n dX5_perform_122 rfl isRf_r (q := 123) rfl ?_
  refine ps_get dX5_perform_123 fl_X5_28 (by first | exact hX3.1.1 | exact hX2.1.1 | exact hX1.1.1 | exact hX.1.1) rfl rfl (q := 126) rfl ?_
  refine pp_iload_n dX5_perform_126 rfl (q := 127) rfl ?_
  refine ps_callVi dX5_perform_127 lk_X5_112 (by exact (by first | exact hX3.1.1 | exact hX2.1.1 | exact hX1.1.1 | exact hX.1.1)) (by rfl) (by rfl) (by rfl) (c_copyB hX2.1.1 hX2.1.2.1 hp (by show _ * 8 ≤ _; omega) (by have := hp.2.2.2.2; omega)) (by rfl) (by exact Nat.le_of_ble_eq_true rfl) (by decide) (by decide) (by exact Nat.le_of_ble_eq_true rfl) (q := 130) rfl (fun r127 g127 h127 => ?_)
  obtain ⟨rfl, hB3, hE3⟩ := h127
  have hX3 := RX_bk hX2 hE3 hB3
  refine pp_iret dX5_perform_130 rfl rfl (fun G hG => ⟨_, _, hG, ?_⟩)
  exact ⟨(hE1.tr hE2).tr (hE3.mono (fun _ h => bkS_w h)).w, rfl, hX3⟩
set_option maxRecDepth 20000 in
set_option maxHeartbeats 4000000 in
theorem c_pf10 {ad : Nm → Nat} {g : Sg} {w : Nat} {A : AW} {H : List Act} {sd : Int64} {z : Int32} {i j : Nat} (hX : RX g w A H) (hok : okX A) (hr : bL (aB A) ≤ 1196 ∧ bP (aB A) ≤ 19800) (hn : H.length < 4000) (hi : i < 64) (hj : j < 64) : PP mX5_perform 17 [some (.ref (ad (10, w, 0))), some (.int (nI 10)), some (.int (nI i)), some (.int (nI j)), some (.long sd), none, some (.int z), none] [] (Rel ad g) (PQ (fun v ad' g' => EqW w ad g ad' g' ∧ v = some (.int (liA A i j True).2) ∧ RX g' w (liA A i j True).1 (H ++ [(nI 10, (nI i), (nI j), sd)]))) := by
  refine pp_aload_n dX5_perform_17 rfl isRf_r (q := 18) rfl ?_
  refine pp_iload_n dX5_perform_18 rfl (q := 19) rfl ?_
  refine pp_iload_n dX5_perform_19 rfl (q := 20) rfl ?_
  refine pp_iload_n dX5_perform_20 rfl (q := 21) rfl ?_
  refine pp_lload dX5_perform_21 rfl (q := 23) rfl ?_
  refine ps_callVq dX5_perform_23 lk_X5_90 (by exact (by first | exact hX3.1.1 | exact hX2.1.1 | exact hX1.1.1 | exact hX.1.1)) (by rfl) (by rfl) (by rfl) (c_keepAct hX hn) (by rfl) (by exact Nat.le_of_ble_eq_true rfl) (by decide) (by decide) (by exact Nat.le_of_ble_eq_true rfl) (q := 26) rfl (fun v23 ad23 g23 h23 => ?_)
  obtain ⟨rfl, hE1, hX1⟩ := h23
  rw [← hE1.2.1 (10, w, 0) hX.1.1 (by show 10 ≠ 21; omega)]
  change PP mX5_perform 26 _ [] _ _
  refine pp_aload_n dX5_perform_26 rfl isRf_r (q := 27) rfl ?_
  refine ps_get dX5_perform_27 fl_X5_28 (by first | exact hX3.1.1 | exact hX2.1.1 | exact hX1.1.1 | exact hX.1.1) rfl rfl (q := 30) rfl ?_
  refine ps_callVq dX5_perform_30 lk_X5_94 (by exact (by first | exact hX3.1.1 | exact hX2.1.1 | exact hX1.1.1 | exact hX.1.1)) (by rfl) (by rfl) (by rfl) (c_reserveF hX1 hr.1 hr.2) (by rfl) (by exact Nat.le_of_ble_eq_true rfl) (by decide) (by decide) (by exact Nat.le_of_ble_eq_true rfl) (q := 33) rfl (fun v30 ad30 g30 h30 => ?_)
  obtain ⟨rfl, hE2, hX2, hroL, hroP⟩ := h30
  rw [← hE2.2.1 (10, w, 0) hX1.1.1 (by show 10 ≠ 21; omega)]
  change PP mX5_perform 33 _ [] _ _
  refine pp_iload_n dX5_perform_33 rfl (q := 34) rfl ?_
  refine pp_tswK (v := 10) (tgt := 131) dX5_perform_34 rfl (by decide) (by decide) (by decide) rfl (by decide) ?_
  refine pp_aload_n dX5_perform_131 rfl isRf_r (q := 132) rfl ?_
  refine pp_iload_n dX5_perform_132 rfl (q := 133) rfl ?_
  refine pp_iload_n dX5_perform_133 rfl (q := 134) rfl ?_
  refine pp_iconst dX5_perform_134 ci_1 (q := 135) rfl ?_
  refine ps_callVi dX5_perform_135 lk_X5_115 (by exact (by first | exact hX3.1.1 | exact hX2.1.1 | exact hX1.1.1 | exact hX.1.1)) (by rfl) (by rfl) (by rfl) (c_setLink hX2.1 hi hj (isB_1 trivial)) (by rfl) (by exact Nat.le_of_ble_eq_true rfl) (by decide) (by decide) (by exact Nat.le_of_ble_eq_true rfl) (q := 138) rfl (fun r135 g135 h135 => ?_)
  have hA3 : RX g135 w (liA A i j True).1 (H ++ [(nI 10, nI i, nI j, sd)]) ∧ EqX (wS w) g30 g135 ∧ r135 = (liA A i j True).2 := by
    unfold liA
    rcases h135 with ⟨a1, a2, a3⟩ | ⟨a1, a2, a3⟩
    · rw [cIf_f a1]
      exact ⟨hX2.of a3.1 a3.2, a3.2, a2⟩
    · rw [cIf_t a1, a3]
      exact ⟨hX2, EqX.rf, a2⟩
  obtain ⟨hX3, hE3, rfl⟩ := hA3
  refine pp_iret dX5_perform_138 rfl rfl (fun G hG => ⟨_, _, hG, ?_⟩)
  exact ⟨(hE1.tr hE2).tr hE3.w, rfl, hX3⟩
set_option maxRecDepth 20000 in
set_option maxHeartbeats 4000000 in
theorem c_pf11 {ad : Nm → Nat} {g : Sg} {w : Nat} {A : AW} {H : List Act} {sd : Int64} {z : Int32} {i j : Nat} (hX : RX g w A H) (hok : okX A) (hr : bL (aB A) ≤ 1196 ∧ bP (aB A) ≤ 19800) (hn : H.length < 4000) (hi : i < 64) (hj : j < 64) : PP mX5_perform 17 [some (.ref (ad (10, w, 0))), some (.int (nI 11)), some (.int (nI i)), some (.int (nI j)), some (.long sd), none, some (.int z), none] [] (Rel ad g) (PQ (fun v ad' g' => EqW w ad g ad' g' ∧ v = some (.int (liA A i j False).2) ∧ RX g' w (liA A i j False).1 (H ++ [(nI 11, (nI i), (nI j), sd)]))) := by
  refine pp_aload_n dX5_perform_17 rfl isRf_r (q := 18) rfl ?_
  refine pp_iload_n dX5_perform_18 rfl (q := 19) rfl ?_
  refine pp_iload_n dX5_perform_19 rfl (q := 20) rfl ?_
  refine pp_iload_n dX5_perform_20 rfl (q := 21) rfl ?_
  refine pp_lload dX5_perform_21 rfl (q := 23) rfl ?_
  refine ps_callVq dX5_perform_23 lk_X5_90 (by exact (by first | exact hX3.1.1 | exact hX2.1.1 | exact hX1.1.1 | exact hX.1.1)) (by rfl) (by rfl) (by rfl) (c_keepAct hX hn) (by rfl) (by exact Nat.le_of_ble_eq_true rfl) (by decide) (by decide) (by exact Nat.le_of_ble_eq_true rfl) (q := 26) rfl (fun v23 ad23 g23 h23 => ?_)
  obtain ⟨rfl, hE1, hX1⟩ := h23
  rw [← hE1.2.1 (10, w, 0) hX.1.1 (by show 10 ≠ 21; omega)]
  change PP mX5_perform 26 _ [] _ _
  refine pp_aload_n dX5_perform_26 rfl isRf_r (q := 27) rfl ?_
  refine ps_get dX5_perform_27 fl_X5_28 (by first | exact hX3.1.1 | exact hX2.1.1 | exact hX1.1.1 | exact hX.1.1) rfl rfl (q := 30) rfl ?_
  refine ps_callVq dX5_perform_30 lk_X5_94 (by exact (by first | exact hX3.1.1 | exact hX2.1.1 | exact hX1.1.1 | exact hX.1.1)) (by rfl) (by rfl) (by rfl) (c_reserveF hX1 hr.1 hr.2) (by rfl) (by exact Nat.le_of_ble_eq_true rfl) (by decide) (by decide) (by exact Nat.le_of_ble_eq_true rfl) (q := 33) rfl (fun v30 ad30 g30 h30 => ?_)
  obtain ⟨rfl, hE2, hX2, hroL, hroP⟩ := h30
  rw [← hE2.2.1 (10, w, 0) hX1.1.1 (by show 10 ≠ 21; omega)]
  change PP mX5_perform 33 _ [] _ _
  refine pp_iload_n dX5_perform_33 rfl (q := 34) rfl ?_
  refine pp_tswK (v := 11) (tgt := 139) dX5_perform_34 rfl (by decide) (by decide) (by decide) rfl (by decide) ?_
  refine pp_aload_n dX5_perform_139 rfl isRf_r (q := 140) rfl ?_
  refine pp_iload_n dX5_perform_140 rfl (q := 141) rfl ?_
  refine pp_iload_n dX5_perform_141 rfl (q := 142) rfl ?_
  refine pp_iconst dX5_perform_142 ci_0 (q := 143) rfl ?_
  refine ps_callVi dX5_perform_143 lk_X5_115 (by exact (by first | exact hX3.1.1 | exact hX2.1.1 | exact hX1.1.1 | exact hX.1.1)) (by rfl) (by rfl) (by rfl) (c_setLink hX2.1 hi hj (isB_0 (fun q => q))) (by rfl) (by exact Nat.le_of_ble_eq_true rfl) (by decide) (by decide) (by exact Nat.le_of_ble_eq_true rfl) (q := 146) rfl (fun r143 g143 h143 => ?_)
  have hA3 : RX g143 w (liA A i j False).1 (H ++ [(nI 11, nI i, nI j, sd)]) ∧ EqX (wS w) g30 g143 ∧ r143 = (liA A i j False).2 := by
    unfold liA
    rcases h143 with ⟨a1, a2, a3⟩ | ⟨a1, a2, a3⟩
    · rw [cIf_f a1]
      exact ⟨hX2.of a3.1 a3.2, a3.2, a2⟩
    · rw [cIf_t a1, a3]
      exact ⟨hX2, EqX.rf, a2⟩
  obtain ⟨hX3, hE3, rfl⟩ := hA3
  refine pp_iret dX5_perform_146 rfl rfl (fun G hG => ⟨_, _, hG, ?_⟩)
  exact ⟨(hE1.tr hE2).tr hE3.w, rfl, hX3⟩
theorem mdX_i {A : AW} {i : Nat} (hi : i < 64) (h : mdX A (nI i)) : mdA A i := by
  obtain ⟨j, hj, e, hd⟩ := h
  have := eqT e (by omega) (by omega)
  subst this
  exact hd
theorem upX_i {A : AW} {i : Nat} (hi : i < 64) (h : upX A (nI i)) : upA A i := by
  obtain ⟨j, hj, e, hd⟩ := h
  have := eqT e (by omega) (by omega)
  subst this
  exact hd
abbrev PFQ (w : Nat) (ad : Nm → Nat) (g : Sg) (A : AW) (H : List Act) (v : Nat) (a b : Int32) (sd : Int64) : Option Value → PH → Prop := PQ (fun r ad' g' => EqW w ad g ad' g' ∧ ((whyA A H.length v a b = nI 0 ∧ r = some (.int (stA A v a b sd).2) ∧ RX g' w (stA A v a b sd).1 (H ++ [(nI v, a, b, sd)])) ∨ (¬ whyA A H.length v a b = nI 0 ∧ r = some (.int (whyA A H.length v a b)) ∧ RX g' w A H)))
theorem PF.done {M : MI} {pc : Nat} {L : PLoc} {w : Nat} {ad : Nm → Nat} {g : Sg} {A : AW} {H : List Act} {v : Nat} {a b : Int32} {sd : Int64} {R : AW × Int32} (h : PP M pc L [] (Rel ad g) (PQ (fun v' ad' g' => EqW w ad g ad' g' ∧ v' = some (.int R.2) ∧ RX g' w R.1 (H ++ [(nI v, a, b, sd)])))) (hw : whyA A H.length v a b = nI 0) (hs : stA A v a b sd = R) : PP M pc L [] (Rel ad g) (PFQ w ad g A H v a b sd) := by
  subst hs
  refine h.weak (fun r G hG => ?_)
  obtain ⟨ad', g', h1, h2, h3, h4⟩ := hG
  exact ⟨ad', g', h1, h2, Or.inl ⟨hw, h3, h4⟩⟩
set_option maxRecDepth 20000 in
set_option maxHeartbeats 4000000 in
theorem c_perf1 {ad : Nm → Nat} {g : Sg} {w : Nat} {A : AW} {H : List Act} {a b : Int32} {sd : Int64} (hX : RX g w A H) (hok : okX A) : PP mX5_perform 0 (ent mX5_perform [.ref (ad (10, w, 0)), .int (nI 1), .int a, .int b, .long sd]) [] (Rel ad g) (PFQ w ad g A H 1 a b sd) := by
  show PP mX5_perform 0 [some (.ref (ad (10, w, 0))), some (.int (nI 1)), some (.int a), some (.int b), some (.long sd), none, none, none] [] (Rel ad g) _
  refine pp_aload_n dX5_perform_0 rfl isRf_r (q := 1) rfl ?_
  refine pp_iload_n dX5_perform_1 rfl (q := 2) rfl ?_
  refine pp_iload_n dX5_perform_2 rfl (q := 3) rfl ?_
  refine pp_iload_n dX5_perform_3 rfl (q := 4) rfl ?_
  refine ps_callVi dX5_perform_4 lk_X5_86 (by exact (by first | exact hX3.1.1 | exact hX2.1.1 | exact hX1.1.1 | exact hX.1.1)) (by rfl) (by rfl) (by rfl) (c_why1 hX.1 hX.2.1.1.2.1 (by have := hX.2.1.1.bd; omega)) (by rfl) (by exact Nat.le_of_ble_eq_true rfl) (by decide) (by decide) (by exact Nat.le_of_ble_eq_true rfl) (q := 7) rfl (fun r4 g4 h4 => ?_)
  obtain ⟨rfl, rfl⟩ := And.intro h4.1.symm h4.2.symm
  refine pp_istore dX5_perform_7 (by decide) (ls1_6 nl0) (q := 9) rfl ?_
  refine pp_iload dX5_perform_9 rfl (q := 11) rfl ?_
  refine pp_if_eq (tgt := 17) dX5_perform_11 (by decide) (q := 14) rfl (fun c11 => ?_) (fun c11 => ?_)
  · obtain ⟨hb, hm, hdn, ha, hr, hn⟩ := whyA_0 c11
    obtain ⟨i, hi, rfl⟩ : isM a := Classical.not_not.mp hb
    have hd : ¬ mdA A i := fun q => ha ⟨i, hi, rfl, q⟩
    exact PF.done (c_pf1 hX hok hr hn hi hd) c11 (by unfold stA; rw [cl_nI (by omega : i < 2 ^ 31)]; first | done | rfl)
  · refine pp_iload dX5_perform_14 rfl (q := 16) rfl ?_
    refine pp_iret dX5_perform_16 rfl rfl (fun G hG => ⟨_, _, hG, ?_⟩)
    exact ⟨EqW.rf, Or.inr ⟨c11, rfl, hX⟩⟩
set_option maxRecDepth 20000 in
set_option maxHeartbeats 4000000 in
theorem c_perf2 {ad : Nm → Nat} {g : Sg} {w : Nat} {A : AW} {H : List Act} {a b : Int32} {sd : Int64} (hX : RX g w A H) (hok : okX A) : PP mX5_perform 0 (ent mX5_perform [.ref (ad (10, w, 0)), .int (nI 2), .int a, .int b, .long sd]) [] (Rel ad g) (PFQ w ad g A H 2 a b sd) := by
  show PP mX5_perform 0 [some (.ref (ad (10, w, 0))), some (.int (nI 2)), some (.int a), some (.int b), some (.long sd), none, none, none] [] (Rel ad g) _
  refine pp_aload_n dX5_perform_0 rfl isRf_r (q := 1) rfl ?_
  refine pp_iload_n dX5_perform_1 rfl (q := 2) rfl ?_
  refine pp_iload_n dX5_perform_2 rfl (q := 3) rfl ?_
  refine pp_iload_n dX5_perform_3 rfl (q := 4) rfl ?_
  refine ps_callVi dX5_perform_4 lk_X5_86 (by exact (by first | exact hX3.1.1 | exact hX2.1.1 | exact hX1.1.1 | exact hX.1.1)) (by rfl) (by rfl) (by rfl) (c_why2 hX.1 hX.2.1.1.2.1 (by have := hX.2.1.1.bd; omega)) (by rfl) (by exact Nat.le_of_ble_eq_true rfl) (by decide) (by decide) (by exact Nat.le_of_ble_eq_true rfl) (q := 7) rfl (fun r4 g4 h4 => ?_)
  obtain ⟨rfl, rfl⟩ := And.intro h4.1.symm h4.2.symm
  refine pp_istore dX5_perform_7 (by decide) (ls1_6 nl0) (q := 9) rfl ?_
  refine pp_iload dX5_perform_9 rfl (q := 11) rfl ?_
  refine pp_if_eq (tgt := 17) dX5_perform_11 (by decide) (q := 14) rfl (fun c11 => ?_) (fun c11 => ?_)
  · obtain ⟨hb, hm, hdn, ha, hr, hn⟩ := whyA_0 c11
    have hb2 : isM a ∧ isM b := ⟨Classical.not_not.mp (fun q => hb (Or.inl q)), Classical.not_not.mp (fun q => hb (Or.inr q))⟩
    obtain ⟨⟨i, hi, rfl⟩, -⟩ := hb2
    have hd : mdA A i := mdX_i hi (Classical.not_not.mp (fun q => hm (Or.inl q)))
    exact PF.done (c_pf2 hX hok hr hn hi hd) c11 (by unfold stA; rw [cl_nI (by omega : i < 2 ^ 31)]; first | done | rfl)
  · refine pp_iload dX5_perform_14 rfl (q := 16) rfl ?_
    refine pp_iret dX5_perform_16 rfl rfl (fun G hG => ⟨_, _, hG, ?_⟩)
    exact ⟨EqW.rf, Or.inr ⟨c11, rfl, hX⟩⟩
set_option maxRecDepth 20000 in
set_option maxHeartbeats 4000000 in
theorem c_perf3 {ad : Nm → Nat} {g : Sg} {w : Nat} {A : AW} {H : List Act} {a b : Int32} {sd : Int64} (hX : RX g w A H) (hok : okX A) : PP mX5_perform 0 (ent mX5_perform [.ref (ad (10, w, 0)), .int (nI 3), .int a, .int b, .long sd]) [] (Rel ad g) (PFQ w ad g A H 3 a b sd) := by
  show PP mX5_perform 0 [some (.ref (ad (10, w, 0))), some (.int (nI 3)), some (.int a), some (.int b), some (.long sd), none, none, none] [] (Rel ad g) _
  refine pp_aload_n dX5_perform_0 rfl isRf_r (q := 1) rfl ?_
  refine pp_iload_n dX5_perform_1 rfl (q := 2) rfl ?_
  refine pp_iload_n dX5_perform_2 rfl (q := 3) rfl ?_
  refine pp_iload_n dX5_perform_3 rfl (q := 4) rfl ?_
  refine ps_callVi dX5_perform_4 lk_X5_86 (by exact (by first | exact hX3.1.1 | exact hX2.1.1 | exact hX1.1.1 | exact hX.1.1)) (by rfl) (by rfl) (by rfl) (c_why3 hX.1 hX.2.1.1.2.1 (by have := hX.2.1.1.bd; omega)) (by rfl) (by exact Nat.le_of_ble_eq_true rfl) (by decide) (by decide) (by exact Nat.le_of_ble_eq_true rfl) (q := 7) rfl (fun r4 g4 h4 => ?_)
  obtain ⟨rfl, rfl⟩ := And.intro h4.1.symm h4.2.symm
  refine pp_istore dX5_perform_7 (by decide) (ls1_6 nl0) (q := 9) rfl ?_
  refine pp_iload dX5_perform_9 rfl (q := 11) rfl ?_
  refine pp_if_eq (tgt := 17) dX5_perform_11 (by decide) (q := 14) rfl (fun c11 => ?_) (fun c11 => ?_)
  · obtain ⟨hb, hm, hdn, ha, hr, hn⟩ := whyA_0 c11
    obtain ⟨i, hi, rfl⟩ : isM a := Classical.not_not.mp hb
    have hd : mdA A i := mdX_i hi (Classical.not_not.mp hm)
    exact PF.done (c_pf3 hX hok hr hn hi hd) c11 (by unfold stA; rw [cl_nI (by omega : i < 2 ^ 31)]; first | done | rfl)
  · refine pp_iload dX5_perform_14 rfl (q := 16) rfl ?_
    refine pp_iret dX5_perform_16 rfl rfl (fun G hG => ⟨_, _, hG, ?_⟩)
    exact ⟨EqW.rf, Or.inr ⟨c11, rfl, hX⟩⟩
set_option maxRecDepth 20000 in
set_option maxHeartbeats 4000000 in
theorem c_perf4 {ad : Nm → Nat} {g : Sg} {w : Nat} {A : AW} {H : List Act} {a b : Int32} {sd : Int64} (hX : RX g w A H) (hok : okX A) : PP mX5_perform 0 (ent mX5_perform [.ref (ad (10, w, 0)), .int (nI 4), .int a, .int b, .long sd]) [] (Rel ad g) (PFQ w ad g A H 4 a b sd) := by
  show PP mX5_perform 0 [some (.ref (ad (10, w, 0))), some (.int (nI 4)), some (.int a), some (.int b), some (.long sd), none, none, none] [] (Rel ad g) _
  refine pp_aload_n dX5_perform_0 rfl isRf_r (q := 1) rfl ?_
  refine pp_iload_n dX5_perform_1 rfl (q := 2) rfl ?_
  refine pp_iload_n dX5_perform_2 rfl (q := 3) rfl ?_
  refine pp_iload_n dX5_perform_3 rfl (q := 4) rfl ?_
  refine ps_callVi dX5_perform_4 lk_X5_86 (by exact (by first | exact hX3.1.1 | exact hX2.1.1 | exact hX1.1.1 | exact hX.1.1)) (by rfl) (by rfl) (by rfl) (c_why4 hX.1 hX.2.1.1.2.1 (by have := hX.2.1.1.bd; omega)) (by rfl) (by exact Nat.le_of_ble_eq_true rfl) (by decide) (by decide) (by exact Nat.le_of_ble_eq_true rfl) (q := 7) rfl (fun r4 g4 h4 => ?_)
  obtain ⟨rfl, rfl⟩ := And.intro h4.1.symm h4.2.symm
  refine pp_istore dX5_perform_7 (by decide) (ls1_6 nl0) (q := 9) rfl ?_
  refine pp_iload dX5_perform_9 rfl (q := 11) rfl ?_
  refine pp_if_eq (tgt := 17) dX5_perform_11 (by decide) (q := 14) rfl (fun c11 => ?_) (fun c11 => ?_)
  · obtain ⟨hb, hm, hdn, ha, hr, hn⟩ := whyA_0 c11
    obtain ⟨i, hi, rfl⟩ : isM a := Classical.not_not.mp hb
    have hd : mdA A i := mdX_i hi (Classical.not_not.mp hm)
    exact PF.done (c_pf4 hX hok hr hn hi hd) c11 (by unfold stA; rw [cl_nI (by omega : i < 2 ^ 31)]; first | done | rfl)
  · refine pp_iload dX5_perform_14 rfl (q := 16) rfl ?_
    refine pp_iret dX5_perform_16 rfl rfl (fun G hG => ⟨_, _, hG, ?_⟩)
    exact ⟨EqW.rf, Or.inr ⟨c11, rfl, hX⟩⟩
set_option maxRecDepth 20000 in
set_option maxHeartbeats 4000000 in
theorem c_perf5 {ad : Nm → Nat} {g : Sg} {w : Nat} {A : AW} {H : List Act} {a b : Int32} {sd : Int64} (hX : RX g w A H) (hok : okX A) : PP mX5_perform 0 (ent mX5_perform [.ref (ad (10, w, 0)), .int (nI 5), .int a, .int b, .long sd]) [] (Rel ad g) (PFQ w ad g A H 5 a b sd) := by
  show PP mX5_perform 0 [some (.ref (ad (10, w, 0))), some (.int (nI 5)), some (.int a), some (.int b), some (.long sd), none, none, none] [] (Rel ad g) _
  refine pp_aload_n dX5_perform_0 rfl isRf_r (q := 1) rfl ?_
  refine pp_iload_n dX5_perform_1 rfl (q := 2) rfl ?_
  refine pp_iload_n dX5_perform_2 rfl (q := 3) rfl ?_
  refine pp_iload_n dX5_perform_3 rfl (q := 4) rfl ?_
  refine ps_callVi dX5_perform_4 lk_X5_86 (by exact (by first | exact hX3.1.1 | exact hX2.1.1 | exact hX1.1.1 | exact hX.1.1)) (by rfl) (by rfl) (by rfl) (c_why5 hX.1 hX.2.1.1.2.1 (by have := hX.2.1.1.bd; omega)) (by rfl) (by exact Nat.le_of_ble_eq_true rfl) (by decide) (by decide) (by exact Nat.le_of_ble_eq_true rfl) (q := 7) rfl (fun r4 g4 h4 => ?_)
  obtain ⟨rfl, rfl⟩ := And.intro h4.1.symm h4.2.symm
  refine pp_istore dX5_perform_7 (by decide) (ls1_6 nl0) (q := 9) rfl ?_
  refine pp_iload dX5_perform_9 rfl (q := 11) rfl ?_
  refine pp_if_eq (tgt := 17) dX5_perform_11 (by decide) (q := 14) rfl (fun c11 => ?_) (fun c11 => ?_)
  · obtain ⟨hb, hm, hdn, ha, hr, hn⟩ := whyA_0 c11
    obtain ⟨i, hi, rfl⟩ : isM a := Classical.not_not.mp hb
    have hd : mdA A i := mdX_i hi (Classical.not_not.mp hm)
    exact PF.done (c_pf5 hX hok hr hn hi hd) c11 (by unfold stA; rw [cl_nI (by omega : i < 2 ^ 31)]; first | done | rfl)
  · refine pp_iload dX5_perform_14 rfl (q := 16) rfl ?_
    refine pp_iret dX5_perform_16 rfl rfl (fun G hG => ⟨_, _, hG, ?_⟩)
    exact ⟨EqW.rf, Or.inr ⟨c11, rfl, hX⟩⟩
set_option maxRecDepth 20000 in
set_option maxHeartbeats 4000000 in
theorem c_perf6 {ad : Nm → Nat} {g : Sg} {w : Nat} {A : AW} {H : List Act} {a b : Int32} {sd : Int64} (hX : RX g w A H) (hok : okX A) : PP mX5_perform 0 (ent mX5_perform [.ref (ad (10, w, 0)), .int (nI 6), .int a, .int b, .long sd]) [] (Rel ad g) (PFQ w ad g A H 6 a b sd) := by
  show PP mX5_perform 0 [some (.ref (ad (10, w, 0))), some (.int (nI 6)), some (.int a), some (.int b), some (.long sd), none, none, none] [] (Rel ad g) _
  refine pp_aload_n dX5_perform_0 rfl isRf_r (q := 1) rfl ?_
  refine pp_iload_n dX5_perform_1 rfl (q := 2) rfl ?_
  refine pp_iload_n dX5_perform_2 rfl (q := 3) rfl ?_
  refine pp_iload_n dX5_perform_3 rfl (q := 4) rfl ?_
  refine ps_callVi dX5_perform_4 lk_X5_86 (by exact (by first | exact hX3.1.1 | exact hX2.1.1 | exact hX1.1.1 | exact hX.1.1)) (by rfl) (by rfl) (by rfl) (c_why6 hX.1 hX.2.1.1.2.1 (by have := hX.2.1.1.bd; omega)) (by rfl) (by exact Nat.le_of_ble_eq_true rfl) (by decide) (by decide) (by exact Nat.le_of_ble_eq_true rfl) (q := 7) rfl (fun r4 g4 h4 => ?_)
  obtain ⟨rfl, rfl⟩ := And.intro h4.1.symm h4.2.symm
  refine pp_istore dX5_perform_7 (by decide) (ls1_6 nl0) (q := 9) rfl ?_
  refine pp_iload dX5_perform_9 rfl (q := 11) rfl ?_
  refine pp_if_eq (tgt := 17) dX5_perform_11 (by decide) (q := 14) rfl (fun c11 => ?_) (fun c11 => ?_)
  · obtain ⟨hb, hm, hdn, ha, hr, hn⟩ := whyA_0 c11
    obtain ⟨i, hi, rfl⟩ : isM a := Classical.not_not.mp hb
    have hd : mdA A i := mdX_i hi (Classical.not_not.mp hm)
    exact PF.done (c_pf6 hX hok hr hn hi hd) c11 (by unfold stA; rw [cl_nI (by omega : i < 2 ^ 31)]; first | done | rfl)
  · refine pp_iload dX5_perform_14 rfl (q := 16) rfl ?_
    refine pp_iret dX5_perform_16 rfl rfl (fun G hG => ⟨_, _, hG, ?_⟩)
    exact ⟨EqW.rf, Or.inr ⟨c11, rfl, hX⟩⟩
set_option maxRecDepth 20000 in
set_option maxHeartbeats 4000000 in
theorem c_perf7 {ad : Nm → Nat} {g : Sg} {w : Nat} {A : AW} {H : List Act} {a b : Int32} {sd : Int64} (hX : RX g w A H) (hok : okX A) : PP mX5_perform 0 (ent mX5_perform [.ref (ad (10, w, 0)), .int (nI 7), .int a, .int b, .long sd]) [] (Rel ad g) (PFQ w ad g A H 7 a b sd) := by
  show PP mX5_perform 0 [some (.ref (ad (10, w, 0))), some (.int (nI 7)), some (.int a), some (.int b), some (.long sd), none, none, none] [] (Rel ad g) _
  refine pp_aload_n dX5_perform_0 rfl isRf_r (q := 1) rfl ?_
  refine pp_iload_n dX5_perform_1 rfl (q := 2) rfl ?_
  refine pp_iload_n dX5_perform_2 rfl (q := 3) rfl ?_
  refine pp_iload_n dX5_perform_3 rfl (q := 4) rfl ?_
  refine ps_callVi dX5_perform_4 lk_X5_86 (by exact (by first | exact hX3.1.1 | exact hX2.1.1 | exact hX1.1.1 | exact hX.1.1)) (by rfl) (by rfl) (by rfl) (c_why7 hX.1 hX.2.1.1.2.1 (by have := hX.2.1.1.bd; omega)) (by rfl) (by exact Nat.le_of_ble_eq_true rfl) (by decide) (by decide) (by exact Nat.le_of_ble_eq_true rfl) (q := 7) rfl (fun r4 g4 h4 => ?_)
  obtain ⟨rfl, rfl⟩ := And.intro h4.1.symm h4.2.symm
  refine pp_istore dX5_perform_7 (by decide) (ls1_6 nl0) (q := 9) rfl ?_
  refine pp_iload dX5_perform_9 rfl (q := 11) rfl ?_
  refine pp_if_eq (tgt := 17) dX5_perform_11 (by decide) (q := 14) rfl (fun c11 => ?_) (fun c11 => ?_)
  · obtain ⟨hb, hm, hdn, ha, hr, hn⟩ := whyA_0 c11
    obtain ⟨l, hl, rfl⟩ : isLt A a := Classical.not_not.mp hb
    obtain ⟨k, s, f, t, hp, hf, hfb, ht, htb, hpx⟩ := hok.1 l hl
    have hlb : l < 2 ^ 31 := by have := hr.1; omega
    exact PF.done (c_pf7 hX hok hr hn hp hpx hf hfb ht htb) c11 (by unfold stA; rw [cl_nI hlb, hf, ht, hp.2.1, hp.2.2.1, cl_nI (by have := hp.2.2.2; omega : k < 2 ^ 31), cl_nI (by have := hp.2.2.2; omega : s < 2 ^ 31), cl_nI (by omega : f < 2 ^ 31), cl_nI (by omega : t < 2 ^ 31)]; first | done | rfl)
  · refine pp_iload dX5_perform_14 rfl (q := 16) rfl ?_
    refine pp_iret dX5_perform_16 rfl rfl (fun G hG => ⟨_, _, hG, ?_⟩)
    exact ⟨EqW.rf, Or.inr ⟨c11, rfl, hX⟩⟩
set_option maxRecDepth 20000 in
set_option maxHeartbeats 4000000 in
theorem c_perf8 {ad : Nm → Nat} {g : Sg} {w : Nat} {A : AW} {H : List Act} {a b : Int32} {sd : Int64} (hX : RX g w A H) (hok : okX A) : PP mX5_perform 0 (ent mX5_perform [.ref (ad (10, w, 0)), .int (nI 8), .int a, .int b, .long sd]) [] (Rel ad g) (PFQ w ad g A H 8 a b sd) := by
  show PP mX5_perform 0 [some (.ref (ad (10, w, 0))), some (.int (nI 8)), some (.int a), some (.int b), some (.long sd), none, none, none] [] (Rel ad g) _
  refine pp_aload_n dX5_perform_0 rfl isRf_r (q := 1) rfl ?_
  refine pp_iload_n dX5_perform_1 rfl (q := 2) rfl ?_
  refine pp_iload_n dX5_perform_2 rfl (q := 3) rfl ?_
  refine pp_iload_n dX5_perform_3 rfl (q := 4) rfl ?_
  refine ps_callVi dX5_perform_4 lk_X5_86 (by exact (by first | exact hX3.1.1 | exact hX2.1.1 | exact hX1.1.1 | exact hX.1.1)) (by rfl) (by rfl) (by rfl) (c_why8 hX.1 hX.2.1.1.2.1 (by have := hX.2.1.1.bd; omega)) (by rfl) (by exact Nat.le_of_ble_eq_true rfl) (by decide) (by decide) (by exact Nat.le_of_ble_eq_true rfl) (q := 7) rfl (fun r4 g4 h4 => ?_)
  obtain ⟨rfl, rfl⟩ := And.intro h4.1.symm h4.2.symm
  refine pp_istore dX5_perform_7 (by decide) (ls1_6 nl0) (q := 9) rfl ?_
  refine pp_iload dX5_perform_9 rfl (q := 11) rfl ?_
  refine pp_if_eq (tgt := 17) dX5_perform_11 (by decide) (q := 14) rfl (fun c11 => ?_) (fun c11 => ?_)
  · obtain ⟨hb, hm, hdn, ha, hr, hn⟩ := whyA_0 c11
    obtain ⟨l, hl, rfl⟩ : isLt A a := Classical.not_not.mp hb
    obtain ⟨k, s, f, t, hp, hf, hfb, ht, htb, hpx⟩ := hok.1 l hl
    have hlb : l < 2 ^ 31 := by have := hr.1; omega
    exact PF.done (c_pf8 hX hok hr hn hl) c11 (by unfold stA; rw [cl_nI hlb]; first | done | rfl)
  · refine pp_iload dX5_perform_14 rfl (q := 16) rfl ?_
    refine pp_iret dX5_perform_16 rfl rfl (fun G hG => ⟨_, _, hG, ?_⟩)
    exact ⟨EqW.rf, Or.inr ⟨c11, rfl, hX⟩⟩
set_option maxRecDepth 20000 in
set_option maxHeartbeats 4000000 in
theorem c_perf9 {ad : Nm → Nat} {g : Sg} {w : Nat} {A : AW} {H : List Act} {a b : Int32} {sd : Int64} (hX : RX g w A H) (hok : okX A) : PP mX5_perform 0 (ent mX5_perform [.ref (ad (10, w, 0)), .int (nI 9), .int a, .int b, .long sd]) [] (Rel ad g) (PFQ w ad g A H 9 a b sd) := by
  show PP mX5_perform 0 [some (.ref (ad (10, w, 0))), some (.int (nI 9)), some (.int a), some (.int b), some (.long sd), none, none, none] [] (Rel ad g) _
  refine pp_aload_n dX5_perform_0 rfl isRf_r (q := 1) rfl ?_
  refine pp_iload_n dX5_perform_1 rfl (q := 2) rfl ?_
  refine pp_iload_n dX5_perform_2 rfl (q := 3) rfl ?_
  refine pp_iload_n dX5_perform_3 rfl (q := 4) rfl ?_
  refine ps_callVi dX5_perform_4 lk_X5_86 (by exact (by first | exact hX3.1.1 | exact hX2.1.1 | exact hX1.1.1 | exact hX.1.1)) (by rfl) (by rfl) (by rfl) (c_why9 hX.1 hX.2.1.1.2.1 (by have := hX.2.1.1.bd; omega)) (by rfl) (by exact Nat.le_of_ble_eq_true rfl) (by decide) (by decide) (by exact Nat.le_of_ble_eq_true rfl) (q := 7) rfl (fun r4 g4 h4 => ?_)
  obtain ⟨rfl, rfl⟩ := And.intro h4.1.symm h4.2.symm
  refine pp_istore dX5_perform_7 (by decide) (ls1_6 nl0) (q := 9) rfl ?_
  refine pp_iload dX5_perform_9 rfl (q := 11) rfl ?_
  refine pp_if_eq (tgt := 17) dX5_perform_11 (by decide) (q := 14) rfl (fun c11 => ?_) (fun c11 => ?_)
  · obtain ⟨hb, hm, hdn, ha, hr, hn⟩ := whyA_0 c11
    obtain ⟨l, hl, rfl⟩ : isLt A a := Classical.not_not.mp hb
    obtain ⟨k, s, f, t, hp, hf, hfb, ht, htb, hpx⟩ := hok.1 l hl
    have hlb : l < 2 ^ 31 := by have := hr.1; omega
    exact PF.done (c_pf9 hX hok hr hn hp) c11 (by unfold stA; rw [cl_nI hlb, hp.2.1, hp.2.2.1, cl_nI (by have := hp.2.2.2; omega : k < 2 ^ 31), cl_nI (by have := hp.2.2.2; omega : s < 2 ^ 31)]; first | done | rfl)
  · refine pp_iload dX5_perform_14 rfl (q := 16) rfl ?_
    refine pp_iret dX5_perform_16 rfl rfl (fun G hG => ⟨_, _, hG, ?_⟩)
    exact ⟨EqW.rf, Or.inr ⟨c11, rfl, hX⟩⟩
set_option maxRecDepth 20000 in
set_option maxHeartbeats 4000000 in
theorem c_perf10 {ad : Nm → Nat} {g : Sg} {w : Nat} {A : AW} {H : List Act} {a b : Int32} {sd : Int64} (hX : RX g w A H) (hok : okX A) : PP mX5_perform 0 (ent mX5_perform [.ref (ad (10, w, 0)), .int (nI 10), .int a, .int b, .long sd]) [] (Rel ad g) (PFQ w ad g A H 10 a b sd) := by
  show PP mX5_perform 0 [some (.ref (ad (10, w, 0))), some (.int (nI 10)), some (.int a), some (.int b), some (.long sd), none, none, none] [] (Rel ad g) _
  refine pp_aload_n dX5_perform_0 rfl isRf_r (q := 1) rfl ?_
  refine pp_iload_n dX5_perform_1 rfl (q := 2) rfl ?_
  refine pp_iload_n dX5_perform_2 rfl (q := 3) rfl ?_
  refine pp_iload_n dX5_perform_3 rfl (q := 4) rfl ?_
  refine ps_callVi dX5_perform_4 lk_X5_86 (by exact (by first | exact hX3.1.1 | exact hX2.1.1 | exact hX1.1.1 | exact hX.1.1)) (by rfl) (by rfl) (by rfl) (c_why10 hX.1 hX.2.1.1.2.1 (by have := hX.2.1.1.bd; omega)) (by rfl) (by exact Nat.le_of_ble_eq_true rfl) (by decide) (by decide) (by exact Nat.le_of_ble_eq_true rfl) (q := 7) rfl (fun r4 g4 h4 => ?_)
  obtain ⟨rfl, rfl⟩ := And.intro h4.1.symm h4.2.symm
  refine pp_istore dX5_perform_7 (by decide) (ls1_6 nl0) (q := 9) rfl ?_
  refine pp_iload dX5_perform_9 rfl (q := 11) rfl ?_
  refine pp_if_eq (tgt := 17) dX5_perform_11 (by decide) (q := 14) rfl (fun c11 => ?_) (fun c11 => ?_)
  · obtain ⟨hb, hm, hdn, ha, hr, hn⟩ := whyA_0 c11
    have hb2 : isM a ∧ isM b := ⟨Classical.not_not.mp (fun q => hb (Or.inl q)), Classical.not_not.mp (fun q => hb (Or.inr q))⟩
    obtain ⟨⟨i, hi, rfl⟩, ⟨j, hj, rfl⟩⟩ := hb2
    exact PF.done (c_pf10 hX hok hr hn hi hj) c11 (by unfold stA; rw [cl_nI (by omega : i < 2 ^ 31), cl_nI (by omega : j < 2 ^ 31)]; first | done | rfl)
  · refine pp_iload dX5_perform_14 rfl (q := 16) rfl ?_
    refine pp_iret dX5_perform_16 rfl rfl (fun G hG => ⟨_, _, hG, ?_⟩)
    exact ⟨EqW.rf, Or.inr ⟨c11, rfl, hX⟩⟩
set_option maxRecDepth 20000 in
set_option maxHeartbeats 4000000 in
theorem c_perf11 {ad : Nm → Nat} {g : Sg} {w : Nat} {A : AW} {H : List Act} {a b : Int32} {sd : Int64} (hX : RX g w A H) (hok : okX A) : PP mX5_perform 0 (ent mX5_perform [.ref (ad (10, w, 0)), .int (nI 11), .int a, .int b, .long sd]) [] (Rel ad g) (PFQ w ad g A H 11 a b sd) := by
  show PP mX5_perform 0 [some (.ref (ad (10, w, 0))), some (.int (nI 11)), some (.int a), some (.int b), some (.long sd), none, none, none] [] (Rel ad g) _
  refine pp_aload_n dX5_perform_0 rfl isRf_r (q := 1) rfl ?_
  refine pp_iload_n dX5_perform_1 rfl (q := 2) rfl ?_
  refine pp_iload_n dX5_perform_2 rfl (q := 3) rfl ?_
  refine pp_iload_n dX5_perform_3 rfl (q := 4) rfl ?_
  refine ps_callVi dX5_perform_4 lk_X5_86 (by exact (by first | exact hX3.1.1 | exact hX2.1.1 | exact hX1.1.1 | exact hX.1.1)) (by rfl) (by rfl) (by rfl) (c_why11 hX.1 hX.2.1.1.2.1 (by have := hX.2.1.1.bd; omega)) (by rfl) (by exact Nat.le_of_ble_eq_true rfl) (by decide) (by decide) (by exact Nat.le_of_ble_eq_true rfl) (q := 7) rfl (fun r4 g4 h4 => ?_)
  obtain ⟨rfl, rfl⟩ := And.intro h4.1.symm h4.2.symm
  refine pp_istore dX5_perform_7 (by decide) (ls1_6 nl0) (q := 9) rfl ?_
  refine pp_iload dX5_perform_9 rfl (q := 11) rfl ?_
  refine pp_if_eq (tgt := 17) dX5_perform_11 (by decide) (q := 14) rfl (fun c11 => ?_) (fun c11 => ?_)
  · obtain ⟨hb, hm, hdn, ha, hr, hn⟩ := whyA_0 c11
    have hb2 : isM a ∧ isM b := ⟨Classical.not_not.mp (fun q => hb (Or.inl q)), Classical.not_not.mp (fun q => hb (Or.inr q))⟩
    obtain ⟨⟨i, hi, rfl⟩, ⟨j, hj, rfl⟩⟩ := hb2
    exact PF.done (c_pf11 hX hok hr hn hi hj) c11 (by unfold stA; rw [cl_nI (by omega : i < 2 ^ 31), cl_nI (by omega : j < 2 ^ 31)]; first | done | rfl)
  · refine pp_iload dX5_perform_14 rfl (q := 16) rfl ?_
    refine pp_iret dX5_perform_16 rfl rfl (fun G hG => ⟨_, _, hG, ?_⟩)
    exact ⟨EqW.rf, Or.inr ⟨c11, rfl, hX⟩⟩
