def pcV (s : Nat) (o : Option Nat) : Int32 := match o with
  | some i => nI (38720 + 4 * (s + i))
  | none => -1
set_option maxRecDepth 20000 in
set_option maxHeartbeats 4000000 in
theorem s_pco {ad : Nm → Nat} {g : Sg} {A : AW} {n l k s i : Nat} {x : Int32} {r : Int32} (h : RS g A n False) (hP : bP (aB A) ≤ 20000) (hp : pOk (aB A) l k s) (hi : i < k) (hk : ¬ bp (aB A) (s + i) 0 = x → ∀ z, PS mX7_pieceOf 2 [some (.ref (ad (40, 0, 0))), some (.int (nI l)), some (.int x), some (.int (nI (i + 1))), z] [] ad g (Ri (fun v g' => v = r ∧ g' = g))) (hk2 : bp (aB A) (s + i) 0 = x → nI (38720 + 4 * (s + i)) = r ∧ g = g) (z : Option Value) : PS mX7_pieceOf 2 [some (.ref (ad (40, 0, 0))), some (.int (nI l)), some (.int x), some (.int (nI i)), z] [] ad g (Ri (fun v g' => v = r ∧ g' = g)) := by
  refine pp_iload_n dX7_pieceOf_2 rfl (q := 3) rfl ?_
  refine pp_aload_n dX7_pieceOf_3 rfl isRf_r (q := 4) rfl ?_
  refine pp_iload_n dX7_pieceOf_4 rfl (q := 5) rfl ?_
  refine pp_iconst dX7_pieceOf_5 ci_5 (q := 6) rfl ?_
  refine ps_callVi dX7_pieceOf_6 lk_X7_83 (by exact h.1) (by rfl) (by rfl) (by rfl) (m_lt (c := 5) h hp.1 (by omega)) (by rfl) (by exact Nat.le_of_ble_eq_true rfl) (by decide) (by decide) (by exact Nat.le_of_ble_eq_true rfl) (q := 9) rfl (fun r6 g6 h6 => ?_)
  obtain ⟨rfl, rfl⟩ := And.intro h6.1.symm h6.2.symm
  rw [show bl (aB A) l (lcx 5) = nI k from hp.2.1]
  refine pp_icmp_ge (tgt := 47) dX7_pieceOf_9 (by decide) (q := 12) rfl (fun c9 => absurd c9 (nI_ge hi (by have := hp.2.2.2; omega))) (fun c9 => ?_)
  refine pp_ldc (v := nI 38720) dX7_pieceOf_12 kc_X7_71 (q := 14) rfl ?_
  refine pp_iconst dX7_pieceOf_14 ci_4 (q := 15) rfl ?_
  refine pp_aload_n dX7_pieceOf_15 rfl isRf_r (q := 16) rfl ?_
  refine pp_iload_n dX7_pieceOf_16 rfl (q := 17) rfl ?_
  refine pp_iconst dX7_pieceOf_17 ci_4 (q := 18) rfl ?_
  refine ps_callVi dX7_pieceOf_18 lk_X7_83 (by exact h.1) (by rfl) (by rfl) (by rfl) (m_lt (c := 4) h hp.1 (by omega)) (by rfl) (by exact Nat.le_of_ble_eq_true rfl) (by decide) (by decide) (by exact Nat.le_of_ble_eq_true rfl) (q := 21) rfl (fun r18 g18 h18 => ?_)
  obtain ⟨rfl, rfl⟩ := And.intro h18.1.symm h18.2.symm
  rw [show bl (aB A) l (lcx 4) = nI s from hp.2.2.1]
  refine pp_iload_n dX7_pieceOf_21 rfl (q := 22) rfl ?_
  refine pp_iadd dX7_pieceOf_22 (q := 23) rfl ?_
  try rw [nI_add]
  refine pp_imul dX7_pieceOf_23 (q := 24) rfl ?_
  try rw [pk_mul]
  refine pp_iadd dX7_pieceOf_24 (q := 25) rfl ?_
  try rw [nI_add]
  refine pp_istore dX7_pieceOf_25 (by decide) (ls1_4 (nl1 rfl)) (q := 27) rfl ?_
  refine pp_aload_n dX7_pieceOf_27 rfl isRf_r (q := 28) rfl ?_
  refine ps_get dX7_pieceOf_28 fl_X7_8 h.1 rfl rfl (q := 31) rfl ?_
  refine pp_iload dX7_pieceOf_31 rfl (q := 33) rfl ?_
  refine ps_iald (j := 38720 + 4 * (s + i)) dX7_pieceOf_33 h.1 rfl rfl (by have := hp.2.2.2; omega) (by decide) (q := 34) rfl ?_
  rw [show gA g (41, 0, 0) (38720 + 4 * (s + i)) = bp (aB A) (s + i) 0 from h.2.pc (c := 0) (by have := hp.2.2.2; omega) (by omega)]
  refine pp_iload_n dX7_pieceOf_34 rfl (q := 35) rfl ?_
  refine pp_icmp_ne (tgt := 41) dX7_pieceOf_35 (by decide) (q := 38) rfl (fun c35 => ?_) (fun c35 => ?_)
  · have hn : ¬ bp (aB A) (s + i) 0 = x := c35
    refine pp_iinc dX7_pieceOf_41 rfl (nI_1 _) (ls1_3 (nl1 rfl)) (q := 44) rfl ?_
    refine pp_goto (tgt := 2) dX7_pieceOf_44 (by decide) ?_
    exact hk hn _
  · have hy : bp (aB A) (s + i) 0 = x := c35
    refine pp_iload dX7_pieceOf_38 rfl (q := 40) rfl ?_
    refine ri_ret dX7_pieceOf_40 rfl rfl ?_
    exact hk2 hy
set_option maxRecDepth 20000 in
set_option maxHeartbeats 4000000 in
theorem s_pcz {ad : Nm → Nat} {g : Sg} {A : AW} {n l k s : Nat} {x r : Int32} (h : RS g A n False) (hp : pOk (aB A) l k s) (hr : -1 = r) (z : Option Value) : PS mX7_pieceOf 2 [some (.ref (ad (40, 0, 0))), some (.int (nI l)), some (.int x), some (.int (nI k)), z] [] ad g (Ri (fun v g' => v = r ∧ g' = g)) := by
  refine pp_iload_n dX7_pieceOf_2 rfl (q := 3) rfl ?_
  refine pp_aload_n dX7_pieceOf_3 rfl isRf_r (q := 4) rfl ?_
  refine pp_iload_n dX7_pieceOf_4 rfl (q := 5) rfl ?_
  refine pp_iconst dX7_pieceOf_5 ci_5 (q := 6) rfl ?_
  refine ps_callVi dX7_pieceOf_6 lk_X7_83 (by exact h.1) (by rfl) (by rfl) (by rfl) (m_lt (c := 5) h hp.1 (by omega)) (by rfl) (by exact Nat.le_of_ble_eq_true rfl) (by decide) (by decide) (by exact Nat.le_of_ble_eq_true rfl) (q := 9) rfl (fun r6 g6 h6 => ?_)
  obtain ⟨rfl, rfl⟩ := And.intro h6.1.symm h6.2.symm
  rw [show bl (aB A) l (lcx 5) = nI k from hp.2.1]
  refine pp_icmp_ge (tgt := 47) dX7_pieceOf_9 (by decide) (q := 12) rfl (fun c9 => ?_) (fun c9 => absurd (Int32.le_refl _) c9)
  refine pp_iconst dX7_pieceOf_47 ci_m1 (q := 48) rfl ?_
  refine ri_ret dX7_pieceOf_48 rfl rfl ?_
  exact ⟨hr, rfl⟩
theorem l_pco {ad : Nm → Nat} {g : Sg} {A : AW} {n l k s : Nat} {x r : Int32} (h : RS g A n False) (hP : bP (aB A) ≤ 20000) (hp : pOk (aB A) l k s) : ∀ (j i : Nat), k - i < j → i ≤ k → pcV s (fnd (fun i => decide (bp (aB A) (s + i) 0 = x)) i (k - i)) = r → ∀ z, PS mX7_pieceOf 2 [some (.ref (ad (40, 0, 0))), some (.int (nI l)), some (.int x), some (.int (nI i)), z] [] ad g (Ri (fun v g' => v = r ∧ g' = g)) := by
  intro j
  induction j with
  | zero => intro i h; omega
  | succ j ih =>
    intro i hij hik hr z
    by_cases e : i = k
    · subst e
      rw [fnd_end] at hr
      exact s_pcz h hp hr z
    · refine s_pco h hP hp (by omega) (fun hn z => ?_) (fun hy => ?_) z
      · rw [fnd_step (by omega) (decide_eq_false hn)] at hr
        exact ih (i + 1) (by omega) (by omega) hr z
      · rw [fnd_hit (by omega) (decide_eq_true hy)] at hr
        exact ⟨hr, rfl⟩
set_option maxRecDepth 20000 in
set_option maxHeartbeats 4000000 in
theorem m_pieceOf {ad : Nm → Nat} {g : Sg} {A : AW} {n l k s : Nat} {x : Int32} (h : RS g A n False) (hP : bP (aB A) ≤ 20000) (hp : pOk (aB A) l k s) : PS mX7_pieceOf 0 (ent mX7_pieceOf [.ref (ad (40, 0, 0)), .int (nI l), .int x]) [] ad g (Ri (fun v g' => v = pcV s (pcO (aB A) l x) ∧ g' = g)) := by
  show PP mX7_pieceOf 0 [some (.ref (ad (40, 0, 0))), some (.int (nI l)), some (.int x), none, none] [] (Rel ad g) _
  refine pp_iconst dX7_pieceOf_0 ci_0 (q := 1) rfl ?_
  refine pp_istore_n dX7_pieceOf_1 (by decide) (ls1_3 (nl1 rfl)) (q := 2) rfl ?_
  exact l_pco h hP hp (k + 1) 0 (by omega) (by omega) (by rw [pcO_k (by omega) hp]; rfl) _
def wyR (g g' : Sg) : Prop := EqX (fun n => n = (40, 0, 0) ∨ n = (46, 0, 0)) g g' ∧ ∀ k, k ≠ 9 → gI g' (40, 0, 0) k = gI g (40, 0, 0) k
def wyH (g : Sg) (Y : List Int32) : Prop := gI g (40, 0, 0) 9 = nI Y.length ∧ ∀ i v, Y[i]? = some v → gA g (46, 0, 0) i = v
theorem wyR.rs {g g' : Sg} {A : AW} {n : Nat} {o : Prop} (h : wyR g g') (hR : RS g A n o) : RS g' A n o := EqX.rs h.1 (fun n q => by rcases q with rfl | rfl <;> exact ⟨by decide, by decide⟩) hR
theorem RR_w {g g' : Sg} {S : CS} {Y : List Int32} (hR : RR g S) (h : wyR g g') (hl : Y.length ≤ 1200) (hY : wyH g' Y) : RR g' (stY S Y) ∧ EqX mdS g g' := by
  obtain ⟨r1, r2, r3, r4, r5, r8⟩ := hR
  have q : ∀ k, k ≠ 40 → k ≠ 46 → ¬ (((k, 0, 0) : Nm) = (40, 0, 0) ∨ ((k, 0, 0) : Nm) = (46, 0, 0)) := fun k h1 h2 q => q.elim (fun z => h1 (congrArg (fun z => z.1) z)) (fun z => h2 (congrArg (fun z => z.1) z))
  refine ⟨⟨h.rs r1, ?_, fun k hk => ?_, ?_, ⟨hY.1, hl, hY.2⟩, fun i hi => ?_⟩, h.1.mono (fun n q => by rcases q with rfl | rfl <;> exact ⟨by decide, by decide⟩)⟩
  · show RK g' (sK S)
    unfold RK at r2 ⊢
    rw [h.2 4 (by omega)]
    revert r2
    cases sK S with
    | none => intro r2; exact r2
    | some K => intro r2; exact ⟨r2.1, by rw [(h.1.1 _ (q 42 (by omega) (by omega))).2.2.1, (h.1.1 _ (q 44 (by omega) (by omega))).2.2.2]; exact r2.2⟩
  · rw [(h.1.1 _ (q 47 (by omega) (by omega))).2.2.1]; exact r3 k hk
  · rw [h.2 10 (by omega)]; exact r4
  · rw [(h.1.1 _ (q 45 (by omega) (by omega))).2.2.1]; exact r8 i hi
theorem wyH_add {g : Sg} {Y : List Int32} {v : Int32} (h : wyH g Y) : wyH (sI (sA g (46, 0, 0) (upd (gA g (46, 0, 0)) Y.length v)) (40, 0, 0) 9 (nI (Y.length + 1))) (Y ++ [v]) ∧ wyR g (sI (sA g (46, 0, 0) (upd (gA g (46, 0, 0)) Y.length v)) (40, 0, 0) 9 (nI (Y.length + 1))) := by
  refine ⟨⟨?_, fun i w hw => ?_⟩, (EqX.rf.sA (Or.inr rfl)).sI (Or.inl rfl), fun k hk => by rw [gI_sI, if_neg (fun q => hk q.2)]; rfl⟩
  · rw [gI_sI, if_pos ⟨rfl, rfl⟩, List.length_append]
    rfl
  · show upd (gA g (46, 0, 0)) Y.length v i = w
    by_cases e : i < Y.length
    · rw [List.getElem?_append_left e] at hw
      rw [upd_ne (by omega)]
      exact h.2 i w hw
    · rw [List.getElem?_append_right (by omega)] at hw
      have e0 : i - Y.length = 0 := by
        refine Classical.byContradiction (fun q => ?_)
        rw [List.getElem?_eq_none (by show 1 ≤ _; omega)] at hw
        exact absurd hw (by simp)
      rw [e0] at hw
      rw [show i = Y.length by omega, upd_eq]
      exact Option.some.inj hw
set_option maxRecDepth 20000 in
set_option maxHeartbeats 4000000 in
theorem s_way {ad : Nm → Nat} {g : Sg} {A : AW} {n l k s j x : Nat} {a1 a3 : Int32} {Y : List Int32} {Q : Option Value → PH → Prop} (h : RS g A n False) (hP : bP (aB A) ≤ 20000) (hLb : bL (aB A) ≤ 1200) (hY : wyH g Y) (hYl : Y.length < 1200) (hp : pOk (aB A) l k s) (hj : j < k) (hsk : s + k ≤ bP (aB A)) (hpo : pcO (aB A) l (nI x) = some j) (hnx : nxW (aB A) (nI x) l = bp (aB A) (s + j) 3) (hl : l < bL (aB A)) (hk : PP mX7_way 36 [some (.ref (ad (40, 0, 0))), some (.int a1), some (.int (nI x)), some (.int a3), some (.int (nxW (aB A) (nI x) l))] [] (Rel ad (sI (sA g (46, 0, 0) (upd (gA g (46, 0, 0)) Y.length (nI l))) (40, 0, 0) 9 (nI (Y.length + 1)))) Q) : PP mX7_way 36 [some (.ref (ad (40, 0, 0))), some (.int a1), some (.int (nI x)), some (.int a3), some (.int (nI l))] [] (Rel ad g) Q := by
  refine pp_iload dX7_way_36 rfl (q := 38) rfl ?_
  refine pp_if_lt (tgt := 81) dX7_way_38 (by decide) (q := 41) rfl (fun c38 => absurd c38 (nI_nl2 (by omega))) (fun c38 => ?_)
  refine pp_aload_n dX7_way_41 rfl isRf_r (q := 42) rfl ?_
  refine ps_get dX7_way_42 fl_X7_27 h.1 rfl rfl (q := 45) rfl ?_
  refine pp_aload_n dX7_way_45 rfl isRf_r (q := 46) rfl ?_
  refine ps_get dX7_way_46 fl_X7_200 h.1 rfl rfl (q := 49) rfl ?_
  rw [hY.1]
  refine pp_iload dX7_way_49 rfl (q := 51) rfl ?_
  refine ps_iast (j := Y.length) dX7_way_51 h.1 (fun _ => rfl) rfl (by show Y.length < 1300; omega) (by decide) (q := 52) rfl ?_
  refine pp_aload_n dX7_way_52 rfl isRf_r (q := 53) rfl ?_
  refine pp_dup dX7_way_53 rfl (q := 54) rfl ?_
  refine ps_get dX7_way_54 fl_X7_200 h.1 rfl rfl (q := 57) rfl ?_
  rw [show gI (sA g (46, 0, 0) (upd (gA g (46, 0, 0)) Y.length (nI l))) (40, 0, 0) 9 = nI Y.length from hY.1]
  refine pp_iconst dX7_way_57 ci_1 (q := 58) rfl ?_
  refine pp_iadd dX7_way_58 (q := 59) rfl ?_
  try rw [nI_add]
  refine ps_puti dX7_way_59 fl_X7_200 h.1 rfl (by exact Nat.le_of_ble_eq_true rfl) rfl rfl rfl (q := 62) rfl ?_
  refine pp_aload_n dX7_way_62 rfl isRf_r (q := 63) rfl ?_
  refine ps_get dX7_way_63 fl_X7_8 h.1 rfl rfl (q := 66) rfl ?_
  refine pp_aload_n dX7_way_66 rfl isRf_r (q := 67) rfl ?_
  refine pp_iload dX7_way_67 rfl (q := 69) rfl ?_
  refine pp_iload_n dX7_way_69 rfl (q := 70) rfl ?_
  refine ps_callVi dX7_way_70 lk_X7_203 (by exact h.1) (by rfl) (by rfl) (by rfl) (m_pieceOf (A := A) (n := n) (show RS _ _ _ _ from (wyH_add (v := nI l) hY).2.rs h) hP hp) (by rfl) (by exact Nat.le_of_ble_eq_true rfl) (by decide) (by decide) (by exact Nat.le_of_ble_eq_true rfl) (q := 73) rfl (fun r70 g70 h70 => ?_)
  obtain ⟨rfl, rfl⟩ := And.intro h70.1.symm h70.2.symm
  rw [hpo]
  change PP mX7_way 73 _ (Value.int (nI (38720 + 4 * (s + j))) :: _) _ _
  refine pp_iconst dX7_way_73 ci_3 (q := 74) rfl ?_
  refine pp_iadd dX7_way_74 (q := 75) rfl ?_
  try rw [nI_add]
  refine ps_iald (j := 38720 + 4 * (s + j) + 3) dX7_way_75 h.1 rfl rfl (by omega) (by decide) (q := 76) rfl ?_
  rw [show gA (sI (sA g (46, 0, 0) (upd (gA g (46, 0, 0)) Y.length (nI l))) (40, 0, 0) 9 (nI (Y.length + 1))) (41, 0, 0) (38720 + 4 * (s + j) + 3) = nxW (aB A) (nI x) l from (h.2.pc (by omega) (by omega)).trans hnx.symm]
  refine pp_istore dX7_way_76 (by decide) (ls1_4 (nl1 rfl)) (q := 78) rfl ?_
  refine pp_goto (tgt := 36) dX7_way_78 (by decide) ?_
  exact hk
set_option maxRecDepth 20000 in
set_option maxHeartbeats 4000000 in
theorem s_wye {ad : Nm → Nat} {g : Sg} {x : Nat} {a1 a3 : Int32} {Y : List Int32} {P : Int32 → Sg → Prop} (h : al g (40, 0, 0) ∧ True) (hY : wyH g Y) (hr : P (nI Y.length) g) : PS mX7_way 36 [some (.ref (ad (40, 0, 0))), some (.int a1), some (.int (nI x)), some (.int a3), some (.int (-1))] [] ad g (Ri P) := by
  refine pp_iload dX7_way_36 rfl (q := 38) rfl ?_
  refine pp_if_lt (tgt := 81) dX7_way_38 (by decide) (q := 41) rfl (fun c38 => ?_) (fun c38 => absurd (by decide) c38)
  refine pp_aload_n dX7_way_81 rfl isRf_r (q := 82) rfl ?_
  refine ps_get dX7_way_82 fl_X7_200 h.1 rfl rfl (q := 85) rfl ?_
  rw [hY.1]
  refine ri_ret dX7_way_85 rfl rfl ?_
  exact hr
theorem wyL_s {B : Bk} {x : Int32} {f l : Nat} (h : l < bL B) (hb : bL B < 2 ^ 31) : wyL B x (f + 1) (nI l) = nI l :: wyL B x f (nxW B x l) := by
  show (if ¬ nI l < 0 ∧ nI l < nI (bL B) then _ else _) = _
  rw [if_pos ⟨nI_pos (by omega), (nI_ltI (by omega) hb).mpr h⟩, cl_nI (by omega)]
theorem l_way {ad : Nm → Nat} {g : Sg} {A : AW} {N n x : Nat} {a1 a3 : Int32} {P : Int32 → Sg → Prop} {Z : List Int32} (hI : INV N N A) (hx : x < 64) (hk : ∀ g', wyR g g' → wyH g' Z → P (nI Z.length) g') : ∀ (c : Nat) (f : Nat) (v : Int32) (Y : List Int32) (g1 : Sg), (v = -1 ∨ ∃ l, l < c ∧ l < bL (aB A) ∧ v = nI l ∧ hasP (aB A) l x) → c ≤ f → Y.length + c ≤ 1200 → Y ++ wyL (aB A) (nI x) f v = Z → RS g1 A n False → wyH g1 Y → wyR g g1 → PS mX7_way 36 [some (.ref (ad (40, 0, 0))), some (.int a1), some (.int (nI x)), some (.int a3), some (.int v)] [] ad g1 (Ri P) := by
  intro c
  induction c with
  | zero =>
    intro f v Y g1 hv hf hYl hZ h hY hE
    rcases hv with rfl | ⟨l, q, -⟩
    · rw [wyL_m1, List.append_nil] at hZ
      subst hZ
      exact s_wye ⟨h.1, trivial⟩ hY (hk g1 hE hY)
    · omega
  | succ c ih =>
    intro f v Y g1 hv hf hYl hZ h hY hE
    rcases hv with rfl | ⟨l, hlc, hl, rfl, hP⟩
    · rw [wyL_m1, List.append_nil] at hZ
      subst hZ
      exact s_wye ⟨h.1, trivial⟩ hY (hk g1 hE hY)
    · obtain ⟨f, rfl⟩ : ∃ f', f = f' + 1 := ⟨f - 1, by omega⟩
      have hLb := hI.1.1
      have hPb := hI.1.2.1
      obtain ⟨k, s, hp, -⟩ := hI.1.2.2.1 l hl
      obtain ⟨j, hpo⟩ := id hP
      have hfn : fnd (fun i => decide (bp (aB A) (s + i) 0 = nI x)) 0 k = some j := by rw [← pcO_k (by omega) hp]; exact hpo
      have hjk : j < k := by have := (fnd_some hfn).2.1; omega
      have hnx : nxW (aB A) (nI x) l = bp (aB A) (s + j) 3 := by
        unfold nxW
        rw [hpo]
        show bp (aB A) (cl (bl (aB A) l 7) + j) 3 = _
        rw [hp.2.2.1, cl_nI (by have := hp.2.2.2.1; omega)]
      rw [wyL_s hl (by omega)] at hZ
      refine s_way h hPb hLb hY (by omega) hp hjk hp.2.2.2.1 hpo hnx hl ?_
      have hA := wyH_add (v := nI l) hY
      refine ih f _ (Y ++ [nI l]) _ ?_ (by omega) (by rw [List.length_append]; show _ + 1 + _ ≤ _; omega) (by rw [List.append_assoc]; exact hZ) (hA.2.rs h) hA.1 ⟨hE.1.tr hA.2.1, fun k hk => (hA.2.2 k hk).trans (hE.2 k hk)⟩
      rcases hI.1.c hx l hl hP with q | ⟨l', q1, q2, q3⟩
      · exact Or.inl q
      · exact Or.inr ⟨l', by omega, by omega, q2, q3⟩
theorem wyL_len {B : Bk} {x : Int32} : ∀ (f : Nat) (v : Int32), (wyL B x f v).length ≤ f
  | 0, _ => Nat.le_refl 0
  | f + 1, v => by
    unfold wyL
    split
    · exact Nat.succ_le_succ (wyL_len f _)
    · exact Nat.zero_le _
set_option maxRecDepth 20000 in
set_option maxHeartbeats 4000000 in
theorem m_way {ad : Nm → Nat} {g : Sg} {S : CS} {a b : Int32} (hR : RR g S) (hH : okH (sH S)) : PS mX7_way 0 (ent mX7_way [.ref (ad (40, 0, 0)), .int a, .int b]) [] ad g (MdQ g (spWay a b S)) := by
  have h := hR.1
  have hI := inv_run hH
  have hn := okH_len hH
  show PP mX7_way 0 [some (.ref (ad (40, 0, 0))), some (.int a), some (.int b), none, none] [] (Rel ad g) _
  refine pp_aload_n dX7_way_0 rfl isRf_r (q := 1) rfl ?_
  refine pp_iload_n dX7_way_1 rfl (q := 2) rfl ?_
  refine pp_iload_n dX7_way_2 rfl (q := 3) rfl ?_
  refine ps_callVi dX7_way_3 lk_X7_175 (by exact (by first | exact hS0.1 | exact h.1)) (by rfl) (by rfl) (by rfl) (m_whyN h hI) (by rfl) (by exact Nat.le_of_ble_eq_true rfl) (by decide) (by decide) (by exact Nat.le_of_ble_eq_true rfl) (q := 6) rfl (fun r3 g3 h3 => ?_)
  obtain ⟨hz, rfl⟩ := And.intro h3.1 h3.2.symm
  refine pp_istore_n dX7_way_6 (by decide) (ls1_3 (nl1 rfl)) (q := 7) rfl ?_
  refine pp_iload_n dX7_way_7 rfl (q := 8) rfl ?_
  refine pp_if_eq (tgt := 17) dX7_way_8 (by decide) (q := 11) rfl (fun c8 => ?_) (fun c8 => ?_)
  · obtain ⟨m, x, hm, hx, rfl, rfl, hd, hk0⟩ : ∃ m x, m < 64 ∧ x < 64 ∧ a = nI m ∧ b = nI x ∧ mdA (runA (sH S)) m ∧ ¬ ((runA (sH S)).1 m).2.2 31 x = 0 := by
      rcases hz with ⟨-, q⟩ | ⟨k, hk, e, -⟩
      · exact q
      · exact absurd (e.symm.trans c8) (ngk_ne hk.1)
    have hno := (h.2.o hm hd).2.2.1 x hx
    refine pp_aload_n dX7_way_17 rfl isRf_r (q := 18) rfl ?_
    refine pp_iconst dX7_way_18 ci_0 (q := 19) rfl ?_
    refine ps_puti dX7_way_19 fl_X7_200 (by first | exact hS0.1 | exact h.1) rfl (by exact Nat.le_of_ble_eq_true rfl) rfl rfl rfl (q := 22) rfl ?_
    have hS0 : RS (sI g (40, 0, 0) 9 (nI 0)) (runA (sH S)) (sH S).length False := ⟨h.1, h.2⟩
    refine pp_aload_n dX7_way_22 rfl isRf_r (q := 23) rfl ?_
    refine ps_get dX7_way_23 fl_X7_8 (by first | exact hS0.1 | exact h.1) rfl rfl (q := 26) rfl ?_
    refine pp_iload_n dX7_way_26 rfl (q := 27) rfl ?_
    refine pp_iload_n dX7_way_27 rfl (q := 28) rfl ?_
    refine ps_callSi dX7_way_28 lk_X7_44 (by rfl) m_newsAt (by rfl) (by exact Nat.le_of_ble_eq_true rfl) (by decide) (by decide) (by exact Nat.le_of_ble_eq_true rfl) (q := 31) rfl (fun r28 g28 h28 => ?_)
    obtain ⟨rfl, rfl⟩ := And.intro h28.1.symm h28.2.symm
    refine pp_iconst dX7_way_31 ci_4 (q := 32) rfl ?_
    refine pp_iadd dX7_way_32 (q := 33) rfl ?_
    try rw [nI_add]
    refine ps_iald (j := nw m x + 4) dX7_way_33 (by first | exact hS0.1 | exact h.1) rfl rfl (by unfold nw; omega) (by decide) (q := 34) rfl ?_
    rw [show gA (sI g (40, 0, 0) 9 (nI 0)) (41, 0, 0) (nw m x + 4) = ((runA (sH S)).1 m).2.2 35 x from hno.2 hk0 4 (by omega) (by omega)]
    refine pp_istore dX7_way_34 (by decide) (ls1_4 (nl1 rfl)) (q := 36) rfl ?_
    have hM := hI.m hm hd
    have hv : ((runA (sH S)).1 m).2.2 35 x = -1 ∨ ∃ l, l < bL (aB (runA (sH S))) ∧ l < bL (aB (runA (sH S))) ∧ ((runA (sH S)).1 m).2.2 35 x = nI l ∧ hasP (aB (runA (sH S))) l x := by
      rcases (hM.2.2.2.2.2 x hx).2.2.2 with q | q | ⟨l, q1, q2, q3⟩
      · exact Or.inl q
      · exact absurd q hk0
      · exact Or.inr ⟨l, q1, q1, q2, hasQ_P hI.1 q3⟩
    have es : spWay (nI m) (nI x) S = (nI (wyL (aB (runA (sH S))) (nI x) 1200 (((runA (sH S)).1 m).2.2 35 x)).length, stY S (wyL (aB (runA (sH S))) (nI x) 1200 (((runA (sH S)).1 m).2.2 35 x))) := by
      unfold spWay wyS
      rw [qN_ok hm hx hd hk0, cl_nI (by omega), cl_nI (by omega)]
    rw [es]
    refine l_way (g := g) (N := (sH S).length + 1) (n := (sH S).length) (A := (runA (sH S))) (Z := wyL (aB (runA (sH S))) (nI x) 1200 (((runA (sH S)).1 m).2.2 35 x)) hI hx (fun g' hE hY => ?_) (bL (aB (runA (sH S)))) 1200 _ [] _ hv hI.1.1 (by have := hI.1.1; show 0 + _ ≤ 1200; omega) rfl hS0 ⟨by rw [gI_sI, if_pos ⟨rfl, rfl⟩]; rfl, fun i v q => by simp at q⟩ ⟨EqX.rf.sI (Or.inl rfl), fun k hk => by rw [gI_sI, if_neg (fun q => hk q.2)]⟩
    exact ⟨rfl, RR_w hR hE (wyL_len 1200 _) hY⟩
  · obtain ⟨k, hk, ek, hq⟩ : ∃ k, (isW k ∧ k ≠ 7) ∧ r3 = - nI k ∧ ∀ q, qN (runA (sH S)) a b q = .inl k := by
      rcases hz with ⟨q, -⟩ | q
      · exact absurd q c8
      · exact q
    rw [ek]
    refine pp_aload_n dX7_way_11 rfl isRf_r (q := 12) rfl ?_
    refine pp_iload_n dX7_way_12 rfl (q := 13) rfl ?_
    refine ps_callVi dX7_way_13 lk_X7_132 (by exact (by first | exact hS0.1 | exact h.1)) (by rfl) (by rfl) (by rfl) (m_no h.1 hk.1) (by rfl) (by exact Nat.le_of_ble_eq_true rfl) (by decide) (by decide) (by exact Nat.le_of_ble_eq_true rfl) (q := 16) rfl (fun r13 g13 h13 => ?_)
    obtain ⟨rfl, rfl⟩ := And.intro h13.1.symm h13.2.symm
    refine ri_ret dX7_way_16 rfl rfl ?_
    exact mq_no hR hk (by unfold spWay; rw [hq])
