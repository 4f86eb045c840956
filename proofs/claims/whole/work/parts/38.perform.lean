theorem gI_sJ {g : Sg} {n n' : Nm} {x : Int64} : gI (sJ g n x) n' = gI g n' := rfl
theorem rv_rset2 {g : Sg} {w i j i' j' : Nat} {x : Int32} (hj : j < 5) (hj' : j' < 5) : rv (rset g w 2 i j x) w 2 i' j' = if i' = i ∧ j' = j then x else rv g w 2 i' j' := by
  rw [rv_rset (r := 2) (r' := 2) hj hj']
  simp
theorem kaX {g : Sg} {w : Nat} {A : AW} {H : List Act} {act a b : Int32} {sd : Int64} (hX : RX g w A H) (hroom : (H.length + 1) * wdN 2 ≤ gN g (21, w, 2)) : RX (rset (rset (rset (rset (rset (radd g w 2 H.length) w 2 H.length 0 act) w 2 H.length 1 a) w 2 H.length 2 b) w 2 H.length 3 (hiS sd)) w 2 H.length 4 sd.toInt32) w A (H ++ [(act, a, b, sd)]) ∧ EqX (fun n => n = (20, w, 2) ∨ n = (21, w, 2)) g (rset (rset (rset (rset (rset (radd g w 2 H.length) w 2 H.length 0 act) w 2 H.length 1 a) w 2 H.length 2 b) w 2 H.length 3 (hiS sd)) w 2 H.length 4 sd.toInt32) := by
  have he : EqX (fun n => n = (20, w, 2) ∨ n = (21, w, 2)) g (rset (rset (rset (rset (rset (radd g w 2 H.length) w 2 H.length 0 act) w 2 H.length 1 a) w 2 H.length 2 b) w 2 H.length 3 (hiS sd)) w 2 H.length 4 sd.toInt32) := (((((EqX.rf.radd (Or.inr rfl) (Or.inl rfl)).rset (Or.inr rfl)).rset (Or.inr rfl)).rset (Or.inr rfl)).rset (Or.inr rfl)).rset (Or.inr rfl)
  refine ⟨⟨RW_acts hX.1 he, ⟨?_, fun i h c hh hc => ?_⟩, fun r hr => by rw [he.2.1]; exact hX.2.2 r hr⟩, he⟩
  · rw [List.length_append]
    exact rOk_radd hX.2.1.1 hroom
  · rw [rv_rset2 (by omega) hc, rv_rset2 (by omega) hc, rv_rset2 (by omega) hc, rv_rset2 (by omega) hc, rv_rset2 (by omega) hc, rv_radd (r := 2) (r' := 2) hc]
    by_cases hi : i < H.length
    · rw [List.getElem?_append_left hi] at hh
      rw [if_neg (by omega), if_neg (by omega), if_neg (by omega), if_neg (by omega), if_neg (by omega), if_neg (by omega)]
      exact hX.2.1.2 i h c hh hc
    · have hlt := lt_of_getE hh
      rw [List.length_append] at hlt
      have hlt2 : i < H.length + 1 := hlt
      have e : i = H.length := by omega
      subst e
      rw [List.getElem?_append_right (by omega), Nat.sub_self] at hh
      have eh : (act, a, b, sd) = h := Option.some.inj hh
      subst eh
      obtain rfl | rfl | rfl | rfl | rfl : c = 0 ∨ c = 1 ∨ c = 2 ∨ c = 3 ∨ c = 4 := by omega
      all_goals simp [colA]
set_option maxRecDepth 20000 in
set_option maxHeartbeats 4000000 in
theorem c_keepAct {ad : Nm → Nat} {g : Sg} {w : Nat} {A : AW} {H : List Act} {act a b : Int32} {sd : Int64} (hX : RX g w A H) (hn : H.length < 4000) : PP mX5_keepAct 0 (ent mX5_keepAct [.ref (ad (10, w, 0)), .int act, .int a, .int b, .long sd]) [] (Rel ad g) (PQ (fun v ad' g' => v = none ∧ EqW w ad g ad' g' ∧ RX g' w A (H ++ [(act, a, b, sd)]))) := by
  show PP mX5_keepAct 0 [some (.ref (ad (10, w, 0))), some (.int act), some (.int a), some (.int b), some (.long sd), none, none] [] (Rel ad g) _
  refine pp_aload_n dX5_keepAct_0 rfl isRf_r (q := 1) rfl ?_
  refine ps_get dX5_keepAct_1 fl_X5_37 (by first | exact hX3.1.1 | exact hX2.1.1 | exact hX1.1.1 | exact hX.1.1) rfl rfl (q := 4) rfl ?_
  refine pp_aload_n dX5_keepAct_4 rfl isRf_r (q := 5) rfl ?_
  refine ps_get dX5_keepAct_5 fl_X5_37 (by first | exact hX3.1.1 | exact hX2.1.1 | exact hX1.1.1 | exact hX.1.1) rfl rfl (q := 8) rfl ?_
  refine ps_get dX5_keepAct_8 fl_X5_63 (by first | exact hX3.1.1 | exact hX2.1.1 | exact hX1.1.1 | exact hX.1.1) rfl rfl (q := 11) rfl ?_
  rw [hX.2.1.1.2.1]
  refine pp_iconst dX5_keepAct_11 ci_1 (q := 12) rfl ?_
  refine pp_iadd dX5_keepAct_12 (q := 13) rfl ?_
  rw [nI_add]
  refine ps_callVq dX5_keepAct_13 lk_X5_136 (by exact (by first | exact hX3.1.1 | exact hX2.1.1 | exact hX1.1.1 | exact hX.1.1)) (by rfl) (by rfl) (by rfl) (c_reserve (by exact hX.1.1) hX.2.1.1 (by omega) (hX.2.2 2 (by omega)).2) (by rfl) (by exact Nat.le_of_ble_eq_true rfl) (by decide) (by decide) (by exact Nat.le_of_ble_eq_true rfl) (q := 16) rfl (fun v13 ad13 g13 h13 => ?_)
  obtain ⟨rfl, hG⟩ := h13
  obtain ⟨hE1, hgx, hnd⟩ := hG.X (by omega) (hX.2.2 2 (by omega)).2 (by have := (hX.2.2 2 (by omega)).1; have : wdN 2 = 5 := rfl; omega)
  have hX1 := hgx.RXE (by omega) hX
  have hroom : (H.length + 1) * wdN 2 ≤ gN g13 (21, w, 2) := by rw [Nat.min_eq_left (by show H.length + 1 ≤ 4000; omega)] at hnd; exact hnd
  rw [← hE1.2.1 (10, w, 0) hX.1.1 (by show 10 ≠ 21; omega)]
  change PP mX5_keepAct 16 _ [] _ _
  refine pp_aload_n dX5_keepAct_16 rfl isRf_r (q := 17) rfl ?_
  refine ps_get dX5_keepAct_17 fl_X5_37 (by first | exact hX3.1.1 | exact hX2.1.1 | exact hX1.1.1 | exact hX.1.1) rfl rfl (q := 20) rfl ?_
  refine ps_callVi dX5_keepAct_20 lk_X5_139 (by exact (by first | exact hX3.1.1 | exact hX2.1.1 | exact hX1.1.1 | exact hX.1.1)) (by rfl) (by rfl) (by rfl) (c_add (by exact hX1.1.1) hX1.2.1.1 hroom) (by rfl) (by exact Nat.le_of_ble_eq_true rfl) (by decide) (by decide) (by exact Nat.le_of_ble_eq_true rfl) (q := 23) rfl (fun r20 g20 h20 => ?_)
  obtain ⟨rfl, rfl⟩ := And.intro h20.1.symm h20.2.symm
  refine pp_istore dX5_keepAct_23 (by decide) (ls1_6 nl0) (q := 25) rfl ?_
  refine pp_aload_n dX5_keepAct_25 rfl isRf_r (q := 26) rfl ?_
  refine ps_get dX5_keepAct_26 fl_X5_37 (by first | exact hX3.1.1 | exact hX2.1.1 | exact hX1.1.1 | exact hX.1.1) rfl rfl (q := 29) rfl ?_
  refine pp_iload dX5_keepAct_29 rfl (q := 31) rfl ?_
  refine pp_iconst dX5_keepAct_31 ci_0 (q := 32) rfl ?_
  refine pp_iload_n dX5_keepAct_32 rfl (q := 33) rfl ?_
  refine ps_callVv dX5_keepAct_33 lk_X5_142 (by exact (by first | exact hX3.1.1 | exact hX2.1.1 | exact hX1.1.1 | exact hX.1.1)) (by rfl) (by rfl) (by rfl) (c_set (w := w) (r := 2) (i := H.length) (n := H.length + 1) (j := 0) (by exact hX1.1.1) (by exact rOk_radd hX1.2.1.1 hroom) (by omega) (by decide)) (by rfl) (by exact Nat.le_of_ble_eq_true rfl) (by decide) (by decide) (by exact Nat.le_of_ble_eq_true rfl) (q := 36) rfl (fun g33 h33 => ?_)
  subst h33
  refine pp_aload_n dX5_keepAct_36 rfl isRf_r (q := 37) rfl ?_
  refine ps_get dX5_keepAct_37 fl_X5_37 (by first | exact hX3.1.1 | exact hX2.1.1 | exact hX1.1.1 | exact hX.1.1) rfl rfl (q := 40) rfl ?_
  refine pp_iload dX5_keepAct_40 rfl (q := 42) rfl ?_
  refine pp_iconst dX5_keepAct_42 ci_1 (q := 43) rfl ?_
  refine pp_iload_n dX5_keepAct_43 rfl (q := 44) rfl ?_
  refine ps_callVv dX5_keepAct_44 lk_X5_142 (by exact (by first | exact hX3.1.1 | exact hX2.1.1 | exact hX1.1.1 | exact hX.1.1)) (by rfl) (by rfl) (by rfl) (c_set (w := w) (r := 2) (i := H.length) (n := H.length + 1) (j := 1) (by exact hX1.1.1) (by exact rOk_radd hX1.2.1.1 hroom) (by omega) (by decide)) (by rfl) (by exact Nat.le_of_ble_eq_true rfl) (by decide) (by decide) (by exact Nat.le_of_ble_eq_true rfl) (q := 47) rfl (fun g44 h44 => ?_)
  subst h44
  refine pp_aload_n dX5_keepAct_47 rfl isRf_r (q := 48) rfl ?_
  refine ps_get dX5_keepAct_48 fl_X5_37 (by first | exact hX3.1.1 | exact hX2.1.1 | exact hX1.1.1 | exact hX.1.1) rfl rfl (q := 51) rfl ?_
  refine pp_iload dX5_keepAct_51 rfl (q := 53) rfl ?_
  refine pp_iconst dX5_keepAct_53 ci_2 (q := 54) rfl ?_
  refine pp_iload_n dX5_keepAct_54 rfl (q := 55) rfl ?_
  refine ps_callVv dX5_keepAct_55 lk_X5_142 (by exact (by first | exact hX3.1.1 | exact hX2.1.1 | exact hX1.1.1 | exact hX.1.1)) (by rfl) (by rfl) (by rfl) (c_set (w := w) (r := 2) (i := H.length) (n := H.length + 1) (j := 2) (by exact hX1.1.1) (by exact rOk_radd hX1.2.1.1 hroom) (by omega) (by decide)) (by rfl) (by exact Nat.le_of_ble_eq_true rfl) (by decide) (by decide) (by exact Nat.le_of_ble_eq_true rfl) (q := 58) rfl (fun g55 h55 => ?_)
  subst h55
  refine pp_aload_n dX5_keepAct_58 rfl isRf_r (q := 59) rfl ?_
  refine ps_get dX5_keepAct_59 fl_X5_37 (by first | exact hX3.1.1 | exact hX2.1.1 | exact hX1.1.1 | exact hX.1.1) rfl rfl (q := 62) rfl ?_
  refine pp_iload dX5_keepAct_62 rfl (q := 64) rfl ?_
  refine pp_iconst dX5_keepAct_64 ci_3 (q := 65) rfl ?_
  refine pp_lload dX5_keepAct_65 rfl (q := 67) rfl ?_
  refine pp_bipush dX5_keepAct_67 cb_32 (q := 69) rfl ?_
  refine pp_lushr dX5_keepAct_69 (q := 70) rfl ?_
  refine pp_l2i dX5_keepAct_70 (q := 71) rfl ?_
  refine ps_callVv dX5_keepAct_71 lk_X5_142 (by exact (by first | exact hX3.1.1 | exact hX2.1.1 | exact hX1.1.1 | exact hX.1.1)) (by rfl) (by rfl) (by rfl) (c_set (w := w) (r := 2) (i := H.length) (n := H.length + 1) (j := 3) (by exact hX1.1.1) (by exact rOk_radd hX1.2.1.1 hroom) (by omega) (by decide)) (by rfl) (by exact Nat.le_of_ble_eq_true rfl) (by decide) (by decide) (by exact Nat.le_of_ble_eq_true rfl) (q := 74) rfl (fun g71 h71 => ?_)
  subst h71
  refine pp_aload_n dX5_keepAct_74 rfl isRf_r (q := 75) rfl ?_
  refine ps_get dX5_keepAct_75 fl_X5_37 (by first | exact hX3.1.1 | exact hX2.1.1 | exact hX1.1.1 | exact hX.1.1) rfl rfl (q := 78) rfl ?_
  refine pp_iload dX5_keepAct_78 rfl (q := 80) rfl ?_
  refine pp_iconst dX5_keepAct_80 ci_4 (q := 81) rfl ?_
  refine pp_lload dX5_keepAct_81 rfl (q := 83) rfl ?_
  refine pp_l2i dX5_keepAct_83 (q := 84) rfl ?_
  refine ps_callVv dX5_keepAct_84 lk_X5_142 (by exact (by first | exact hX3.1.1 | exact hX2.1.1 | exact hX1.1.1 | exact hX.1.1)) (by rfl) (by rfl) (by rfl) (c_set (w := w) (r := 2) (i := H.length) (n := H.length + 1) (j := 4) (by exact hX1.1.1) (by exact rOk_radd hX1.2.1.1 hroom) (by omega) (by decide)) (by rfl) (by exact Nat.le_of_ble_eq_true rfl) (by decide) (by decide) (by exact Nat.le_of_ble_eq_true rfl) (q := 87) rfl (fun g84 h84 => ?_)
  subst h84
  refine pp_vret dX5_keepAct_87 rfl (fun G hG => ⟨_, _, hG, ?_⟩)
  obtain ⟨k1, k2⟩ := kaX (act := act) (a := a) (b := b) (sd := sd) hX1 hroom
  exact ⟨rfl, hE1.tr (k2.W (fun n q => by rcases q with rfl | rfl; exact ⟨rfl, by show 10 ≤ 20; omega, by show 20 ≤ 36; omega⟩; exact ⟨rfl, by show 10 ≤ 21; omega, by show 21 ≤ 36; omega⟩)), k1⟩
set_option maxRecDepth 20000 in
set_option maxHeartbeats 4000000 in
theorem c_reserveF {ad : Nm → Nat} {g : Sg} {w : Nat} {A : AW} {H : List Act} (hX : RX g w A H) (hl : bL (aB A) ≤ 1196) (hp : bP (aB A) ≤ 19800) : PP mX0_reserveForAct 0 (ent mX0_reserveForAct [.ref (ad (13, w, 0))]) [] (Rel ad g) (PQ (fun v ad' g' => v = none ∧ EqW w ad g ad' g' ∧ RX g' w A H ∧ (bL (aB A) + 4) * 8 ≤ gN g' (21, w, 0) ∧ (bP (aB A) + 200) * 4 ≤ gN g' (21, w, 1))) := by
  show PP mX0_reserveForAct 0 [some (.ref (ad (13, w, 0)))] [] (Rel ad g) _
  refine pp_aload_n dX0_reserveForAct_0 rfl isRf_r (q := 1) rfl ?_
  refine ps_get dX0_reserveForAct_1 fl_X0_14 (by first | exact hX1.1.1 | exact hX.1.1) rfl rfl (q := 4) rfl ?_
  refine pp_aload_n dX0_reserveForAct_4 rfl isRf_r (q := 5) rfl ?_
  refine ps_get dX0_reserveForAct_5 fl_X0_14 (by first | exact hX1.1.1 | exact hX.1.1) rfl rfl (q := 8) rfl ?_
  refine ps_get dX0_reserveForAct_8 fl_X0_30 (by first | exact hX1.1.1 | exact hX.1.1) rfl rfl (q := 11) rfl ?_
  rw [hX.1.2.1.1.2.1]
  refine pp_iconst dX0_reserveForAct_11 ci_4 (q := 12) rfl ?_
  refine pp_iadd dX0_reserveForAct_12 (q := 13) rfl ?_
  rw [nI_add]
  refine ps_callVq dX0_reserveForAct_13 lk_X0_33 (by exact (by first | exact hX1.1.1 | exact hX.1.1)) (by rfl) (by rfl) (by rfl) (c_reserve (by exact hX.1.1) hX.1.2.1.1 (by omega) (hX.2.2 0 (by omega)).2) (by rfl) (by exact Nat.le_of_ble_eq_true rfl) (by decide) (by decide) (by exact Nat.le_of_ble_eq_true rfl) (q := 16) rfl (fun v13 ad13 g13 h13 => ?_)
  obtain ⟨rfl, hG⟩ := h13
  obtain ⟨hE1, hgx, hnd⟩ := hG.X (by omega) (hX.2.2 0 (by omega)).2 (by have := (hX.2.2 0 (by omega)).1; have : wdN 0 = 8 := rfl; omega)
  have hX1 := hgx.RXE (by omega) hX
  rw [← hE1.2.1 (13, w, 0) hX.1.1 (by show 13 ≠ 21; omega)]
  change PP mX0_reserveForAct 16 _ [] _ _
  refine pp_aload_n dX0_reserveForAct_16 rfl isRf_r (q := 17) rfl ?_
  refine ps_get dX0_reserveForAct_17 fl_X0_20 (by first | exact hX1.1.1 | exact hX.1.1) rfl rfl (q := 20) rfl ?_
  refine pp_aload_n dX0_reserveForAct_20 rfl isRf_r (q := 21) rfl ?_
  refine ps_get dX0_reserveForAct_21 fl_X0_20 (by first | exact hX1.1.1 | exact hX.1.1) rfl rfl (q := 24) rfl ?_
  refine ps_get dX0_reserveForAct_24 fl_X0_30 (by first | exact hX1.1.1 | exact hX.1.1) rfl rfl (q := 27) rfl ?_
  rw [hX1.1.2.1.2.1.2.1]
  refine pp_sipush dX0_reserveForAct_27 cs_200 (q := 30) rfl ?_
  refine pp_iadd dX0_reserveForAct_30 (q := 31) rfl ?_
  rw [nI_add]
  refine ps_callVq dX0_reserveForAct_31 lk_X0_33 (by exact (by first | exact hX1.1.1 | exact hX.1.1)) (by rfl) (by rfl) (by rfl) (c_reserve (by exact hX1.1.1) hX1.1.2.1.2.1 (by omega) (hX1.2.2 1 (by omega)).2) (by rfl) (by exact Nat.le_of_ble_eq_true rfl) (by decide) (by decide) (by exact Nat.le_of_ble_eq_true rfl) (q := 34) rfl (fun v31 ad31 g31 h31 => ?_)
  obtain ⟨rfl, hG'⟩ := h31
  obtain ⟨hE2, hgx2, hnd2⟩ := hG'.X (by omega) (hX1.2.2 1 (by omega)).2 (by have := (hX1.2.2 1 (by omega)).1; have : wdN 1 = 4 := rfl; omega)
  have hX2 := hgx2.RXE (by omega) hX1
  change PP mX0_reserveForAct 34 _ [] _ _
  refine pp_vret dX0_reserveForAct_34 rfl (fun G hG => ⟨_, _, hG, ?_⟩)
  refine ⟨rfl, hE1.tr hE2, hX2, ?_, ?_⟩
  · rw [(hgx2.2.2.2.2.1 (21, w, 0) (fun e => by cases e)).2]
    rw [Nat.min_eq_left (by show _ ≤ 1200; omega)] at hnd
    exact hnd
  · rw [Nat.min_eq_left (by show _ ≤ 20000; omega)] at hnd2
    exact hnd2
theorem bdM_up {F : Nm → Bool} {w m : Nat} (hf : ¬ F (30, w, m) = true) : ∀ K, (m < K → bdM (up3 F (30, w, m) true) w K + 400 = bdM F w K) ∧ (K ≤ m → bdM (up3 F (30, w, m) true) w K = bdM F w K)
  | 0 => ⟨fun h => by omega, fun _ => rfl⟩
  | K + 1 => by
    obtain ⟨h1, h2⟩ := bdM_up hf K
    refine ⟨fun h => ?_, fun h => ?_⟩
    · unfold bdM
      by_cases e : K = m
      · subst e
        rw [up3_eq, if_pos rfl, if_neg hf, h2 (Nat.le_refl _)]
      · rw [up3_ne (fun q => e (by cases q; rfl))]
        have := h1 (by omega)
        omega
    · unfold bdM
      rw [up3_ne (fun q => by cases q; omega), h2 (by omega)]
theorem mkM_W {ad : Nm → Nat} {g : Sg} {w m : Nat} (hm : m < 64) (hf : ¬ gF g (30, w, m) = true) : EqW w ad g (adM ad w m (gZ g)) (mkM g w m) := by
  refine ⟨fun n hn => al_mkM.mpr (Or.inl hn), fun n hn _ => cIf_f (mn_no hf hn), fun n hn => ?_, ?_, ?_, ?_⟩
  · have hno : ¬ isMn w m n := fun q => hn ⟨q.1, by have := q.2.2.1; omega, q.2.2.2⟩
    have hne : n ≠ (30, w, m) := fun e => hno (by rw [e]; exact ⟨rfl, rfl, by show 30 ≤ 30; omega, by show 30 ≤ 36; omega⟩)
    exact ⟨cIf_f hno, cIf_f hno, cIf_f hno, rfl, rfl, up3_ne hne⟩
  · show up3 (gF g) (30, w, m) true (10, w, 0) = gF g (10, w, 0)
    exact up3_ne (fun e => absurd (show (10 : Nat) = 30 from congrArg Prod.fst e) (by decide))
  · have h := (bdM_up hf 64).1 hm
    show gU g + 400 + (bdR (gN g) w 0 + bdR (gN g) w 1 + bdR (gN g) w 2 + bdM (up3 (gF g) (30, w, m) true) w 64) ≤ gU g + (bdR (gN g) w 0 + bdR (gN g) w 1 + bdR (gN g) w 2 + bdM (gF g) w 64)
    omega
  · show 16 * (gZ g + 7) + gU g ≤ 16 * gZ g + (gU g + 400)
    omega
theorem mkM_RX {g : Sg} {w m : Nat} {A : AW} {H : List Act} (hf : ¬ gF g (30, w, m) = true) (hX : RX g w A H) : RX (mkM g w m) w A H := by
  obtain ⟨⟨h1, h2, h3, h4, h5, h6, h7⟩, hR, hC⟩ := hX
  have eI : ∀ n, ¬ isMn w m n → gI (mkM g w m) n = gI g n := fun n h => cIf_f h
  have eJ : ∀ n, ¬ isMn w m n → gJ (mkM g w m) n = gJ g n := fun n h => cIf_f h
  have eA : ∀ n, ¬ isMn w m n → gA (mkM g w m) n = gA g n := fun n h => cIf_f h
  have q : ∀ k a b, k < 30 → ¬ isMn w m (k, a, b) := fun k a b hk z => by have := z.2.2.1; simp at this; omega
  have r : ∀ r n, rOk g w r n → rOk (mkM g w m) w r n := fun r n hr => ⟨hr.1, by rw [eI _ (q _ _ _ (by omega))]; exact hr.2.1, hr.2.2.1, hr.2.2.2⟩
  have hb : RB (mkM g w m) w (aB A) := by
    obtain ⟨b1, b2, b3, b4, b5, b6⟩ := h2
    exact ⟨r _ _ b1, r _ _ b2, by rw [eI _ (q _ _ _ (by omega))]; exact b3, by rw [eI _ (q _ _ _ (by omega))]; exact b4, fun l c hl hc => by unfold rv; rw [eA _ (q _ _ _ (by omega))]; exact b5 l c hl hc, fun p c hp hc => by unfold rv; rw [eA _ (q _ _ _ (by omega))]; exact b6 p c hp hc⟩
  refine ⟨⟨al_mkM.mpr (Or.inl h1), hb, by rw [eI _ (q _ _ _ (by omega))]; exact h3, h4, by rw [eA _ (q _ _ _ (by omega))]; exact h5, fun m' hm' hd => ?_, fun m' hm' hd ha => ?_⟩, ⟨r _ _ hR.1, fun i x c hx hc => by unfold rv; rw [eA _ (q _ _ _ (by omega))]; exact hR.2 i x c hx hc⟩, hC⟩
  · have hM := h6 m' hm' hd
    have hne : m' ≠ m := fun e => hf (by subst e; exact hM.1.1)
    have z : ∀ k, ¬ isMn w m (k, w, m') := fun k z => hne z.2.1
    obtain ⟨b1, b2, b3, b4, ⟨n, c1, c2, c3⟩, b6⟩ := hM
    exact ⟨al_mkM.mpr (Or.inl b1), by rw [eI _ (z 30)]; exact b2, by rw [eJ _ (z 30)]; exact b3, fun k x y => by rw [eA _ (z k)]; exact b4 k x y, ⟨n, c1, c2, by rw [eA _ (z 36)]; exact c3⟩, b6⟩
  · by_cases e : m' = m
    · subst e
      have z : ∀ k, 30 ≤ k → k ≤ 36 → isMn w m' (k, w, m') := fun k a b => ⟨rfl, rfl, a, b⟩
      refine ⟨?_, fun k j a b hj => ?_⟩
      · have e1 : gI (mkM g w m') (30, w, m') = fun _ => 0 := cIf_t (z 30 (by omega) (by omega))
        rw [e1]; rfl
      · have e1 : gA (mkM g w m') (k, w, m') = fun _ => 0 := cIf_t (z k (by omega) (by omega))
        rw [e1]
    · have z : ∀ k, ¬ isMn w m (k, w, m') := fun k z => e z.2.1
      have ha' : al g (30, w, m') := (al_mkM.mp ha).elim (fun x => x) (fun x => absurd x (z 30))
      obtain ⟨c1, c2⟩ := h7 m' hm' hd ha'
      exact ⟨by rw [eI _ (z 30)]; exact c1, fun k j a b hj => by rw [eA _ (z k)]; exact c2 k j a b hj⟩
theorem c_seatQ {ad : Nm → Nat} {g : Sg} {w m : Nat} {A : AW} {H : List Act} (hX : RX g w A H) (hmb : m < 64) : PP mX5_seat 0 (ent mX5_seat [.ref (ad (10, w, 0)), .int (nI m)]) [] (Rel ad g) (PQ (fun v ad' g' => v = some (.ref (ad' (30, w, m))) ∧ EqW w ad g ad' g' ∧ RX g' w A H ∧ al g' (30, w, m))) := by
  by_cases hf : gF g (30, w, m) = true
  · have hm : al g (30, w, m) := ⟨hf, fun e => by cases e⟩
    refine (c_seat hX.1.1 hmb hm).weak (fun v G hG => ?_)
    obtain ⟨g', h1, o, rfl, rfl, rfl⟩ := hG
    exact ⟨ad, _, h1, rfl, EqW.rf, hX, hm⟩
  · refine (c_seat_new hX.1.1 hmb hf).weak (fun v G hG => ?_)
    obtain ⟨rfl, h1⟩ := hG
    refine ⟨_, _, h1, ?_, mkM_W hmb hf, mkM_RX hf hX, al_mkM.mpr (Or.inr ⟨rfl, rfl, by show 30 ≤ 30; omega, by show 30 ≤ 36; omega⟩)⟩
    rw [adM_in (by omega) (by omega)]
    rfl
theorem RM_cg {g : Sg} {w m : Nat} {M M' : Me} (h : RM g w m M) (h1 : ∀ k, isSl k → M'.1 k = M.1 k) (h2 : M'.2.1 = M.2.1) (h3 : ∀ k, 31 ≤ k → k ≤ 35 → M'.2.2 k = M.2.2 k) (h4 : ∀ n j, M.1 14 = nI n → n ≤ 64 → j < n → M'.2.2 36 j = M.2.2 36 j) : RM g w m M' := by
  obtain ⟨b1, b2, b3, b4, ⟨n, c1, c2, c3⟩, b6⟩ := h
  refine ⟨b1, fun k hk => (b2 k hk).trans (h1 k hk).symm, b3.trans h2.symm, fun k x y => (b4 k x y).trans (h3 k x y).symm, ⟨n, (h1 14 sl14).trans c1, c2, fun j hj => (c3 j hj).trans (h4 n j c1 c2 hj).symm⟩, fun k j x y hj => by rw [h3 k x y]; exact b6 k j x y hj⟩
def aMk (A : AW) (m : Nat) (sd : Int64) : AW := ((aSet A m (meBgn m sd (A.1 m))).1, A.2.1 + 1, A.2.2)
theorem RM_bgn {g : Sg} {w m : Nat} {sd : Int64} {M : Me} (hm : m < 64) (h1 : al g (30, w, m)) (hz : ∀ k j, 31 ≤ k → k ≤ 35 → 64 ≤ j → gA g (k, w, m) j = 0) : RM (bgG g w m sd) w m (meBgn m sd M) := by
  obtain ⟨g1, hg1⟩ : ∃ g1, g1 = sI (sI (sJ (sI (sI g (30, w, m) 1 (nI 1)) (30, w, m) 2 (nI 0)) (30, w, m) sd) (30, w, m) 4 (nI 1)) (30, w, m) 5 (nI 0) := ⟨_, rfl⟩
  have hz1 : ∀ k j, 31 ≤ k → k ≤ 35 → 64 ≤ j → gA g1 (k, w, m) j = 0 := by rw [hg1]; exact hz
  have ha1 : al g1 (30, w, m) := by rw [hg1]; exact h1
  have hR := faG_RM (M := (gI g1 (30, w, m), gJ g1 (30, w, m), M.2.2)) hm ha1 (fun _ _ => rfl) rfl hz1
  have e4 : gI g1 (30, w, m) 4 = nI 1 := by rw [hg1]; simp [gI_sI, gI_sJ]
  have e5 : gI g1 (30, w, m) 5 = nI 0 := by rw [hg1]; simp [gI_sI, gI_sJ]
  have e1 : gI g1 (30, w, m) 1 = nI 1 := by rw [hg1]; simp [gI_sI, gI_sJ]
  have e2 : gI g1 (30, w, m) 2 = nI 0 := by rw [hg1]; simp [gI_sI, gI_sJ]
  have eJ : gJ g1 (30, w, m) = sd := by rw [hg1]; exact up3_eq
  unfold bgG
  rw [← hg1]
  refine RM_cg hR (fun k hk => ?_) ?_ (fun k x y => ?_) (fun n j hn hn2 hj => ?_)
  · unfold isSl at hk
    rcases hk with rfl | rfl | rfl | rfl | rfl | rfl | rfl | rfl
    · exact e1.symm
    · exact e2.symm
    · exact e4.symm
    · exact e5.symm
    all_goals rfl
  · exact eJ.symm
  · obtain rfl | rfl | rfl | rfl | rfl : k = 31 ∨ k = 32 ∨ k = 33 ∨ k = 34 ∨ k = 35 := by omega
    · rfl
    · show upd _ m (nI 1) = upd _ m (gI g1 (30, w, m) 4); rw [e4]; rfl
    · rfl
    · show upd _ m (nI 0) = upd _ m (gI g1 (30, w, m) 5); rw [e5]; rfl
    · rfl
  · have : nI 0 = nI n := hn
    have := eqT this (by omega) (by omega)
    omega
theorem bgG_eqx {g : Sg} {w m : Nat} {sd : Int64} : EqX (memS w m) g (bgG g w m sd) := by
  have h30 : memS w m (30, w, m) := ⟨rfl, rfl, by show 30 ≤ 30; omega, by show 30 ≤ 36; omega⟩
  exact (((((EqX.rf.sI h30).sI h30).sJ h30).sI h30).sI h30).tr faG_eqx
theorem RW_mk {g : Sg} {w : Nat} {A : AW} {k : Nat} (h : RW g w A) : RW (sI g (10, w, 0) 1 (nI k)) w (A.1, k, A.2.2) := by
  obtain ⟨h1, h2, h3, h4, h5, h6, h7⟩ := h
  have he : EqX (fun n => n = (10, w, 0)) g (sI g (10, w, 0) 1 (nI k)) := EqX.rf.sI rfl
  have q : ∀ a b c, a ≠ 10 → ¬ ((a, b, c) : Nm) = (10, w, 0) := fun a b c ha e => ha (by cases e; rfl)
  have r : ∀ r n, rOk g w r n → rOk (sI g (10, w, 0) 1 (nI k)) w r n := fun r n hr => ⟨hr.1, by rw [(he.1 (20, w, r) (q _ _ _ (by omega))).1]; exact hr.2.1, hr.2.2.1, hr.2.2.2⟩
  have hb : RB (sI g (10, w, 0) 1 (nI k)) w (aB A) := by
    obtain ⟨b1, b2, b3, b4, b5, b6⟩ := h2
    exact ⟨r _ _ b1, r _ _ b2, by rw [(he.1 (13, w, 0) (q _ _ _ (by omega))).1]; exact b3, by rw [(he.1 (13, w, 0) (q _ _ _ (by omega))).1]; exact b4, b5, b6⟩
  refine ⟨h1, hb, by rw [gI_sI, if_pos ⟨rfl, rfl⟩], h4, h5, fun m hm hd => (h6 m hm hd).eqx he (fun k a b => q k w m (by omega)), fun m hm hd ha => ?_⟩
  obtain ⟨c1, c2⟩ := h7 m hm hd ha
  exact ⟨by rw [(he.1 (30, w, m) (q _ _ _ (by omega))).1]; exact c1, c2⟩
set_option maxRecDepth 20000 in
set_option maxHeartbeats 4000000 in
theorem c_makeM {ad : Nm → Nat} {g : Sg} {w m : Nat} {A : AW} {H : List Act} {sd : Int64} (hX : RX g w A H) (hmb : m < 64) (hd : ¬ mdA A m) : PP mX5_makeMember 0 (ent mX5_makeMember [.ref (ad (10, w, 0)), .int (nI m), .long sd]) [] (Rel ad g) (PQ (fun v ad' g' => v = some (.int (nI (A.2.1 + 1))) ∧ EqW w ad g ad' g' ∧ RX g' w (aMk A m sd) H)) := by
  show PP mX5_makeMember 0 [some (.ref (ad (10, w, 0))), some (.int (nI m)), some (.long sd), none] [] (Rel ad g) _
  refine pp_iload_n dX5_makeMember_0 rfl (q := 1) rfl ?_
  refine ps_callNi dX5_makeMember_1 lk_X5_69 (by rfl) (c_isMem hmb) (by rfl) (by exact Nat.le_of_ble_eq_true rfl) (by decide) (by decide) (by exact Nat.le_of_ble_eq_true rfl) (q := 4) rfl (fun r1 g1 h1 => ?_)
  obtain ⟨rfl, rfl⟩ := And.intro h1.1.symm h1.2.symm
  refine pp_if_ne (tgt := 10) dX5_makeMember_4 (by decide) (q := 7) rfl (fun c4 => ?_) (fun c4 => absurd c4 nI1_ne)
  refine pp_aload_n dX5_makeMember_10 rfl isRf_r (q := 11) rfl ?_
  refine pp_iload_n dX5_makeMember_11 rfl (q := 12) rfl ?_
  refine ps_callVq dX5_makeMember_12 lk_X5_174 (by exact (by first | exact hX2.1.1 | exact hX1.1.1 | exact hX.1.1)) (by rfl) (by rfl) (by rfl) (c_seatQ hX hmb) (by rfl) (by exact Nat.le_of_ble_eq_true rfl) (by decide) (by decide) (by exact Nat.le_of_ble_eq_true rfl) (q := 15) rfl (fun v12 ad12 g12 h12 => ?_)
  obtain ⟨rfl, hE1, hX1, ha1⟩ := h12
  rw [← hE1.2.1 (10, w, 0) hX.1.1 (by show 10 ≠ 21; omega)]
  change PP mX5_makeMember 15 _ [Value.ref (ad12 (30, w, m))] _ _
  refine pp_lload_n dX5_makeMember_15 rfl (q := 16) rfl ?_
  refine ps_callVv dX5_makeMember_16 lk_X5_177 (by exact ha1) (by rfl) (by rfl) (by rfl) (c_begin ha1 hmb) (by rfl) (by exact Nat.le_of_ble_eq_true rfl) (by decide) (by decide) (by exact Nat.le_of_ble_eq_true rfl) (q := 19) rfl (fun g16 h16 => ?_)
  subst h16
  have hz := (hX1.1.2.2.2.2.2.2 m hmb hd ha1).2
  have hX2 : RX (bgG g12 w m sd) w (aSet A m (meBgn m sd (A.1 m))) H := hX1.of (RW_mem hX1.1 bgG_eqx (RM_bgn hmb ha1 hz) rfl) (bgG_eqx.mono m_w)
  refine pp_aload_n dX5_makeMember_19 rfl isRf_r (q := 20) rfl ?_
  refine pp_dup dX5_makeMember_20 rfl (q := 21) rfl ?_
  refine ps_get dX5_makeMember_21 fl_X5_17 (by first | exact hX2.1.1 | exact hX1.1.1 | exact hX.1.1) rfl rfl (q := 24) rfl ?_
  rw [show gI (bgG g12 w m sd) (10, w, 0) 1 = nI A.2.1 from hX2.1.2.2.1]
  refine pp_iconst dX5_makeMember_24 ci_1 (q := 25) rfl ?_
  refine pp_iadd dX5_makeMember_25 (q := 26) rfl ?_
  rw [nI_add]
  refine ps_puti dX5_makeMember_26 fl_X5_17 (by first | exact hX2.1.1 | exact hX1.1.1 | exact hX.1.1) rfl (by exact Nat.le_of_ble_eq_true rfl) rfl rfl rfl (q := 29) rfl ?_
  have hA3 := RW_mk (k := A.2.1 + 1) hX2.1
  have hE3 : EqX (wS w) (bgG g12 w m sd) (sI (bgG g12 w m sd) (10, w, 0) 1 (nI (A.2.1 + 1))) := EqX.rf.sI (wS_of (by decide) (by decide))
  have hX3 := hX2.of hA3 hE3
  refine pp_aload_n dX5_makeMember_29 rfl isRf_r (q := 30) rfl ?_
  refine ps_get dX5_makeMember_30 fl_X5_17 hX3.1.1 rfl rfl (q := 33) rfl ?_
  refine pp_iret dX5_makeMember_33 rfl rfl (fun G hG => ⟨_, _, hG, ?_⟩)
  refine ⟨?_, (hE1.tr (bgG_eqx.mono m_w).w).tr hE3.w, hX3⟩
  rw [gI_sI, if_pos ⟨rfl, rfl⟩]
