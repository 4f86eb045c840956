theorem RB.bd {g : Sg} {w : Nat} {B : Bk} (h : RB g w B) : bL B ≤ 25000 ∧ bP B ≤ 25000 := ⟨h.1.bd, h.2.1.bd⟩
/-- the letter l has k pieces, from s on -/
def pOk (B : Bk) (l k s : Nat) : Prop := l < bL B ∧ bl B l 4 = nI k ∧ bl B l 7 = nI s ∧ s + k ≤ bP B ∧ k ≤ 64
set_option maxRecDepth 20000 in
set_option maxHeartbeats 4000000 in
theorem c_hasLetter {ad : Nm → Nat} {g : Sg} {w : Nat} {x : Int32} {B : Bk} (hw : al g (10, w, 0)) (hB : RB g w B)  : PS mX0_hasLetter 0 (ent mX0_hasLetter [.ref (ad (13, w, 0)), .int x]) [] ad g (Ri (fun v g' => isB v (∃ l, l < bL B ∧ x = nI l) ∧ g' = g)) := by
  have hbd := hB.bd
  show PP mX0_hasLetter 0 [some (.ref (ad (13, w, 0))), some (.int x)] [] (Rel ad g) _
  refine pp_iload_n dX0_hasLetter_0 rfl (q := 1) rfl ?_
  refine pp_if_lt (tgt := 19) dX0_hasLetter_1 (by decide) (q := 4) rfl (fun c1 => ?_) (fun c1 => ?_)
  · skip
    refine pp_iconst dX0_hasLetter_19 ci_0 (q := 20) rfl ?_
    refine ri_ret dX0_hasLetter_20 rfl (by decide) ?_
    refine ⟨?_, rfl⟩
    first
      | exact isB_1 ⟨j, by rw [hjx] at c12; exact leF c12 (by omega) hj, hjx⟩
      | exact isB_0 (fun ⟨l, hl, hx⟩ => by rw [hx] at c12; exact absurd (leT c12 (by omega) (by omega)) (by omega))
      | exact isB_0 (fun ⟨l, hl, hx⟩ => by rw [hx] at c1; exact nI_pos (by omega) c1)
  · obtain ⟨j, hj, hjx⟩ := nI_of c1
    refine pp_iload_n dX0_hasLetter_4 rfl (q := 5) rfl ?_
    refine pp_aload_n dX0_hasLetter_5 rfl isRf_r (q := 6) rfl ?_
    refine ps_get dX0_hasLetter_6 fl_X0_14 hw rfl rfl (q := 9) rfl ?_
    refine ps_get dX0_hasLetter_9 fl_X0_30 hw rfl rfl (q := 12) rfl ?_
    rw [hB.1.2.1]
    refine pp_icmp_ge (tgt := 19) dX0_hasLetter_12 (by decide) (q := 15) rfl (fun c12 => ?_) (fun c12 => ?_)
    · refine pp_iconst dX0_hasLetter_19 ci_0 (q := 20) rfl ?_
      refine ri_ret dX0_hasLetter_20 rfl (by decide) ?_
      refine ⟨?_, rfl⟩
      first
        | exact isB_1 ⟨j, by rw [hjx] at c12; exact leF c12 (by omega) hj, hjx⟩
        | exact isB_0 (fun ⟨l, hl, hx⟩ => by rw [hx] at c12; exact absurd (leT c12 (by omega) (by omega)) (by omega))
        | exact isB_0 (fun ⟨l, hl, hx⟩ => by rw [hx] at c1; exact nI_pos (by omega) c1)
    · refine pp_iconst dX0_hasLetter_15 ci_1 (q := 16) rfl ?_
      refine pp_goto (tgt := 20) dX0_hasLetter_16 (by decide) ?_
      refine ri_ret dX0_hasLetter_20 rfl (by decide) ?_
      refine ⟨?_, rfl⟩
      first
        | exact isB_1 ⟨j, by rw [hjx] at c12; exact leF c12 (by omega) hj, hjx⟩
        | exact isB_0 (fun ⟨l, hl, hx⟩ => by rw [hx] at c12; exact absurd (leT c12 (by omega) (by omega)) (by omega))
        | exact isB_0 (fun ⟨l, hl, hx⟩ => by rw [hx] at c1; exact nI_pos (by omega) c1)
set_option maxRecDepth 20000 in
set_option maxHeartbeats 4000000 in
theorem c_sent {ad : Nm → Nat} {g : Sg} {w : Nat}  {B : Bk} (hw : al g (10, w, 0)) (hB : RB g w B)  : PS mX0_sent 0 (ent mX0_sent [.ref (ad (13, w, 0))]) [] ad g (Ri (fun v g' => v = nI (bL B) ∧ g' = g)) := by
  show PP mX0_sent 0 [some (.ref (ad (13, w, 0)))] [] (Rel ad g) _
  refine pp_aload_n dX0_sent_0 rfl isRf_r (q := 1) rfl ?_
  refine ps_get dX0_sent_1 fl_X0_14 hw rfl rfl (q := 4) rfl ?_
  refine ps_get dX0_sent_4 fl_X0_30 hw rfl rfl (q := 7) rfl ?_
  refine ri_ret dX0_sent_7 rfl rfl ?_
  exact ⟨hB.1.2.1, rfl⟩
set_option maxRecDepth 20000 in
set_option maxHeartbeats 4000000 in
theorem c_still {ad : Nm → Nat} {g : Sg} {w : Nat}  {B : Bk} (hw : al g (10, w, 0)) (hB : RB g w B)  : PS mX0_stillUnderWay 0 (ent mX0_stillUnderWay [.ref (ad (13, w, 0))]) [] ad g (Ri (fun v g' => v = nI (bL B) - nI (bD B) - nI (bX B) ∧ g' = g)) := by
  show PP mX0_stillUnderWay 0 [some (.ref (ad (13, w, 0)))] [] (Rel ad g) _
  refine pp_aload_n dX0_stillUnderWay_0 rfl isRf_r (q := 1) rfl ?_
  refine ps_get dX0_stillUnderWay_1 fl_X0_14 hw rfl rfl (q := 4) rfl ?_
  refine ps_get dX0_stillUnderWay_4 fl_X0_30 hw rfl rfl (q := 7) rfl ?_
  refine pp_aload_n dX0_stillUnderWay_7 rfl isRf_r (q := 8) rfl ?_
  refine ps_get dX0_stillUnderWay_8 fl_X0_23 hw rfl rfl (q := 11) rfl ?_
  refine pp_isub dX0_stillUnderWay_11 (q := 12) rfl ?_
  refine pp_aload_n dX0_stillUnderWay_12 rfl isRf_r (q := 13) rfl ?_
  refine ps_get dX0_stillUnderWay_13 fl_X0_27 hw rfl rfl (q := 16) rfl ?_
  refine pp_isub dX0_stillUnderWay_16 (q := 17) rfl ?_
  refine ri_ret dX0_stillUnderWay_17 rfl rfl ?_
  exact ⟨by rw [hB.1.2.1, hB.2.2.1, hB.2.2.2.1], rfl⟩
set_option maxRecDepth 20000 in
set_option maxHeartbeats 4000000 in
theorem c_hasRoom {ad : Nm → Nat} {g : Sg} {w : Nat}  {B : Bk} (hw : al g (10, w, 0)) (hB : RB g w B)  : PS mX0_hasRoom 0 (ent mX0_hasRoom [.ref (ad (13, w, 0))]) [] ad g (Ri (fun v g' => isB v (bL B ≤ 1196 ∧ bP B ≤ 19800) ∧ g' = g)) := by
  have hbd := hB.bd
  show PP mX0_hasRoom 0 [some (.ref (ad (13, w, 0)))] [] (Rel ad g) _
  refine pp_sipush dX0_hasRoom_0 cs_1200 (q := 3) rfl ?_
  refine pp_aload_n dX0_hasRoom_3 rfl isRf_r (q := 4) rfl ?_
  refine ps_get dX0_hasRoom_4 fl_X0_14 hw rfl rfl (q := 7) rfl ?_
  refine ps_get dX0_hasRoom_7 fl_X0_30 hw rfl rfl (q := 10) rfl ?_
  rw [hB.1.2.1]
  refine pp_isub dX0_hasRoom_10 (q := 11) rfl ?_
  refine pp_iconst dX0_hasRoom_11 ci_4 (q := 12) rfl ?_
  refine pp_icmp_lt (tgt := 36) dX0_hasRoom_12 (by decide) (q := 15) rfl (fun c12 => ?_) (fun c12 => ?_)
  · refine pp_iconst dX0_hasRoom_36 ci_0 (q := 37) rfl ?_
    refine ri_ret dX0_hasRoom_37 rfl (by decide) ?_
    refine ⟨?_, rfl⟩
    have e4 : (nI 4).toInt = 4 := by decide
    have e200 : (nI 200).toInt = 200 := by decide
    have t1 : (nI 1200 - nI (bL B)).toInt = (1200 : Int) - bL B := pk_sub_toInt (by decide) (by omega)
    have t2 : (nI 20000 - nI (bP B)).toInt = (20000 : Int) - bP B := pk_sub_toInt (by decide) (by omega)
    first
      | exact isB_1 (by rw [Int32.lt_iff_toInt_lt, t1, e4] at c12; rw [Int32.lt_iff_toInt_lt, t2, e200] at c29; omega)
      | exact isB_0 (by rw [Int32.lt_iff_toInt_lt, t1, e4] at c12; rw [Int32.lt_iff_toInt_lt, t2, e200] at c29; omega)
      | exact isB_0 (by rw [Int32.lt_iff_toInt_lt, t1, e4] at c12; omega)
  · refine pp_sipush dX0_hasRoom_15 cs_20000 (q := 18) rfl ?_
    refine pp_aload_n dX0_hasRoom_18 rfl isRf_r (q := 19) rfl ?_
    refine ps_get dX0_hasRoom_19 fl_X0_20 hw rfl rfl (q := 22) rfl ?_
    refine ps_get dX0_hasRoom_22 fl_X0_30 hw rfl rfl (q := 25) rfl ?_
    rw [show gI g (20, w, 1) 3 = nI (bP B) from hB.2.1.2.1]
    refine pp_isub dX0_hasRoom_25 (q := 26) rfl ?_
    refine pp_sipush dX0_hasRoom_26 cs_200 (q := 29) rfl ?_
    refine pp_icmp_lt (tgt := 36) dX0_hasRoom_29 (by decide) (q := 32) rfl (fun c29 => ?_) (fun c29 => ?_)
    · refine pp_iconst dX0_hasRoom_36 ci_0 (q := 37) rfl ?_
      refine ri_ret dX0_hasRoom_37 rfl (by decide) ?_
      refine ⟨?_, rfl⟩
      have e4 : (nI 4).toInt = 4 := by decide
      have e200 : (nI 200).toInt = 200 := by decide
      have t1 : (nI 1200 - nI (bL B)).toInt = (1200 : Int) - bL B := pk_sub_toInt (by decide) (by omega)
      have t2 : (nI 20000 - nI (bP B)).toInt = (20000 : Int) - bP B := pk_sub_toInt (by decide) (by omega)
      first
        | exact isB_1 (by rw [Int32.lt_iff_toInt_lt, t1, e4] at c12; rw [Int32.lt_iff_toInt_lt, t2, e200] at c29; omega)
        | exact isB_0 (by rw [Int32.lt_iff_toInt_lt, t1, e4] at c12; rw [Int32.lt_iff_toInt_lt, t2, e200] at c29; omega)
        | exact isB_0 (by rw [Int32.lt_iff_toInt_lt, t1, e4] at c12; omega)
    · refine pp_iconst dX0_hasRoom_32 ci_1 (q := 33) rfl ?_
      refine pp_goto (tgt := 37) dX0_hasRoom_33 (by decide) ?_
      refine ri_ret dX0_hasRoom_37 rfl (by decide) ?_
      refine ⟨?_, rfl⟩
      have e4 : (nI 4).toInt = 4 := by decide
      have e200 : (nI 200).toInt = 200 := by decide
      have t1 : (nI 1200 - nI (bL B)).toInt = (1200 : Int) - bL B := pk_sub_toInt (by decide) (by omega)
      have t2 : (nI 20000 - nI (bP B)).toInt = (20000 : Int) - bP B := pk_sub_toInt (by decide) (by omega)
      first
        | exact isB_1 (by rw [Int32.lt_iff_toInt_lt, t1, e4] at c12; rw [Int32.lt_iff_toInt_lt, t2, e200] at c29; omega)
        | exact isB_0 (by rw [Int32.lt_iff_toInt_lt, t1, e4] at c12; rw [Int32.lt_iff_toInt_lt, t2, e200] at c29; omega)
        | exact isB_0 (by rw [Int32.lt_iff_toInt_lt, t1, e4] at c12; omega)
set_option maxRecDepth 20000 in
set_option maxHeartbeats 4000000 in
theorem c_ofLetter {ad : Nm → Nat} {g : Sg} {w : Nat} {l c : Nat} {B : Bk} (hw : al g (10, w, 0)) (hB : RB g w B) (hl : l < bL B) (hc : c < 8) : PS mX0_ofLetter 0 (ent mX0_ofLetter [.ref (ad (13, w, 0)), .int (nI l), .int (nI c)]) [] ad g (Ri (fun v g' => v = bl B l c ∧ g' = g)) := by
  show PP mX0_ofLetter 0 [some (.ref (ad (13, w, 0))), some (.int (nI l)), some (.int (nI c))] [] (Rel ad g) _
  refine pp_aload_n dX0_ofLetter_0 rfl isRf_r (q := 1) rfl ?_
  refine ps_get dX0_ofLetter_1 fl_X0_14 hw rfl rfl (q := 4) rfl ?_
  refine pp_iload_n dX0_ofLetter_4 rfl (q := 5) rfl ?_
  refine pp_iload_n dX0_ofLetter_5 rfl (q := 6) rfl ?_
  refine ps_callVi dX0_ofLetter_6 lk_X0_37 (by exact hw) (by rfl) (by rfl) (by rfl) (c_get (w := w) (r := 0) hw hB.1 hl hc) (by rfl) (by exact Nat.le_of_ble_eq_true rfl) (by decide) (by decide) (by exact Nat.le_of_ble_eq_true rfl) (q := 9) rfl (fun r6 g6 h6 => ?_)
  obtain ⟨rfl, rfl⟩ := And.intro h6.1.symm h6.2.symm
  refine ri_ret dX0_ofLetter_9 rfl rfl ?_
  exact ⟨hB.2.2.2.2.1 l c hl hc, rfl⟩
set_option maxRecDepth 20000 in
set_option maxHeartbeats 4000000 in
theorem c_ofLetter_out {ad : Nm → Nat} {g : Sg} {w : Nat} {x c : Int32} {B : Bk} (hw : al g (10, w, 0)) (hB : RB g w B) (hx : x < 0 ∨ nI (bL B) ≤ x) : PS mX0_ofLetter 0 (ent mX0_ofLetter [.ref (ad (13, w, 0)), .int x, .int c]) [] ad g (Ri (fun v g' => v = -1 ∧ g' = g)) := by
  show PP mX0_ofLetter 0 [some (.ref (ad (13, w, 0))), some (.int x), some (.int c)] [] (Rel ad g) _
  refine pp_aload_n dX0_ofLetter_0 rfl isRf_r (q := 1) rfl ?_
  refine ps_get dX0_ofLetter_1 fl_X0_14 hw rfl rfl (q := 4) rfl ?_
  refine pp_iload_n dX0_ofLetter_4 rfl (q := 5) rfl ?_
  refine pp_iload_n dX0_ofLetter_5 rfl (q := 6) rfl ?_
  refine ps_callVi dX0_ofLetter_6 lk_X0_37 (by exact hw) (by rfl) (by rfl) (by rfl) (c_get_out (w := w) (r := 0) hw hB.1 hx) (by rfl) (by exact Nat.le_of_ble_eq_true rfl) (by decide) (by decide) (by exact Nat.le_of_ble_eq_true rfl) (q := 9) rfl (fun r6 g6 h6 => ?_)
  obtain ⟨rfl, rfl⟩ := And.intro h6.1.symm h6.2.symm
  refine ri_ret dX0_ofLetter_9 rfl rfl ?_
  exact ⟨rfl, rfl⟩
set_option maxRecDepth 20000 in
set_option maxHeartbeats 4000000 in
theorem c_ofPiece {ad : Nm → Nat} {g : Sg} {w : Nat} {l i c k s : Nat} {B : Bk} (hw : al g (10, w, 0)) (hB : RB g w B) (hp : pOk B l k s) (hi : i < k) (hc : c < 4) : PS mX0_ofPiece 0 (ent mX0_ofPiece [.ref (ad (13, w, 0)), .int (nI l), .int (nI i), .int (nI c)]) [] ad g (Ri (fun v g' => v = bp B (s + i) c ∧ g' = g)) := by
  have hbd := hB.bd
  obtain ⟨h1, h2, h3, h4, h5⟩ := hp
  show PP mX0_ofPiece 0 [some (.ref (ad (13, w, 0))), some (.int (nI l)), some (.int (nI i)), some (.int (nI c))] [] (Rel ad g) _
  refine pp_iload_n dX0_ofPiece_0 rfl (q := 1) rfl ?_
  refine pp_if_lt (tgt := 17) dX0_ofPiece_1 (by decide) (q := 4) rfl (fun c1 => absurd c1 (nI_pos (by omega))) (fun c1 => ?_)
  refine pp_iload_n dX0_ofPiece_4 rfl (q := 5) rfl ?_
  refine pp_aload_n dX0_ofPiece_5 rfl isRf_r (q := 6) rfl ?_
  refine ps_get dX0_ofPiece_6 fl_X0_14 hw rfl rfl (q := 9) rfl ?_
  refine pp_iload_n dX0_ofPiece_9 rfl (q := 10) rfl ?_
  refine pp_iconst dX0_ofPiece_10 ci_4 (q := 11) rfl ?_
  refine ps_callVi dX0_ofPiece_11 lk_X0_37 (by exact hw) (by rfl) (by rfl) (by rfl) (c_get (w := w) (r := 0) (j := 4) hw hB.1 h1 (by decide)) (by rfl) (by exact Nat.le_of_ble_eq_true rfl) (by decide) (by decide) (by exact Nat.le_of_ble_eq_true rfl) (q := 14) rfl (fun r11 g11 h11 => ?_)
  obtain ⟨rfl, rfl⟩ := And.intro h11.1.symm h11.2.symm
  rw [hB.2.2.2.2.1 l 4 h1 (by decide), h2]
  refine pp_icmp_lt (tgt := 19) dX0_ofPiece_14 (by decide) (q := 17) rfl (fun c14 => ?_) (fun c14 => absurd (nI_lt hi (by omega)) c14)
  refine pp_aload_n dX0_ofPiece_19 rfl isRf_r (q := 20) rfl ?_
  refine ps_get dX0_ofPiece_20 fl_X0_20 hw rfl rfl (q := 23) rfl ?_
  refine pp_aload_n dX0_ofPiece_23 rfl isRf_r (q := 24) rfl ?_
  refine ps_get dX0_ofPiece_24 fl_X0_14 hw rfl rfl (q := 27) rfl ?_
  refine pp_iload_n dX0_ofPiece_27 rfl (q := 28) rfl ?_
  refine pp_bipush dX0_ofPiece_28 cb_7 (q := 30) rfl ?_
  refine ps_callVi dX0_ofPiece_30 lk_X0_37 (by exact hw) (by rfl) (by rfl) (by rfl) (c_get (w := w) (r := 0) (j := 7) hw hB.1 h1 (by decide)) (by rfl) (by exact Nat.le_of_ble_eq_true rfl) (by decide) (by decide) (by exact Nat.le_of_ble_eq_true rfl) (q := 33) rfl (fun r30 g30 h30 => ?_)
  obtain ⟨rfl, rfl⟩ := And.intro h30.1.symm h30.2.symm
  rw [hB.2.2.2.2.1 l 7 h1 (by decide), h3]
  refine pp_iload_n dX0_ofPiece_33 rfl (q := 34) rfl ?_
  refine pp_iadd dX0_ofPiece_34 (q := 35) rfl ?_
  rw [nI_add]
  refine pp_iload_n dX0_ofPiece_35 rfl (q := 36) rfl ?_
  refine ps_callVi dX0_ofPiece_36 lk_X0_37 (by exact hw) (by rfl) (by rfl) (by rfl) (c_get (w := w) (r := 1) hw hB.2.1 (by omega) hc) (by rfl) (by exact Nat.le_of_ble_eq_true rfl) (by decide) (by decide) (by exact Nat.le_of_ble_eq_true rfl) (q := 39) rfl (fun r36 g36 h36 => ?_)
  obtain ⟨rfl, rfl⟩ := And.intro h36.1.symm h36.2.symm
  refine ri_ret dX0_ofPiece_39 rfl rfl ?_
  exact ⟨hB.2.2.2.2.2 (s + i) c (by omega) hc, rfl⟩
set_option maxRecDepth 20000 in
set_option maxHeartbeats 4000000 in
theorem l_findPiece {ad : Nm → Nat} {g : Sg} {w : Nat} {B : Bk} {l k s : Nat} {x : Int32} (hw : al g (10, w, 0)) (hB : RB g w B) (hp : pOk B l k s) : ∀ (j i : Nat), 64 - i < j → i ≤ k → PS mX0_findPiece 10 [some (.ref (ad (13, w, 0))), some (.int (nI l)), some (.int x), some (.int (nI k)), some (.int (nI i))] [] ad g (Ri (fun v g' => v = oI (fnd (fun i => decide (bp B (s + i) 0 = x)) i (k - i)) ∧ g' = g)) := by
  have hbd := hB.bd
  have hk6 := hp.2.2.2.2
  intro j
  induction j with
  | zero => intro i h; omega
  | succ j ih =>
    intro i hij hik
    refine pp_iload dX0_findPiece_10 rfl (q := 12) rfl ?_
    refine pp_iload_n dX0_findPiece_12 rfl (q := 13) rfl ?_
    refine pp_icmp_ge (tgt := 37) dX0_findPiece_13 (by decide) (q := 16) rfl (fun c13 => ?_) (fun c13 => ?_)
    · have e : k - i = 0 := by have := leT c13 (by omega) (by omega); omega
      refine pp_iconst dX0_findPiece_37 ci_m1 (q := 38) rfl ?_
      refine ri_ret dX0_findPiece_38 rfl rfl ⟨?_, rfl⟩
      rw [e]; rfl
    · have hlt := leF c13 (by omega) (by omega)
      have e : k - i = (k - (i + 1)) + 1 := by omega
      refine pp_aload_n dX0_findPiece_16 rfl isRf_r (q := 17) rfl ?_
      refine pp_iload_n dX0_findPiece_17 rfl (q := 18) rfl ?_
      refine pp_iload dX0_findPiece_18 rfl (q := 20) rfl ?_
      refine pp_iconst dX0_findPiece_20 ci_0 (q := 21) rfl ?_
      refine ps_callVi dX0_findPiece_21 lk_X0_56 (by exact hw) (by rfl) (by rfl) (by rfl) (c_ofPiece (c := 0) hw hB hp hlt (by decide)) (by rfl) (by exact Nat.le_of_ble_eq_true rfl) (by decide) (by decide) (by exact Nat.le_of_ble_eq_true rfl) (q := 24) rfl (fun r21 g21 h21 => ?_)
      obtain ⟨rfl, rfl⟩ := And.intro h21.1.symm h21.2.symm
      refine pp_iload_n dX0_findPiece_24 rfl (q := 25) rfl ?_
      refine pp_icmp_ne (tgt := 31) dX0_findPiece_25 (by decide) (q := 28) rfl (fun c25 => ?_) (fun c25 => ?_)
      · refine pp_iinc dX0_findPiece_31 rfl (nI_1 _) (ls1_4 (nl1 rfl)) (q := 34) rfl ?_
        refine pp_goto (tgt := 10) dX0_findPiece_34 (by decide) ?_
        have hh := ih (i + 1) (by omega) (by omega)
        rw [e]
        unfold fnd
        rw [if_neg (by simpa using c25)]
        exact hh
      · refine pp_iload dX0_findPiece_28 rfl (q := 30) rfl ?_
        refine ri_ret dX0_findPiece_30 rfl rfl ?_
        refine ⟨?_, rfl⟩
        rw [e]
        unfold fnd
        rw [if_pos (by simpa using c25)]
        rfl
set_option maxRecDepth 20000 in
set_option maxHeartbeats 4000000 in
theorem c_findPiece {ad : Nm → Nat} {g : Sg} {w : Nat} {l k s : Nat} {x : Int32} {B : Bk} (hw : al g (10, w, 0)) (hB : RB g w B) (hp : pOk B l k s) : PS mX0_findPiece 0 (ent mX0_findPiece [.ref (ad (13, w, 0)), .int (nI l), .int x]) [] ad g (Ri (fun v g' => v = oI (fnd (fun i => decide (bp B (s + i) 0 = x)) 0 k) ∧ g' = g)) := by
  show PP mX0_findPiece 0 [some (.ref (ad (13, w, 0))), some (.int (nI l)), some (.int x), none, none] [] (Rel ad g) _
  refine pp_aload_n dX0_findPiece_0 rfl isRf_r (q := 1) rfl ?_
  refine pp_iload_n dX0_findPiece_1 rfl (q := 2) rfl ?_
  refine pp_iconst dX0_findPiece_2 ci_4 (q := 3) rfl ?_
  refine ps_callVi dX0_findPiece_3 lk_X0_49 (by exact hw) (by rfl) (by rfl) (by rfl) (c_ofLetter (c := 4) hw hB hp.1 (by decide)) (by rfl) (by exact Nat.le_of_ble_eq_true rfl) (by decide) (by decide) (by exact Nat.le_of_ble_eq_true rfl) (q := 6) rfl (fun r3 g3 h3 => ?_)
  obtain ⟨rfl, rfl⟩ := And.intro h3.1.symm h3.2.symm
  rw [hp.2.1]
  refine pp_istore_n dX0_findPiece_6 (by decide) (ls1_3 (nl1 rfl)) (q := 7) rfl ?_
  refine pp_iconst dX0_findPiece_7 ci_0 (q := 8) rfl ?_
  refine pp_istore dX0_findPiece_8 (by decide) (ls1_4 (nl1 rfl)) (q := 10) rfl ?_
  exact l_findPiece hw hB hp 65 0 (by omega) (by omega)
set_option maxRecDepth 20000 in
set_option maxHeartbeats 4000000 in
theorem c_findPiece_out {ad : Nm → Nat} {g : Sg} {w : Nat} {x y : Int32} {B : Bk} (hw : al g (10, w, 0)) (hB : RB g w B) (hy : y < 0 ∨ nI (bL B) ≤ y) : PS mX0_findPiece 0 (ent mX0_findPiece [.ref (ad (13, w, 0)), .int y, .int x]) [] ad g (Ri (fun v g' => v = -1 ∧ g' = g)) := by
  show PP mX0_findPiece 0 [some (.ref (ad (13, w, 0))), some (.int y), some (.int x), none, none] [] (Rel ad g) _
  refine pp_aload_n dX0_findPiece_0 rfl isRf_r (q := 1) rfl ?_
  refine pp_iload_n dX0_findPiece_1 rfl (q := 2) rfl ?_
  refine pp_iconst dX0_findPiece_2 ci_4 (q := 3) rfl ?_
  refine ps_callVi dX0_findPiece_3 lk_X0_49 (by exact hw) (by rfl) (by rfl) (by rfl) (c_ofLetter_out hw hB hy) (by rfl) (by exact Nat.le_of_ble_eq_true rfl) (by decide) (by decide) (by exact Nat.le_of_ble_eq_true rfl) (q := 6) rfl (fun r3 g3 h3 => ?_)
  obtain ⟨rfl, rfl⟩ := And.intro h3.1.symm h3.2.symm
  refine pp_istore_n dX0_findPiece_6 (by decide) (ls1_3 (nl1 rfl)) (q := 7) rfl ?_
  refine pp_iconst dX0_findPiece_7 ci_0 (q := 8) rfl ?_
  refine pp_istore dX0_findPiece_8 (by decide) (ls1_4 (nl1 rfl)) (q := 10) rfl ?_
  refine pp_iload dX0_findPiece_10 rfl (q := 12) rfl ?_
  refine pp_iload_n dX0_findPiece_12 rfl (q := 13) rfl ?_
  refine pp_icmp_ge (tgt := 37) dX0_findPiece_13 (by decide) (q := 16) rfl (fun c13 => ?_) (fun c13 => absurd (show (-1 : Int32) ≤ nI 0 by decide) c13)
  refine pp_iconst dX0_findPiece_37 ci_m1 (q := 38) rfl ?_
  refine ri_ret dX0_findPiece_38 rfl rfl ?_
  exact ⟨rfl, rfl⟩
set_option maxRecDepth 20000 in
set_option maxHeartbeats 4000000 in
theorem c_reached {ad : Nm → Nat} {g : Sg} {w : Nat} {x y : Int32} {B : Bk} (hw : al g (10, w, 0)) (hB : RB g w B)  : PS mX0_reached 0 (ent mX0_reached [.ref (ad (13, w, 0)), .int x, .int y]) [] ad g (Ri (fun v g' => isB v (∃ l, l < bL B ∧ x = nI l ∧ bl B l 5 = nI 1 ∧ bl B l 2 = y) ∧ g' = g)) := by
  have hbd := hB.bd
  show PP mX0_reached 0 [some (.ref (ad (13, w, 0))), some (.int x), some (.int y)] [] (Rel ad g) _
  refine pp_aload_n dX0_reached_0 rfl isRf_r (q := 1) rfl ?_
  refine pp_iload_n dX0_reached_1 rfl (q := 2) rfl ?_
  refine ps_callVi dX0_reached_2 lk_X0_64 (by exact hw) (by rfl) (by rfl) (by rfl) (c_hasLetter hw hB) (by rfl) (by exact Nat.le_of_ble_eq_true rfl) (by decide) (by decide) (by exact Nat.le_of_ble_eq_true rfl) (q := 5) rfl (fun r2 g2 h2 => ?_)
  obtain ⟨hb2, rfl⟩ := And.intro h2.1 h2.2.symm
  refine pp_if_eq (tgt := 32) dX0_reached_5 (by decide) (q := 8) rfl (fun c5 => ?_) (fun c5 => ?_)
  · have hz := isB_f hb2 c5
    refine pp_iconst dX0_reached_32 ci_0 (q := 33) rfl ?_
    refine ri_ret dX0_reached_33 rfl (by decide) ?_
    refine ⟨?_, rfl⟩
    first
      | exact isB_1 ⟨l, hl, rfl, c15, c25⟩
      | exact isB_0 (fun ⟨j, h1, h2, h3, h4⟩ => hz ⟨j, h1, h2⟩)
      | exact isB_0 (fun ⟨j, h1, h2, h3, h4⟩ => c15 (by have e := eqT h2 (by omega) (by omega); subst e; exact h3))
      | exact isB_0 (fun ⟨j, h1, h2, h3, h4⟩ => c25 (by have e := eqT h2 (by omega) (by omega); subst e; exact h4))
  · obtain ⟨l, hl, rfl⟩ := isB_t hb2 c5
    refine pp_aload_n dX0_reached_8 rfl isRf_r (q := 9) rfl ?_
    refine pp_iload_n dX0_reached_9 rfl (q := 10) rfl ?_
    refine pp_iconst dX0_reached_10 ci_5 (q := 11) rfl ?_
    refine ps_callVi dX0_reached_11 lk_X0_49 (by exact hw) (by rfl) (by rfl) (by rfl) (c_ofLetter (c := 5) hw hB hl (by decide)) (by rfl) (by exact Nat.le_of_ble_eq_true rfl) (by decide) (by decide) (by exact Nat.le_of_ble_eq_true rfl) (q := 14) rfl (fun r11 g11 h11 => ?_)
    obtain ⟨rfl, rfl⟩ := And.intro h11.1.symm h11.2.symm
    refine pp_iconst dX0_reached_14 ci_1 (q := 15) rfl ?_
    refine pp_icmp_ne (tgt := 32) dX0_reached_15 (by decide) (q := 18) rfl (fun c15 => ?_) (fun c15 => ?_)
    · refine pp_iconst dX0_reached_32 ci_0 (q := 33) rfl ?_
      refine ri_ret dX0_reached_33 rfl (by decide) ?_
      refine ⟨?_, rfl⟩
      first
        | exact isB_1 ⟨l, hl, rfl, c15, c25⟩
        | exact isB_0 (fun ⟨j, h1, h2, h3, h4⟩ => hz ⟨j, h1, h2⟩)
        | exact isB_0 (fun ⟨j, h1, h2, h3, h4⟩ => c15 (by have e := eqT h2 (by omega) (by omega); subst e; exact h3))
        | exact isB_0 (fun ⟨j, h1, h2, h3, h4⟩ => c25 (by have e := eqT h2 (by omega) (by omega); subst e; exact h4))
    · refine pp_aload_n dX0_reached_18 rfl isRf_r (q := 19) rfl ?_
      refine pp_iload_n dX0_reached_19 rfl (q := 20) rfl ?_
      refine pp_iconst dX0_reached_20 ci_2 (q := 21) rfl ?_
      refine ps_callVi dX0_reached_21 lk_X0_49 (by exact hw) (by rfl) (by rfl) (by rfl) (c_ofLetter (c := 2) hw hB hl (by decide)) (by rfl) (by exact Nat.le_of_ble_eq_true rfl) (by decide) (by decide) (by exact Nat.le_of_ble_eq_true rfl) (q := 24) rfl (fun r21 g21 h21 => ?_)
      obtain ⟨rfl, rfl⟩ := And.intro h21.1.symm h21.2.symm
      refine pp_iload_n dX0_reached_24 rfl (q := 25) rfl ?_
      refine pp_icmp_ne (tgt := 32) dX0_reached_25 (by decide) (q := 28) rfl (fun c25 => ?_) (fun c25 => ?_)
      · refine pp_iconst dX0_reached_32 ci_0 (q := 33) rfl ?_
        refine ri_ret dX0_reached_33 rfl (by decide) ?_
        refine ⟨?_, rfl⟩
        first
          | exact isB_1 ⟨l, hl, rfl, c15, c25⟩
          | exact isB_0 (fun ⟨j, h1, h2, h3, h4⟩ => hz ⟨j, h1, h2⟩)
          | exact isB_0 (fun ⟨j, h1, h2, h3, h4⟩ => c15 (by have e := eqT h2 (by omega) (by omega); subst e; exact h3))
          | exact isB_0 (fun ⟨j, h1, h2, h3, h4⟩ => c25 (by have e := eqT h2 (by omega) (by omega); subst e; exact h4))
      · refine pp_iconst dX0_reached_28 ci_1 (q := 29) rfl ?_
        refine pp_goto (tgt := 33) dX0_reached_29 (by decide) ?_
        refine ri_ret dX0_reached_33 rfl (by decide) ?_
        refine ⟨?_, rfl⟩
        first
          | exact isB_1 ⟨l, hl, rfl, c15, c25⟩
          | exact isB_0 (fun ⟨j, h1, h2, h3, h4⟩ => hz ⟨j, h1, h2⟩)
          | exact isB_0 (fun ⟨j, h1, h2, h3, h4⟩ => c15 (by have e := eqT h2 (by omega) (by omega); subst e; exact h3))
          | exact isB_0 (fun ⟨j, h1, h2, h3, h4⟩ => c25 (by have e := eqT h2 (by omega) (by omega); subst e; exact h4))
def opG (g : Sg) (w n : Nat) (kind fr to ab cp : Int32) : Sg := rset (rset (rset (rset (rset (rset (radd g w 0 n) w 0 n 0 kind) w 0 n 1 fr) w 0 n 2 to) w 0 n 3 ab) w 0 n 6 cp) w 0 n 7 (gI g (20, w, 1) 3)
theorem EqX_open {g : Sg} {w n : Nat} {kind fr to ab cp x : Int32} : EqX (bkS w) g (rset (rset (rset (rset (rset (rset (radd g w 0 n) w 0 n 0 kind) w 0 n 1 fr) w 0 n 2 to) w 0 n 3 ab) w 0 n 6 cp) w 0 n 7 x) := by
  have h21 : bkS w (21, w, 0) := ⟨rfl, Or.inr (Or.inr rfl), by exact Nat.le_of_ble_eq_true rfl⟩
  exact ((((((EqX.rf.radd h21 ⟨rfl, Or.inr (Or.inl rfl), by exact Nat.le_of_ble_eq_true rfl⟩).rset h21).rset h21).rset h21).rset h21).rset h21).rset h21
theorem wd0 : wdN 0 = 8 := rfl
theorem wd1 : wdN 1 = 4 := rfl
set_option maxHeartbeats 4000000 in
theorem RB_open {g : Sg} {w : Nat} {B : Bk} {kind fr to ab cp y : Int32} (hB : RB g w B) (hy : y = nI (bP B)) (hroom : (bL B + 1) * wdN 0 ≤ gN g (21, w, 0)) : RB (rset (rset (rset (rset (rset (rset (radd g w 0 (bL B)) w 0 (bL B) 0 kind) w 0 (bL B) 1 fr) w 0 (bL B) 2 to) w 0 (bL B) 3 ab) w 0 (bL B) 6 cp) w 0 (bL B) 7 y) w (opB B kind fr to ab cp) := by
  obtain ⟨h1, h2, h3, h4, h5, h6⟩ := hB
  refine ⟨rOk_radd h1 hroom, rOk_radd_ne h2 (by simp), h3, h4, fun l c hl hc => ?_, fun p c hp hc => ?_⟩
  · have hc0 : c < wdN 0 := hc
    rw [rv_rset (by decide) hc0, rv_rset (by decide) hc0, rv_rset (by decide) hc0, rv_rset (by decide) hc0, rv_rset (by decide) hc0, rv_rset (by decide) hc0, rv_radd hc0]
    show _ = if l = bL B then _ else _
    by_cases hlb : l = bL B
    · subst hlb
      simp only [true_and, if_true]
      have e := hy
      match c, hc with
      | 0, _ => rfl
      | 1, _ => rfl
      | 2, _ => rfl
      | 3, _ => rfl
      | 4, _ => rfl
      | 5, _ => rfl
      | 6, _ => rfl
      | 7, _ => exact e
    · simp only [hlb, false_and, and_false, if_false]
      have : l < bL B + 1 := hl
      exact h5 l c (by omega) hc
  · have hc0 : c < wdN 1 := hc
    rw [rv_rset (by decide) hc0, rv_rset (by decide) hc0, rv_rset (by decide) hc0, rv_rset (by decide) hc0, rv_rset (by decide) hc0, rv_rset (by decide) hc0, rv_radd hc0]
    simp only [show ¬ (1 = 0) by decide, false_and, and_false, if_false]
    exact h6 p c hp hc
set_option maxRecDepth 20000 in
set_option maxHeartbeats 4000000 in
theorem c_open {ad : Nm → Nat} {g : Sg} {w : Nat} {kind fr to ab cp : Int32} {B : Bk} (hw : al g (10, w, 0)) (hB : RB g w B) (hroom : (bL B + 1) * wdN 0 ≤ gN g (21, w, 0)) : PS mX0_open 0 (ent mX0_open [.ref (ad (13, w, 0)), .int kind, .int fr, .int to, .int ab, .int cp]) [] ad g (Ri (fun v g' => v = nI (bL B) ∧ RB g' w (opB B kind fr to ab cp) ∧ EqX (bkS w) g g')) := by
  show PP mX0_open 0 [some (.ref (ad (13, w, 0))), some (.int kind), some (.int fr), some (.int to), some (.int ab), some (.int cp), none] [] (Rel ad g) _
  refine pp_aload_n dX0_open_0 rfl isRf_r (q := 1) rfl ?_
  refine ps_get dX0_open_1 fl_X0_14 hw rfl rfl (q := 4) rfl ?_
  refine ps_callVi dX0_open_4 lk_X0_41 (by exact hw) (by rfl) (by rfl) (by rfl) (c_add (w := w) (r := 0) hw hB.1 hroom) (by rfl) (by exact Nat.le_of_ble_eq_true rfl) (by decide) (by decide) (by exact Nat.le_of_ble_eq_true rfl) (q := 7) rfl (fun r4 g4 h4 => ?_)
  obtain ⟨rfl, rfl⟩ := And.intro h4.1.symm h4.2.symm
  have hR1 := rOk_radd hB.1 hroom
  refine pp_istore dX0_open_7 (by decide) (ls1_6 (nl1 rfl)) (q := 9) rfl ?_
  refine pp_aload_n dX0_open_9 rfl isRf_r (q := 10) rfl ?_
  refine ps_get dX0_open_10 fl_X0_14 hw rfl rfl (q := 13) rfl ?_
  refine pp_iload dX0_open_13 rfl (q := 15) rfl ?_
  refine pp_iconst dX0_open_15 ci_0 (q := 16) rfl ?_
  refine pp_iload_n dX0_open_16 rfl (q := 17) rfl ?_
  refine ps_callVv dX0_open_17 lk_X0_45 (by exact hw) (by rfl) (by rfl) (by rfl) (c_set (w := w) (r := 0) (n := bL B + 1) (j := 0) hw hR1 (Nat.lt_succ_self _) (by decide)) (by rfl) (by exact Nat.le_of_ble_eq_true rfl) (by decide) (by decide) (by exact Nat.le_of_ble_eq_true rfl) (q := 20) rfl (fun g17 h17 => ?_)
  have h17 := h17.symm
  subst h17
  refine pp_aload_n dX0_open_20 rfl isRf_r (q := 21) rfl ?_
  refine ps_get dX0_open_21 fl_X0_14 hw rfl rfl (q := 24) rfl ?_
  refine pp_iload dX0_open_24 rfl (q := 26) rfl ?_
  refine pp_iconst dX0_open_26 ci_1 (q := 27) rfl ?_
  refine pp_iload_n dX0_open_27 rfl (q := 28) rfl ?_
  refine ps_callVv dX0_open_28 lk_X0_45 (by exact hw) (by rfl) (by rfl) (by rfl) (c_set (w := w) (r := 0) (n := bL B + 1) (j := 1) hw hR1 (Nat.lt_succ_self _) (by decide)) (by rfl) (by exact Nat.le_of_ble_eq_true rfl) (by decide) (by decide) (by exact Nat.le_of_ble_eq_true rfl) (q := 31) rfl (fun g28 h28 => ?_)
  have h28 := h28.symm
  subst h28
  refine pp_aload_n dX0_open_31 rfl isRf_r (q := 32) rfl ?_
  refine ps_get dX0_open_32 fl_X0_14 hw rfl rfl (q := 35) rfl ?_
  refine pp_iload dX0_open_35 rfl (q := 37) rfl ?_
  refine pp_iconst dX0_open_37 ci_2 (q := 38) rfl ?_
  refine pp_iload_n dX0_open_38 rfl (q := 39) rfl ?_
  refine ps_callVv dX0_open_39 lk_X0_45 (by exact hw) (by rfl) (by rfl) (by rfl) (c_set (w := w) (r := 0) (n := bL B + 1) (j := 2) hw hR1 (Nat.lt_succ_self _) (by decide)) (by rfl) (by exact Nat.le_of_ble_eq_true rfl) (by decide) (by decide) (by exact Nat.le_of_ble_eq_true rfl) (q := 42) rfl (fun g39 h39 => ?_)
  have h39 := h39.symm
  subst h39
  refine pp_aload_n dX0_open_42 rfl isRf_r (q := 43) rfl ?_
  refine ps_get dX0_open_43 fl_X0_14 hw rfl rfl (q := 46) rfl ?_
  refine pp_iload dX0_open_46 rfl (q := 48) rfl ?_
  refine pp_iconst dX0_open_48 ci_3 (q := 49) rfl ?_
  refine pp_iload dX0_open_49 rfl (q := 51) rfl ?_
  refine ps_callVv dX0_open_51 lk_X0_45 (by exact hw) (by rfl) (by rfl) (by rfl) (c_set (w := w) (r := 0) (n := bL B + 1) (j := 3) hw hR1 (Nat.lt_succ_self _) (by decide)) (by rfl) (by exact Nat.le_of_ble_eq_true rfl) (by decide) (by decide) (by exact Nat.le_of_ble_eq_true rfl) (q := 54) rfl (fun g51 h51 => ?_)
  have h51 := h51.symm
  subst h51
  refine pp_aload_n dX0_open_54 rfl isRf_r (q := 55) rfl ?_
  refine ps_get dX0_open_55 fl_X0_14 hw rfl rfl (q := 58) rfl ?_
  refine pp_iload dX0_open_58 rfl (q := 60) rfl ?_
  refine pp_bipush dX0_open_60 cb_6 (q := 62) rfl ?_
  refine pp_iload dX0_open_62 rfl (q := 64) rfl ?_
  refine ps_callVv dX0_open_64 lk_X0_45 (by exact hw) (by rfl) (by rfl) (by rfl) (c_set (w := w) (r := 0) (n := bL B + 1) (j := 6) hw hR1 (Nat.lt_succ_self _) (by decide)) (by rfl) (by exact Nat.le_of_ble_eq_true rfl) (by decide) (by decide) (by exact Nat.le_of_ble_eq_true rfl) (q := 67) rfl (fun g64 h64 => ?_)
  have h64 := h64.symm
  subst h64
  refine pp_aload_n dX0_open_67 rfl isRf_r (q := 68) rfl ?_
  refine ps_get dX0_open_68 fl_X0_14 hw rfl rfl (q := 71) rfl ?_
  refine pp_iload dX0_open_71 rfl (q := 73) rfl ?_
  refine pp_bipush dX0_open_73 cb_7 (q := 75) rfl ?_
  refine pp_aload_n dX0_open_75 rfl isRf_r (q := 76) rfl ?_
  refine ps_get dX0_open_76 fl_X0_20 hw rfl rfl (q := 79) rfl ?_
  refine ps_get dX0_open_79 fl_X0_30 hw rfl rfl (q := 82) rfl ?_
  refine ps_callVv dX0_open_82 lk_X0_45 (by exact hw) (by rfl) (by rfl) (by rfl) (c_set (w := w) (r := 0) (n := bL B + 1) (j := 7) hw hR1 (Nat.lt_succ_self _) (by decide)) (by rfl) (by exact Nat.le_of_ble_eq_true rfl) (by decide) (by decide) (by exact Nat.le_of_ble_eq_true rfl) (q := 85) rfl (fun g82 h82 => ?_)
  have h82 := h82.symm
  subst h82
  refine pp_iload dX0_open_85 rfl (q := 87) rfl ?_
  refine ri_ret dX0_open_87 rfl rfl ?_
  exact ⟨rfl, RB_open hB (by show gI (radd g w 0 (bL B)) (20, w, 1) 3 = _; unfold radd; rw [gI_sI, if_neg (by simp)]; exact hB.2.1.2.1) hroom, EqX_open⟩
def puG (g : Sg) (w n i : Nat) (x kind term br : Int32) : Sg := rset (rset (rset (rset (radd g w 1 n) w 1 n 0 x) w 1 n 1 kind) w 1 n 2 term) w 1 n 3 br
theorem EqX_put {g : Sg} {w n i : Nat} {x kind term br y : Int32} : EqX (bkS w) g (rset (rset (rset (rset (rset (radd g w 1 n) w 1 n 0 x) w 1 n 1 kind) w 1 n 2 term) w 1 n 3 br) w 0 i 4 y) := by
  have h20 : bkS w (21, w, 0) := ⟨rfl, Or.inr (Or.inr rfl), by exact Nat.le_of_ble_eq_true rfl⟩
  have h21 : bkS w (21, w, 1) := ⟨rfl, Or.inr (Or.inr rfl), by exact Nat.le_of_ble_eq_true rfl⟩
  exact (((((EqX.rf.radd h21 ⟨rfl, Or.inr (Or.inl rfl), by exact Nat.le_of_ble_eq_true rfl⟩).rset h21).rset h21).rset h21).rset h21).rset h20
set_option maxHeartbeats 4000000 in
theorem RB_put {g : Sg} {w : Nat} {B : Bk} {x kind term br : Int32} (hB : RB g w B) (hnl : 1 ≤ bL B) (hroom : (bP B + 1) * wdN 1 ≤ gN g (21, w, 1)) : RB (rset (rset (rset (rset (rset (radd g w 1 (bP B)) w 1 (bP B) 0 x) w 1 (bP B) 1 kind) w 1 (bP B) 2 term) w 1 (bP B) 3 br) w 0 (bL B - 1) 4 (rv (rset (rset (rset (rset (radd g w 1 (bP B)) w 1 (bP B) 0 x) w 1 (bP B) 1 kind) w 1 (bP B) 2 term) w 1 (bP B) 3 br) w 0 (bL B - 1) 4 + nI 1)) w (puB B x kind term br) := by
  obtain ⟨h1, h2, h3, h4, h5, h6⟩ := hB
  refine ⟨rOk_radd_ne h1 (by simp), rOk_radd h2 hroom, h3, h4, fun l c hl hc => ?_, fun p c hp hc => ?_⟩
  · have hc0 : c < wdN 0 := hc
    rw [rv_rset (by decide) hc0, rv_rset (by decide) hc0, rv_rset (by decide) hc0, rv_rset (by decide) hc0, rv_rset (by decide) hc0, rv_radd hc0]
    rw [rv_rset (by decide) (by decide), rv_rset (by decide) (by decide), rv_rset (by decide) (by decide), rv_rset (by decide) (by decide), rv_radd (by decide)]
    simp only [show ¬ (0 = 1) by decide, false_and, and_false, if_false, true_and]
    show _ = if l + 1 = bL B ∧ c = 4 then _ else _
    have hl' : l < bL B := hl
    by_cases hlb : l = bL B - 1 ∧ c = 4
    · rw [if_pos hlb, if_pos (by omega), h5 (bL B - 1) 4 (by omega) (by decide), hlb.1]
    · rw [if_neg hlb, if_neg (by omega)]
      exact h5 l c hl' hc
  · have hc0 : c < wdN 1 := hc
    rw [rv_rset (by decide) hc0, rv_rset (by decide) hc0, rv_rset (by decide) hc0, rv_rset (by decide) hc0, rv_rset (by decide) hc0, rv_radd hc0]
    simp only [show ¬ (1 = 0) by decide, false_and, and_false, if_false, true_and]
    show _ = if p = bP B then _ else _
    by_cases hpb : p = bP B
    · subst hpb
      simp only [true_and, if_true]
      match c, hc with
      | 0, _ => rfl
      | 1, _ => rfl
      | 2, _ => rfl
      | 3, _ => rfl
    · simp only [hpb, false_and, if_false]
      have : p < bP B + 1 := hp
      exact h6 p c (by omega) hc
set_option maxRecDepth 20000 in
set_option maxHeartbeats 4000000 in
theorem c_put {ad : Nm → Nat} {g : Sg} {w : Nat} {x kind term br : Int32} {B : Bk} (hw : al g (10, w, 0)) (hB : RB g w B) (hnl : 1 ≤ bL B) (hroom : (bP B + 1) * wdN 1 ≤ gN g (21, w, 1)) : PS mX0_put 0 (ent mX0_put [.ref (ad (13, w, 0)), .int x, .int kind, .int term, .int br]) [] ad g (Rv (fun g' => RB g' w (puB B x kind term br) ∧ EqX (bkS w) g g')) := by
  have hbd := hB.bd
  show PP mX0_put 0 [some (.ref (ad (13, w, 0))), some (.int x), some (.int kind), some (.int term), some (.int br), none, none] [] (Rel ad g) _
  refine pp_aload_n dX0_put_0 rfl isRf_r (q := 1) rfl ?_
  refine ps_get dX0_put_1 fl_X0_20 hw rfl rfl (q := 4) rfl ?_
  refine ps_callVi dX0_put_4 lk_X0_41 (by exact hw) (by rfl) (by rfl) (by rfl) (c_add (w := w) (r := 1) hw hB.2.1 hroom) (by rfl) (by exact Nat.le_of_ble_eq_true rfl) (by decide) (by decide) (by exact Nat.le_of_ble_eq_true rfl) (q := 7) rfl (fun r4 g4 h4 => ?_)
  obtain ⟨rfl, rfl⟩ := And.intro h4.1.symm h4.2.symm
  have hR1 := rOk_radd hB.2.1 hroom
  have hR0 : rOk (radd g w 1 (bP B)) w 0 (bL B) := rOk_radd_ne hB.1 (by simp)
  refine pp_istore dX0_put_7 (by decide) (ls1_5 (nl1 rfl)) (q := 9) rfl ?_
  refine pp_aload_n dX0_put_9 rfl isRf_r (q := 10) rfl ?_
  refine ps_get dX0_put_10 fl_X0_14 hw rfl rfl (q := 13) rfl ?_
  refine ps_get dX0_put_13 fl_X0_30 hw rfl rfl (q := 16) rfl ?_
  rw [show gI (radd g w 1 (bP B)) (20, w, 0) 3 = nI (bL B) from hR0.2.1]
  refine pp_iconst dX0_put_16 ci_1 (q := 17) rfl ?_
  refine pp_isub dX0_put_17 (q := 18) rfl ?_
  rw [pk_sub hnl]
  refine pp_istore dX0_put_18 (by decide) (ls1_6 (nl1 rfl)) (q := 20) rfl ?_
  refine pp_iload dX0_put_20 rfl (q := 22) rfl ?_
  refine pp_iconst dX0_put_22 ci_m1 (q := 23) rfl ?_
  refine pp_icmp_eq (tgt := 31) dX0_put_23 (by decide) (q := 26) rfl (fun c23 => absurd c23 (oI_some_ne (by omega))) (fun c23 => ?_)
  refine pp_iload dX0_put_26 rfl (q := 28) rfl ?_
  refine pp_if_ge (tgt := 32) dX0_put_28 (by decide) (q := 31) rfl (fun c28 => ?_) (fun c28 => absurd (nI_pos' (by omega)) c28)
  refine pp_aload_n dX0_put_32 rfl isRf_r (q := 33) rfl ?_
  refine ps_get dX0_put_33 fl_X0_20 hw rfl rfl (q := 36) rfl ?_
  refine pp_iload dX0_put_36 rfl (q := 38) rfl ?_
  refine pp_iconst dX0_put_38 ci_0 (q := 39) rfl ?_
  refine pp_iload_n dX0_put_39 rfl (q := 40) rfl ?_
  refine ps_callVv dX0_put_40 lk_X0_45 (by exact hw) (by rfl) (by rfl) (by rfl) (c_set (w := w) (r := 1) (n := bP B + 1) (j := 0) hw hR1 (Nat.lt_succ_self _) (by decide)) (by rfl) (by exact Nat.le_of_ble_eq_true rfl) (by decide) (by decide) (by exact Nat.le_of_ble_eq_true rfl) (q := 43) rfl (fun g40 h40 => ?_)
  have h40 := h40.symm
  subst h40
  refine pp_aload_n dX0_put_43 rfl isRf_r (q := 44) rfl ?_
  refine ps_get dX0_put_44 fl_X0_20 hw rfl rfl (q := 47) rfl ?_
  refine pp_iload dX0_put_47 rfl (q := 49) rfl ?_
  refine pp_iconst dX0_put_49 ci_1 (q := 50) rfl ?_
  refine pp_iload_n dX0_put_50 rfl (q := 51) rfl ?_
  refine ps_callVv dX0_put_51 lk_X0_45 (by exact hw) (by rfl) (by rfl) (by rfl) (c_set (w := w) (r := 1) (n := bP B + 1) (j := 1) hw hR1 (Nat.lt_succ_self _) (by decide)) (by rfl) (by exact Nat.le_of_ble_eq_true rfl) (by decide) (by decide) (by exact Nat.le_of_ble_eq_true rfl) (q := 54) rfl (fun g51 h51 => ?_)
  have h51 := h51.symm
  subst h51
  refine pp_aload_n dX0_put_54 rfl isRf_r (q := 55) rfl ?_
  refine ps_get dX0_put_55 fl_X0_20 hw rfl rfl (q := 58) rfl ?_
  refine pp_iload dX0_put_58 rfl (q := 60) rfl ?_
  refine pp_iconst dX0_put_60 ci_2 (q := 61) rfl ?_
  refine pp_iload_n dX0_put_61 rfl (q := 62) rfl ?_
  refine ps_callVv dX0_put_62 lk_X0_45 (by exact hw) (by rfl) (by rfl) (by rfl) (c_set (w := w) (r := 1) (n := bP B + 1) (j := 2) hw hR1 (Nat.lt_succ_self _) (by decide)) (by rfl) (by exact Nat.le_of_ble_eq_true rfl) (by decide) (by decide) (by exact Nat.le_of_ble_eq_true rfl) (q := 65) rfl (fun g62 h62 => ?_)
  have h62 := h62.symm
  subst h62
  refine pp_aload_n dX0_put_65 rfl isRf_r (q := 66) rfl ?_
  refine ps_get dX0_put_66 fl_X0_20 hw rfl rfl (q := 69) rfl ?_
  refine pp_iload dX0_put_69 rfl (q := 71) rfl ?_
  refine pp_iconst dX0_put_71 ci_3 (q := 72) rfl ?_
  refine pp_iload dX0_put_72 rfl (q := 74) rfl ?_
  refine ps_callVv dX0_put_74 lk_X0_45 (by exact hw) (by rfl) (by rfl) (by rfl) (c_set (w := w) (r := 1) (n := bP B + 1) (j := 3) hw hR1 (Nat.lt_succ_self _) (by decide)) (by rfl) (by exact Nat.le_of_ble_eq_true rfl) (by decide) (by decide) (by exact Nat.le_of_ble_eq_true rfl) (q := 77) rfl (fun g74 h74 => ?_)
  have h74 := h74.symm
  subst h74
  refine pp_aload_n dX0_put_77 rfl isRf_r (q := 78) rfl ?_
  refine ps_get dX0_put_78 fl_X0_14 hw rfl rfl (q := 81) rfl ?_
  refine pp_iload dX0_put_81 rfl (q := 83) rfl ?_
  refine pp_iconst dX0_put_83 ci_4 (q := 84) rfl ?_
  refine pp_aload_n dX0_put_84 rfl isRf_r (q := 85) rfl ?_
  refine ps_get dX0_put_85 fl_X0_14 hw rfl rfl (q := 88) rfl ?_
  refine pp_iload dX0_put_88 rfl (q := 90) rfl ?_
  refine pp_iconst dX0_put_90 ci_4 (q := 91) rfl ?_
  refine ps_callVi dX0_put_91 lk_X0_37 (by exact hw) (by rfl) (by rfl) (by rfl) (c_get (w := w) (r := 0) (n := bL B) (i := bL B - 1) (j := 4) hw hR0 (by omega) (by decide)) (by rfl) (by exact Nat.le_of_ble_eq_true rfl) (by decide) (by decide) (by exact Nat.le_of_ble_eq_true rfl) (q := 94) rfl (fun r91 g91 h91 => ?_)
  obtain ⟨rfl, rfl⟩ := And.intro h91.1.symm h91.2.symm
  refine pp_iconst dX0_put_94 ci_1 (q := 95) rfl ?_
  refine pp_iadd dX0_put_95 (q := 96) rfl ?_
  refine ps_callVv dX0_put_96 lk_X0_45 (by exact hw) (by rfl) (by rfl) (by rfl) (c_set (w := w) (r := 0) (n := bL B) (i := bL B - 1) (j := 4) hw hR0 (by omega) (by decide)) (by rfl) (by exact Nat.le_of_ble_eq_true rfl) (by decide) (by decide) (by exact Nat.le_of_ble_eq_true rfl) (q := 99) rfl (fun g96 h96 => ?_)
  have h96 := h96.symm
  subst h96
  refine rv_ret dX0_put_99 rfl ?_
  exact ⟨RB_put hB hnl hroom, EqX_put⟩
theorem RB_edB {g : Sg} {w l : Nat} {B : Bk} (hB : RB g w B) (hl : l < bL B) : RB (sI (rset g w 0 l 5 (nI 1)) (13, w, 0) 2 (gI (rset g w 0 l 5 (nI 1)) (13, w, 0) 2 + nI 1)) w (edB B l) ∧ EqX (bkS w) g (sI (rset g w 0 l 5 (nI 1)) (13, w, 0) 2 (gI (rset g w 0 l 5 (nI 1)) (13, w, 0) 2 + nI 1)) := by
  refine ⟨?_, (EqX.rf.rset ⟨rfl, Or.inr (Or.inr rfl), by exact Nat.le_of_ble_eq_true rfl⟩).sI ⟨rfl, Or.inl rfl, by exact Nat.le_of_ble_eq_true rfl⟩⟩
  obtain ⟨h1, h2, h3, h4, h5, h6⟩ := hB
  have g2 : gI (rset g w 0 l 5 (nI 1)) (13, w, 0) 2 = nI (bD B) := h3
  have g3 : gI (rset g w 0 l 5 (nI 1)) (13, w, 0) 3 = nI (bX B) := h4
  refine ⟨h1, h2, ?_, ?_, fun l' c hl' hc => ?_, fun p c hp hc => ?_⟩
  · rw [gI_sI, g2]; rw [if_pos ⟨rfl, rfl⟩, nI_add]; rfl
  · rw [gI_sI, g2]; rw [if_neg (fun h => by cases h.2)]; exact g3
  · have hc0 : c < wdN 0 := hc
    show rv (rset g w 0 l 5 (nI 1)) w 0 l' c = if l' = l ∧ c = 5 then _ else _
    rw [rv_rset (by decide) hc0]
    simp only [true_and]
    by_cases h : l' = l ∧ c = 5
    · rw [if_pos h, if_pos h]
    · rw [if_neg h, if_neg h]; exact h5 l' c hl' hc
  · have hc0 : c < wdN 1 := hc
    show rv (rset g w 0 l 5 (nI 1)) w 1 p c = _
    rw [rv_rset (by decide) hc0]
    simp only [show ¬ (1 = 0) by decide, false_and, and_false, if_false]
    exact h6 p c hp hc
set_option maxRecDepth 20000 in
set_option maxHeartbeats 4000000 in
theorem c_endD {ad : Nm → Nat} {g : Sg} {w : Nat} {l : Nat} {B : Bk} (hw : al g (10, w, 0)) (hB : RB g w B) (hl : l < bL B) : PS mX0_endAsDelivered 0 (ent mX0_endAsDelivered [.ref (ad (13, w, 0)), .int (nI l)]) [] ad g (Rv (fun g' => RB g' w (edB B l) ∧ EqX (bkS w) g g')) := by
  show PP mX0_endAsDelivered 0 [some (.ref (ad (13, w, 0))), some (.int (nI l))] [] (Rel ad g) _
  refine pp_aload_n dX0_endAsDelivered_0 rfl isRf_r (q := 1) rfl ?_
  refine ps_get dX0_endAsDelivered_1 fl_X0_14 hw rfl rfl (q := 4) rfl ?_
  refine pp_iload_n dX0_endAsDelivered_4 rfl (q := 5) rfl ?_
  refine pp_iconst dX0_endAsDelivered_5 ci_5 (q := 6) rfl ?_
  refine pp_iconst dX0_endAsDelivered_6 ci_1 (q := 7) rfl ?_
  refine ps_callVv dX0_endAsDelivered_7 lk_X0_45 (by exact hw) (by rfl) (by rfl) (by rfl) (c_set (w := w) (r := 0) (j := 5) hw hB.1 hl (by decide)) (by rfl) (by exact Nat.le_of_ble_eq_true rfl) (by decide) (by decide) (by exact Nat.le_of_ble_eq_true rfl) (q := 10) rfl (fun g7 h7 => ?_)
  have h7 := h7.symm
  subst h7
  refine pp_aload_n dX0_endAsDelivered_10 rfl isRf_r (q := 11) rfl ?_
  refine pp_dup dX0_endAsDelivered_11 rfl (q := 12) rfl ?_
  refine ps_get dX0_endAsDelivered_12 fl_X0_23 hw rfl rfl (q := 15) rfl ?_
  refine pp_iconst dX0_endAsDelivered_15 ci_1 (q := 16) rfl ?_
  refine pp_iadd dX0_endAsDelivered_16 (q := 17) rfl ?_
  refine ps_puti dX0_endAsDelivered_17 fl_X0_23 hw rfl (by exact Nat.le_of_ble_eq_true rfl) rfl rfl rfl (q := 20) rfl ?_
  refine rv_ret dX0_endAsDelivered_20 rfl ?_
  exact RB_edB hB hl
theorem RB_exB {g : Sg} {w l : Nat} {B : Bk} (hB : RB g w B) (hl : l < bL B) : RB (sI (rset g w 0 l 5 (nI 2)) (13, w, 0) 3 (gI (rset g w 0 l 5 (nI 2)) (13, w, 0) 3 + nI 1)) w (exB B l) ∧ EqX (bkS w) g (sI (rset g w 0 l 5 (nI 2)) (13, w, 0) 3 (gI (rset g w 0 l 5 (nI 2)) (13, w, 0) 3 + nI 1)) := by
  refine ⟨?_, (EqX.rf.rset ⟨rfl, Or.inr (Or.inr rfl), by exact Nat.le_of_ble_eq_true rfl⟩).sI ⟨rfl, Or.inl rfl, by exact Nat.le_of_ble_eq_true rfl⟩⟩
  obtain ⟨h1, h2, h3, h4, h5, h6⟩ := hB
  have g2 : gI (rset g w 0 l 5 (nI 2)) (13, w, 0) 2 = nI (bD B) := h3
  have g3 : gI (rset g w 0 l 5 (nI 2)) (13, w, 0) 3 = nI (bX B) := h4
  refine ⟨h1, h2, ?_, ?_, fun l' c hl' hc => ?_, fun p c hp hc => ?_⟩
  · rw [gI_sI, g3]; rw [if_neg (fun h => by cases h.2)]; exact g2
  · rw [gI_sI, g3]; rw [if_pos ⟨rfl, rfl⟩, nI_add]; rfl
  · have hc0 : c < wdN 0 := hc
    show rv (rset g w 0 l 5 (nI 2)) w 0 l' c = if l' = l ∧ c = 5 then _ else _
    rw [rv_rset (by decide) hc0]
    simp only [true_and]
    by_cases h : l' = l ∧ c = 5
    · rw [if_pos h, if_pos h]
    · rw [if_neg h, if_neg h]; exact h5 l' c hl' hc
  · have hc0 : c < wdN 1 := hc
    show rv (rset g w 0 l 5 (nI 2)) w 1 p c = _
    rw [rv_rset (by decide) hc0]
    simp only [show ¬ (1 = 0) by decide, false_and, and_false, if_false]
    exact h6 p c hp hc
set_option maxRecDepth 20000 in
set_option maxHeartbeats 4000000 in
theorem c_endX {ad : Nm → Nat} {g : Sg} {w : Nat} {l : Nat} {B : Bk} (hw : al g (10, w, 0)) (hB : RB g w B) (hl : l < bL B) : PS mX0_endAsLost 0 (ent mX0_endAsLost [.ref (ad (13, w, 0)), .int (nI l)]) [] ad g (Rv (fun g' => RB g' w (exB B l) ∧ EqX (bkS w) g g')) := by
  show PP mX0_endAsLost 0 [some (.ref (ad (13, w, 0))), some (.int (nI l))] [] (Rel ad g) _
  refine pp_aload_n dX0_endAsLost_0 rfl isRf_r (q := 1) rfl ?_
  refine ps_get dX0_endAsLost_1 fl_X0_14 hw rfl rfl (q := 4) rfl ?_
  refine pp_iload_n dX0_endAsLost_4 rfl (q := 5) rfl ?_
  refine pp_iconst dX0_endAsLost_5 ci_5 (q := 6) rfl ?_
  refine pp_iconst dX0_endAsLost_6 ci_2 (q := 7) rfl ?_
  refine ps_callVv dX0_endAsLost_7 lk_X0_45 (by exact hw) (by rfl) (by rfl) (by rfl) (c_set (w := w) (r := 0) (j := 5) hw hB.1 hl (by decide)) (by rfl) (by exact Nat.le_of_ble_eq_true rfl) (by decide) (by decide) (by exact Nat.le_of_ble_eq_true rfl) (q := 10) rfl (fun g7 h7 => ?_)
  have h7 := h7.symm
  subst h7
  refine pp_aload_n dX0_endAsLost_10 rfl isRf_r (q := 11) rfl ?_
  refine pp_dup dX0_endAsLost_11 rfl (q := 12) rfl ?_
  refine ps_get dX0_endAsLost_12 fl_X0_27 hw rfl rfl (q := 15) rfl ?_
  refine pp_iconst dX0_endAsLost_15 ci_1 (q := 16) rfl ?_
  refine pp_iadd dX0_endAsLost_16 (q := 17) rfl ?_
  refine ps_puti dX0_endAsLost_17 fl_X0_27 hw rfl (by exact Nat.le_of_ble_eq_true rfl) rfl rfl rfl (q := 20) rfl ?_
  refine rv_ret dX0_endAsLost_20 rfl ?_
  exact RB_exB hB hl
def usel (B : Bk) : Nat → Bool := fun l => decide (bl B l 5 = 0)
theorem sel_get {c : Nat → Bool} {i n : Nat} (hi : i < n) (hc : c i = true) : (sel c n)[(sel c i).length]? = some i := by
  obtain ⟨d, rfl⟩ : ∃ d, n = i + 1 + d := ⟨n - i - 1, by omega⟩
  induction d with
  | zero => show (sel c (i + 1))[_]? = _; rw [sel_s, if_pos hc]; simp
  | succ d ih =>
    have h1 := ih (by omega)
    show (sel c (i + 1 + d + 1))[_]? = _
    rw [sel_s]
    split
    · rw [List.getElem?_append_left ((List.getElem?_eq_some_iff.mp h1).1)]; exact h1
    · exact h1
set_option maxRecDepth 20000 in
set_option maxHeartbeats 4000000 in
theorem l_nth {ad : Nm → Nat} {g : Sg} {w k : Nat} {B : Bk} (hw : al g (10, w, 0)) (hB : RB g w B) (hkb : k < 2 ^ 31) : ∀ (j i : Nat), bL B - i < j → i ≤ bL B → (sel (usel B) i).length ≤ k → PS mX0_nthUnderWay 4 [some (.ref (ad (13, w, 0))), some (.int (nI k)), some (.int (nI (sel (usel B) i).length)), some (.int (nI i))] [] ad g (Ri (fun v g' => v = oI ((sel (usel B) (bL B))[k]?) ∧ g' = g)) := by
  have hbd := hB.bd
  intro j
  induction j with
  | zero => intro i h; omega
  | succ j ih =>
    intro i hij hik hsk
    refine pp_iload_n dX0_nthUnderWay_4 rfl (q := 5) rfl ?_
    refine pp_aload_n dX0_nthUnderWay_5 rfl isRf_r (q := 6) rfl ?_
    refine ps_get dX0_nthUnderWay_6 fl_X0_14 hw rfl rfl (q := 9) rfl ?_
    refine ps_get dX0_nthUnderWay_9 fl_X0_30 hw rfl rfl (q := 12) rfl ?_
    rw [hB.1.2.1]
    refine pp_icmp_ge (tgt := 43) dX0_nthUnderWay_12 (by decide) (q := 15) rfl (fun c12 => ?_) (fun c12 => ?_)
    · have e : i = bL B := by have := leT c12 (by omega) (by omega); omega
      subst e
      refine pp_iconst dX0_nthUnderWay_43 ci_m1 (q := 44) rfl ?_
      refine ri_ret dX0_nthUnderWay_44 rfl rfl ⟨?_, rfl⟩
      rw [List.getElem?_eq_none (by omega)]; rfl
    · have hlt := leF c12 (by omega) (by omega)
      have hsl := sel_le (usel B) i
      refine pp_aload_n dX0_nthUnderWay_15 rfl isRf_r (q := 16) rfl ?_
      refine ps_get dX0_nthUnderWay_16 fl_X0_14 hw rfl rfl (q := 19) rfl ?_
      refine pp_iload_n dX0_nthUnderWay_19 rfl (q := 20) rfl ?_
      refine pp_iconst dX0_nthUnderWay_20 ci_5 (q := 21) rfl ?_
      refine ps_callVi dX0_nthUnderWay_21 lk_X0_37 (by exact hw) (by rfl) (by rfl) (by rfl) (c_get (w := w) (r := 0) (j := 5) hw hB.1 hlt (by decide)) (by rfl) (by exact Nat.le_of_ble_eq_true rfl) (by decide) (by decide) (by exact Nat.le_of_ble_eq_true rfl) (q := 24) rfl (fun r21 g21 h21 => ?_)
      obtain ⟨rfl, rfl⟩ := And.intro h21.1.symm h21.2.symm
      rw [hB.2.2.2.2.1 i 5 hlt (by decide)]
      refine pp_if_ne (tgt := 37) dX0_nthUnderWay_24 (by decide) (q := 27) rfl (fun c24 => ?_) (fun c24 => ?_)
      · have hsel : usel B i = false := by unfold usel; simp [c24]
        refine pp_iinc dX0_nthUnderWay_37 rfl (nI_1 _) (ls1_3 (nl1 rfl)) (q := 40) rfl ?_
        refine pp_goto (tgt := 4) dX0_nthUnderWay_40 (by decide) ?_
        have hh := ih (i + 1) (by omega) (by omega) (by rw [sel_s, hsel]; first | (simp; omega) | simpa using hsk)
        rw [sel_s, hsel] at hh
        first
          | exact hh
          | (rw [if_pos rfl, List.length_append] at hh; exact hh)
      · have hsel : usel B i = true := by unfold usel; simp [c24]
        refine pp_iload_n dX0_nthUnderWay_27 rfl (q := 28) rfl ?_
        refine pp_iload_n dX0_nthUnderWay_28 rfl (q := 29) rfl ?_
        refine pp_icmp_ne (tgt := 34) dX0_nthUnderWay_29 (by decide) (q := 32) rfl (fun c29 => ?_) (fun c29 => ?_)
        · have hne := eqF c29
          refine pp_iinc dX0_nthUnderWay_34 rfl (nI_1 _) (ls1_2 (nl1 rfl)) (q := 37) rfl ?_
          refine pp_iinc dX0_nthUnderWay_37 rfl (nI_1 _) (ls1_3 (nl1 rfl)) (q := 40) rfl ?_
          refine pp_goto (tgt := 4) dX0_nthUnderWay_40 (by decide) ?_
          have hh := ih (i + 1) (by omega) (by omega) (by rw [sel_s, hsel]; first | (simp; omega) | simpa using hsk)
          rw [sel_s, hsel] at hh
          first
            | exact hh
            | (rw [if_pos rfl, List.length_append] at hh; exact hh)
        · have hke := eqT c29 (by omega) hkb
          refine pp_iload_n dX0_nthUnderWay_32 rfl (q := 33) rfl ?_
          refine ri_ret dX0_nthUnderWay_33 rfl rfl ?_
          exact ⟨by rw [← hke, sel_get hlt hsel]; rfl, rfl⟩
set_option maxRecDepth 20000 in
set_option maxHeartbeats 4000000 in
theorem c_nth {ad : Nm → Nat} {g : Sg} {w : Nat} {k : Nat} {B : Bk} (hw : al g (10, w, 0)) (hB : RB g w B) (hkb : k < 2 ^ 31) : PS mX0_nthUnderWay 0 (ent mX0_nthUnderWay [.ref (ad (13, w, 0)), .int (nI k)]) [] ad g (Ri (fun v g' => v = oI ((sel (usel B) (bL B))[k]?) ∧ g' = g)) := by
  show PP mX0_nthUnderWay 0 [some (.ref (ad (13, w, 0))), some (.int (nI k)), none, none] [] (Rel ad g) _
  refine pp_iconst dX0_nthUnderWay_0 ci_0 (q := 1) rfl ?_
  refine pp_istore_n dX0_nthUnderWay_1 (by decide) (ls1_2 (nl1 rfl)) (q := 2) rfl ?_
  refine pp_iconst dX0_nthUnderWay_2 ci_0 (q := 3) rfl ?_
  refine pp_istore_n dX0_nthUnderWay_3 (by decide) (ls1_3 (nl1 rfl)) (q := 4) rfl ?_
  exact l_nth hw hB hkb (bL B + 1) 0 (by omega) (by omega) (by simp [sel])
set_option maxRecDepth 20000 in
set_option maxHeartbeats 4000000 in
theorem c_clearB {ad : Nm → Nat} {g : Sg} {w : Nat} (hw : al g (10, w, 0)) : PS mX0_clear 0 (ent mX0_clear [.ref (ad (13, w, 0))]) [] ad g (Rv (fun g' => g' = sI (sI (sI (sI g (20, w, 0) 3 (nI 0)) (20, w, 1) 3 (nI 0)) (13, w, 0) 2 (nI 0)) (13, w, 0) 3 (nI 0))) := by
  show PP mX0_clear 0 [some (.ref (ad (13, w, 0)))] [] (Rel ad g) _
  refine pp_aload_n dX0_clear_0 rfl isRf_r (q := 1) rfl ?_
  refine ps_get dX0_clear_1 fl_X0_14 hw rfl rfl (q := 4) rfl ?_
  refine pp_iconst dX0_clear_4 ci_0 (q := 5) rfl ?_
  refine ps_puti dX0_clear_5 fl_X0_30 hw rfl (by exact Nat.le_of_ble_eq_true rfl) rfl rfl rfl (q := 8) rfl ?_
  refine pp_aload_n dX0_clear_8 rfl isRf_r (q := 9) rfl ?_
  refine ps_get dX0_clear_9 fl_X0_20 hw rfl rfl (q := 12) rfl ?_
  refine pp_iconst dX0_clear_12 ci_0 (q := 13) rfl ?_
  refine ps_puti dX0_clear_13 fl_X0_30 hw rfl (by exact Nat.le_of_ble_eq_true rfl) rfl rfl rfl (q := 16) rfl ?_
  refine pp_aload_n dX0_clear_16 rfl isRf_r (q := 17) rfl ?_
  refine pp_iconst dX0_clear_17 ci_0 (q := 18) rfl ?_
  refine ps_puti dX0_clear_18 fl_X0_23 hw rfl (by exact Nat.le_of_ble_eq_true rfl) rfl rfl rfl (q := 21) rfl ?_
  refine pp_aload_n dX0_clear_21 rfl isRf_r (q := 22) rfl ?_
  refine pp_iconst dX0_clear_22 ci_0 (q := 23) rfl ?_
  refine ps_puti dX0_clear_23 fl_X0_27 hw rfl (by exact Nat.le_of_ble_eq_true rfl) rfl rfl rfl (q := 26) rfl ?_
  refine rv_ret dX0_clear_26 rfl ?_
  exact rfl
