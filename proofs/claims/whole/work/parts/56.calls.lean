/-! the calls of the roll, by what it holds -/
def stY (S : CS) (Y : List Int32) : CS := (S.1, S.2.1, S.2.2.1, S.2.2.2.1, Y, S.2.2.2.2.2)
def stT (S : CS) (T : Nat → Int32) : CS := (S.1, S.2.1, S.2.2.1, S.2.2.2.1, S.2.2.2.2.1, T)
def spImage (S : CS) : Int32 × CS := (nI (sH S).length, (S.1, some S.1, S.2.2))
def spBack (S : CS) : Int32 × CS := match S.2.1 with
  | none => rfS S 9
  | some K => (nI K.length, (K, some K, S.2.2))
def spReplay (S : CS) : Int32 × CS := (nI 1, S)
def spAgain (S : CS) : Int32 × CS := (sLt S, (S.1, S.2.1, S.2.2.1, -7, S.2.2.2.2))
noncomputable def spCopy (m fr n to : Int32) (S : CS) : Int32 × CS := ((anS S (qCopy (runA (sH S)) m fr n to)).1, stT (anS S (qCopy (runA (sH S)) m fr n to)).2 (cpT (runA (sH S)) (sT S) m fr n to))
noncomputable def wyS (S : CS) (m x : Int32) : List Int32 := wyL (aB (runA (sH S))) x 1200 (((runA (sH S)).1 (cl m)).2.2 35 (cl x))
noncomputable def spWay (m x : Int32) (S : CS) : Int32 × CS := match qN (runA (sH S)) m x (.inr 0) with
  | .inl k => rfS S k
  | .inr _ => (nI (wyS S m x).length, stY S (wyS S m x))
noncomputable def spForge (i l : Int32) (S : CS) : Int32 × CS := cIf (inR i (sY S).length) (nI 1, stY S ((sY S).set (cl i) l)) (rfS S 3)
theorem x_letters {sz : Nat} {ad : Nm → Nat} {g : Sg} {S : CS} {a : Int32} (hR : RC g S) (hc : Cst sz g) : PP mX6_letters 0 (ent mX6_letters [.ref (ad (0, 0, 0)), .int a]) [] (Rel ad g) (CQ sz ad g (anS S (qLetters (aB (runA (sH S))) a))) := QR.cq (c_letters hR.1 hR.a) hR hc
theorem x_under {sz : Nat} {ad : Nm → Nat} {g : Sg} {S : CS} {a : Int32} (hR : RC g S) (hc : Cst sz g) : PP mX6_underWay 0 (ent mX6_underWay [.ref (ad (0, 0, 0)), .int a]) [] (Rel ad g) (CQ sz ad g (anS S (qUnder (aB (runA (sH S))) a))) := QR.cq (c_under hR.1 hR.a) hR hc
theorem x_letter {sz : Nat} {ad : Nm → Nat} {g : Sg} {S : CS} {a b : Int32} (hR : RC g S) (hc : Cst sz g) : PP mX6_letter 0 (ent mX6_letter [.ref (ad (0, 0, 0)), .int a, .int b]) [] (Rel ad g) (CQ sz ad g (anS S (qLetter (aB (runA (sH S))) a b))) := QR.cq (c_letter hR.1 hR.a) hR hc
theorem x_carries {sz : Nat} {ad : Nm → Nat} {g : Sg} {S : CS} {a b c : Int32} (hR : RC g S) (hc : Cst sz g) : PP mX6_carries 0 (ent mX6_carries [.ref (ad (0, 0, 0)), .int a, .int b, .int c]) [] (Rel ad g) (CQ sz ad g (anS S (qCarr (aB (runA (sH S))) a b c))) := QR.cq (c_carries hR.1 hR.a hR.i.1.lt) hR hc
theorem x_state {sz : Nat} {ad : Nm → Nat} {g : Sg} {S : CS} {a b : Int32} (hR : RC g S) (hc : Cst sz g) : PP mX6_state 0 (ent mX6_state [.ref (ad (0, 0, 0)), .int a, .int b]) [] (Rel ad g) (CQ sz ad g (anS S (qState (runA (sH S)) a b))) := QR.cq (c_state hR.1 hR.a) hR hc
theorem x_news {sz : Nat} {ad : Nm → Nat} {g : Sg} {S : CS} {a b c : Int32} (hR : RC g S) (hc : Cst sz g) : PP mX6_news 0 (ent mX6_news [.ref (ad (0, 0, 0)), .int a, .int b, .int c]) [] (Rel ad g) (CQ sz ad g (anS S (qNews (runA (sH S)) a b c))) := QR.cq (c_news hR.1 hR.a) hR hc
theorem x_as {sz : Nat} {ad : Nm → Nat} {g : Sg} {S : CS} {a b c : Int32} (hR : RC g S) (hc : Cst sz g) : PP mX6_as 0 (ent mX6_as [.ref (ad (0, 0, 0)), .int a, .int b, .int c]) [] (Rel ad g) (CQ sz ad g (anS S (qAs (runA (sH S)) a b c))) := QR.cq (c_as hR.1 hR.a) hR hc
theorem x_round {sz : Nat} {ad : Nm → Nat} {g : Sg} {S : CS} {a b : Int32} (hR : RC g S) (hc : Cst sz g) : PP mX6_round 0 (ent mX6_round [.ref (ad (0, 0, 0)), .int a, .int b]) [] (Rel ad g) (CQ sz ad g (anS S (qRound (runA (sH S)) a b))) := QR.cq (c_round hR.1 hR.a) hR hc
theorem x_table {sz : Nat} {ad : Nm → Nat} {g : Sg} {S : CS} {a : Int32} (hR : RC g S) (hc : Cst sz g) : PP mX6_table 0 (ent mX6_table [.ref (ad (0, 0, 0)), .int a]) [] (Rel ad g) (CQ sz ad g (anS S (qTable (sT S) a))) := QR.cq (c_table hR.1 hR.a hR.2.2.2.2.2.2.2) hR hc
theorem x_agree {sz : Nat} {ad : Nm → Nat} {g : Sg} {S : CS}  (hR : RC g S) (hc : Cst sz g) : PP mX6_agree 0 (ent mX6_agree [.ref (ad (0, 0, 0))]) [] (Rel ad g) (CQ sz ad g (anS S (qAgree (runA (sH S))))) := QR.cq (c_agree hR.1 hR.a) hR hc
theorem x_apart {sz : Nat} {ad : Nm → Nat} {g : Sg} {S : CS} {a : Int32} (hR : RC g S) (hc : Cst sz g) : PP mX6_apart 0 (ent mX6_apart [.ref (ad (0, 0, 0)), .int a]) [] (Rel ad g) (CQ sz ad g (anS S (qApart (runA (sH S)) a))) := QR.cq (c_apart hR.1 hR.a) hR hc
theorem x_count {sz : Nat} {ad : Nm → Nat} {g : Sg} {S : CS} {a b : Int32} (hR : RC g S) (hc : Cst sz g) : PP mX6_count 0 (ent mX6_count [.ref (ad (0, 0, 0)), .int a, .int b]) [] (Rel ad g) (CQ sz ad g (anS S (qCount (runA (sH S)) a b))) := QR.cq (c_count hR.1 hR.a) hR hc
theorem x_wayAt {sz : Nat} {ad : Nm → Nat} {g : Sg} {S : CS} {a : Int32} (hR : RC g S) (hc : Cst sz g) : PP mX6_wayAt 0 (ent mX6_wayAt [.ref (ad (0, 0, 0)), .int a]) [] (Rel ad g) (CQ sz ad g (anS S (qWayAt (sY S) a))) := QR.cq (c_wayAt hR.1 hR.a hR.2.2.2.2.2.2.1) hR hc
theorem x_check {sz : Nat} {ad : Nm → Nat} {g : Sg} {S : CS} {a b c d : Int32} (hR : RC g S) (hc : Cst sz g) : PP mX6_check 0 (ent mX6_check [.ref (ad (0, 0, 0)), .int a, .int b, .int c, .int d]) [] (Rel ad g) (CQ sz ad g (anS S (qCheck (runA (sH S)) (sY S) a b c d))) := QR.cq (c_check hR.1 hR.a hR.2.2.2.2.2.2.1 hR.i.1.lt) hR hc
theorem x_trace {sz : Nat} {ad : Nm → Nat} {g : Sg} {S : CS} {a : Int32} (hR : RC g S) (hc : Cst sz g) : PP mX6_trace 0 (ent mX6_trace [.ref (ad (0, 0, 0)), .int a]) [] (Rel ad g) (CQ sz ad g (anS S (qTrace (runA (sH S)) a))) := QR.cq (c_trace hR.1 hR.a) hR hc
theorem x_status {sz : Nat} {ad : Nm → Nat} {g : Sg} {S : CS} {a : Int32} (hR : RC g S) (hc : Cst sz g) : PP mX6_status 0 (ent mX6_status [.ref (ad (0, 0, 0)), .int a]) [] (Rel ad g) (CQ sz ad g (anS S (qStatus (sH S).length (sC S) a))) := QR.cq (c_status hR.1 hR.a hR.2.1.2.2.1.1.2.1 hR.2.2.2.2.1) hR hc
theorem QR.sm {g g1 : Sg} {q : Nat ⊕ Int32} {v : Int32} {S : CS} (hR : RC g S) (h : QR g q v g1) : v = (anS S q).1 ∧ RC g1 (anS S q).2 ∧ EqX smS g g1 := by
  cases q with
  | inl k =>
    obtain ⟨hk, rfl, rfl⟩ := h
    exact ⟨rfl, RC_rf hR hk.1, keG_x⟩
  | inr x =>
    obtain ⟨rfl, rfl⟩ := h
    exact ⟨rfl, hR, EqX.rf⟩
theorem smS_c {n : Nm} (q : smS n) : n.1 < 40 := by unfold smS at q; omega
theorem x_next {sz : Nat} {ad : Nm → Nat} {g : Sg} {S : CS} {a : Int32} (hR : RC g S) (hc : Cst sz g) : PP mX6_next 0 (ent mX6_next [.ref (ad (0, 0, 0)), .int a]) [] (Rel ad g) (CQ sz ad g (anS S (qNext (runA (sH S)) a))) := by
  refine (c_next hR.1 hR.a hR.i.x.2).weak (fun v G hG => ?_)
  obtain ⟨g', h1, r, rfl, g1, h2, h3⟩ := hG
  obtain ⟨rfl, hR1, hE⟩ := QR.sm hR h2
  have h3' : EqX smS g1 g' := h3.mono (fun n q => by subst q; exact Or.inr (Or.inr (Or.inr rfl)))
  refine ⟨ad, g', h1, rfl, hR1.sm h3' rfl rfl rfl (fun k hk => ?_) ?_ (fun i hi => ?_), (hE.tr h3').cst hc, (hE.tr h3').c (fun n q => smS_c q)⟩
  · rw [(h3.1 (2, 0, 0) (fun q => by cases q)).2.2.1]; exact hR1.2.2.2.2.1 k hk
  · rw [(h3.1 (1, 0, 0) (fun q => by cases q)).1]; exact hR1.2.2.2.2.2.1
  · rw [(h3.1 (5, 0, 0) (fun q => by cases q)).2.2.1]; exact hR1.2.2.2.2.2.2.2 i hi
theorem x_copy {sz : Nat} {ad : Nm → Nat} {g : Sg} {S : CS} {a b c d : Int32} (hR : RC g S) (hc : Cst sz g) : PP mX6_copy 0 (ent mX6_copy [.ref (ad (0, 0, 0)), .int a, .int b, .int c, .int d]) [] (Rel ad g) (CQ sz ad g (spCopy a b c d S)) := by
  refine (c_copy hR.1 hR.a hR.2.2.2.2.2.2.2).weak (fun v G hG => ?_)
  obtain ⟨g', h1, r, rfl, g1, h2, h3, h4⟩ := hG
  obtain ⟨rfl, hR1, hE⟩ := QR.sm hR h2
  have h3' : EqX smS g1 g' := h3.mono (fun n q => by subst q; exact Or.inr (Or.inr (Or.inl rfl)))
  refine ⟨ad, g', h1, rfl, hR1.sm h3' rfl rfl rfl (fun k hk => ?_) ?_ (fun i hi => h4 i hi), (hE.tr h3').cst hc, (hE.tr h3').c (fun n q => smS_c q)⟩
  · rw [(h3.1 (2, 0, 0) (fun q => by cases q)).2.2.1]; exact hR1.2.2.2.2.1 k hk
  · rw [(h3.1 (1, 0, 0) (fun q => by cases q)).1]; exact hR1.2.2.2.2.2.1
theorem x_again {sz : Nat} {ad : Nm → Nat} {g : Sg} {S : CS} (hR : RC g S) (hc : Cst sz g) : PP mX6_again 0 (ent mX6_again [.ref (ad (0, 0, 0))]) [] (Rel ad g) (CQ sz ad g (spAgain S)) := by
  refine (c_again hR.1).weak (fun v G hG => ?_)
  obtain ⟨g', h1, r, rfl, rfl, rfl⟩ := hG
  have hE : EqX smS g (sI g (1, 0, 0) 1 (-7)) := EqX.rf.sI (Or.inl rfl)
  refine ⟨ad, _, h1, ?_, hR.sm hE rfl rfl rfl (fun k hk => hR.2.2.2.2.1 k hk) rfl (fun i hi => hR.2.2.2.2.2.2.2 i hi), hE.cst hc, hE.c (fun n q => smS_c q)⟩
  rw [hR.2.2.2.2.2.1]
  rfl
theorem RC_y {ad ad' : Nm → Nat} {g g' : Sg} {Y : List Int32} {S : CS} (hR : RC g S) (hE : EqY ad g ad' g') (hY : RY g' Y) : RC g' (stY S Y) := by
  obtain ⟨r1, ⟨r2, r3⟩, r4, r5, r6, r7, r8, r9⟩ := hR
  exact ⟨hE.1 _ r1, ⟨r2, hE.sm.rx r3⟩, hE.sm.kp r4, hE.sm.bs r5, fun k hk => by rw [(hE.2.2.1 (2, 0, 0) (by decide) (by decide)).2.2.1]; exact r6 k hk, by rw [(hE.2.2.1 (1, 0, 0) (by decide) (by decide)).1]; exact r7, hY, fun i hi => by rw [(hE.2.2.1 (5, 0, 0) (by decide) (by decide)).2.2.1]; exact r9 i hi⟩
theorem cst_y {sz : Nat} {ad ad' : Nm → Nat} {g g' : Sg} (hE : EqY ad g ad' g') (hc : Cst sz g) : Cst sz g' := by
  obtain ⟨c1, c2⟩ := hc
  have h5 := hE.2.2.2.2.1
  have h6 := hE.2.2.2.2.2
  unfold Cst
  rw [hE.sm.pw, hE.sm.pw, hE.sm.pw]
  constructor <;> omega
theorem x_way {sz : Nat} {ad : Nm → Nat} {g : Sg} {S : CS} {a b : Int32} (hR : RC g S) (hc : Cst sz g) : PP mX6_way 0 (ent mX6_way [.ref (ad (0, 0, 0)), .int a, .int b]) [] (Rel ad g) (CQ sz ad g (spWay a b S)) := by
  rcases whN (A := (runA (sH S))) a b with ⟨i, j, hi, hj, rfl, rfl, hd, hk⟩ | ⟨k, hk, hq, hwhy⟩
  · have hM := hR.i.m hi hd
    have hv : ((runA (sH S)).1 i).2.2 35 j = -1 ∨ ∃ l, l < bL (aB (runA (sH S))) ∧ ((runA (sH S)).1 i).2.2 35 j = nI l ∧ hasP (aB (runA (sH S))) l j := by
      rcases (hM.2.2.2.2.2 j hj).2.2.2 with h | h | ⟨l, h1, h2, h3⟩
      · exact Or.inl h
      · exact absurd h hk
      · exact Or.inr ⟨l, h1, h2, hasQ_P hR.i.1 h3⟩
    refine (c_way_ok hR.1 hR.a hR.2.2.2.2.2.2.1 hR.i.1.lt (hR.i.1.c hj) hR.i.1.1 hi hj hd hk hv).weak (fun v G hG => ?_)
    obtain ⟨ad', g', h1, rfl, hE, hY⟩ := hG
    have e : wyS S (nI i) (nI j) = wyL (aB (runA (sH S))) (nI j) 1200 (((runA (sH S)).1 i).2.2 35 j) := by
      unfold wyS
      rw [cl_nI (by omega), cl_nI (by omega)]
    have es : spWay (nI i) (nI j) S = (nI (wyS S (nI i) (nI j)).length, stY S (wyS S (nI i) (nI j))) := by
      unfold spWay
      rw [qN_ok hi hj hd hk]
    rw [es, e]
    exact ⟨ad', g', h1, rfl, RC_y hR hE hY, cst_y hE hc, hE.c⟩
  · refine (c_way_no hR.1 hR.a hk (hwhy hR.a)).weak (fun v G hG => ?_)
    obtain ⟨g', h1, r, rfl, rfl, rfl⟩ := hG
    have es : spWay a b S = rfS S k := by
      unfold spWay
      rw [hq]
    rw [es]
    exact ⟨ad, _, h1, rfl, RC_rf hR hk.1, keG_x.cst hc, keG_x.c (fun n q => smS_c q)⟩
theorem x_forge {sz : Nat} {ad : Nm → Nat} {g : Sg} {S : CS} {a b : Int32} (hR : RC g S) (hc : Cst sz g) : PP mX6_forge 0 (ent mX6_forge [.ref (ad (0, 0, 0)), .int a, .int b]) [] (Rel ad g) (CQ sz ad g (spForge a b S)) := by
  refine (c_forge hR.1 hR.a hR.2.2.2.2.2.2.1).weak (fun v G hG => ?_)
  obtain ⟨g', h1, r, rfl, h2⟩ := hG
  unfold spForge
  rcases h2 with ⟨h2, rfl, rfl⟩ | ⟨h2, rfl, h3, h4⟩
  · rw [cIf_f h2]
    exact ⟨ad, _, h1, rfl, RC_rf hR ⟨by omega, by omega⟩, keG_x.cst hc, keG_x.c (fun n q => smS_c q)⟩
  · rw [cIf_t h2]
    have hE : EqY ad g ad g' := h4.Y (fun n q => by subst q; exact Or.inr rfl)
    exact ⟨ad, g', h1, rfl, RC_y hR hE h3, cst_y hE hc, hE.c⟩
theorem RC_kp {ad ad' : Nm → Nat} {g g' : Sg} {S : CS} {K : List Act} (hR : RC g (S.1, some K, S.2.2)) (hE : EqW 1 ad g ad' g') (hX : RX g' 1 (runA (sH S)) (sH S)) : RC g' (S.1, some S.1, S.2.2) := RC_w (S' := (S.1, some S.1, S.2.2)) hR hE rfl ⟨hR.2.1.1, (hE.sm (by omega)).rx hR.2.1.2⟩ ⟨hR.2.1.1, hX⟩ ((hE.sm (by omega)).bs hR.2.2.2.1)
set_option maxRecDepth 20000 in
set_option maxHeartbeats 4000000 in
theorem t_img {sz : Nat} {ad : Nm → Nat} {g : Sg} {S : CS} {K : List Act} (hR : RC g (S.1, some K, S.2.2)) (hc : Cst sz g) : PP mX6_image 18 [some (.ref (ad (0, 0, 0)))] [] (Rel ad g) (CQ sz ad g (spImage S)) := by
  have hr := hR.1
  have hK := hR.2.2.1.2
  have hX := hR.2.1.2
  have hF1 : gF g (10, 1, 0) = true := hK.1.1.1
  refine pp_aload_n dX6_image_18 rfl isRf_r (q := 19) rfl ?_
  refine ps_get dX6_image_19 fl_X6_43 (by first | exact hr2 | exact hr) rfl rfl (q := 22) rfl ?_
  rw [if_pos hF1]
  change PP mX6_image 22 _ [Value.ref (ad (10, 1, 0))] _ _
  refine pp_aload_n dX6_image_22 rfl isRf_r (q := 23) rfl ?_
  refine ps_get dX6_image_23 fl_X6_10 (by first | exact hr2 | exact hr) rfl rfl (q := 26) rfl ?_
  refine ps_callVq dX6_image_26 lk_X6_208 (by exact hK.1.1) (by rfl) (by rfl) (by rfl) (c_becW hK hX (by omega) hR.i.1.1 hR.i.1.2.1 (okH_len hR.2.1.1)) (by rfl) (by exact Nat.le_of_ble_eq_true rfl) (by decide) (by decide) (by exact Nat.le_of_ble_eq_true rfl) (q := 29) rfl (fun v26 ad26 g26 h26 => ?_)
  obtain ⟨rfl, hE, hX2⟩ := h26
  have hr2 := hE.1 _ hr
  rw [← hE.2.1 (0, 0, 0) hr (by show 0 ≠ 21; omega)]
  change PP mX6_image 29 _ [] _ _
  refine pp_aload_n dX6_image_29 rfl isRf_r (q := 30) rfl ?_
  refine ps_get dX6_image_30 fl_X6_43 (by first | exact hr2 | exact hr) rfl rfl (q := 33) rfl ?_
  rw [if_pos (show gF g26 (10, 1, 0) = true from hX2.1.1.1)]
  change PP mX6_image 33 _ [Value.ref (ad26 (10, 1, 0))] _ _
  refine ps_get dX6_image_33 fl_X6_196 hX2.1.1 rfl rfl (q := 36) rfl ?_
  refine ps_get dX6_image_36 fl_X6_81 (by exact hX2.1.1) rfl rfl (q := 39) rfl ?_
  rw [hX2.2.1.1.2.1]
  refine pp_iret dX6_image_39 rfl rfl (fun G hG => ⟨_, _, hG, ?_⟩)
  exact ⟨rfl, RC_kp hR hE hX2, cst_w hE hK (by omega) hE.phy hc, hE.c⟩
set_option maxRecDepth 20000 in
set_option maxHeartbeats 4000000 in
theorem x_image0 {sz : Nat} {ad : Nm → Nat} {g : Sg} {S : CS} (hR : RC g S) (hc : Cst sz g) (hn : noW g 1) : PP mX6_image 0 (ent mX6_image [.ref (ad (0, 0, 0))]) [] (Rel ad g) (CQ sz ad g (spImage S)) := by
  have hr := hR.1
  show PP mX6_image 0 [some (.ref (ad (0, 0, 0)))] [] (Rel ad g) _
  refine pp_aload_n dX6_image_0 rfl isRf_r (q := 1) rfl ?_
  refine ps_get dX6_image_1 fl_X6_43 hr rfl rfl (q := 4) rfl ?_
  rw [if_neg hn.1]
  change PP mX6_image 4 _ [Value.null] _ _
  refine pp_ifnonnull_n dX6_image_4 (q := 7) rfl ?_
  refine t_mk1 hr hn rfl ?_
  rw [show (some (Value.ref (ad (0, 0, 0)))) = some (Value.ref (adW ad 1 (gZ g) (0, 0, 0))) by rw [mkW_ad hn.1 hr]]
  refine (t_img (mkW_rc1 hn hR) (mkW_cst (Or.inl rfl) hn hc)).weak (fun v G hG => ?_)
  obtain ⟨ad', g', k1, k2, k3, k4, k5⟩ := hG
  exact ⟨ad', g', k1, k2, k3, k4, (mkW_c hn.1).tr k5⟩
set_option maxRecDepth 20000 in
set_option maxHeartbeats 4000000 in
theorem x_image1 {sz : Nat} {ad : Nm → Nat} {g : Sg} {S : CS} {K : List Act} (hR : RC g S) (hc : Cst sz g) (hK : S.2.1 = some K) (hF1 : gF g (10, 1, 0) = true) : PP mX6_image 0 (ent mX6_image [.ref (ad (0, 0, 0))]) [] (Rel ad g) (CQ sz ad g (spImage S)) := by
  have hr := hR.1
  show PP mX6_image 0 [some (.ref (ad (0, 0, 0)))] [] (Rel ad g) _
  refine pp_aload_n dX6_image_0 rfl isRf_r (q := 1) rfl ?_
  refine ps_get dX6_image_1 fl_X6_43 hr rfl rfl (q := 4) rfl ?_
  rw [if_pos hF1]
  change PP mX6_image 4 _ [Value.ref (ad (10, 1, 0))] _ _
  refine pp_ifnonnull_r (tgt := 18) dX6_image_4 (by decide) ?_
  exact t_img (K := K) (by rw [← hK]; exact hR) hc
theorem x_image {sz : Nat} {ad : Nm → Nat} {g : Sg} {S : CS} (hR : RC g S) (hc : Cst sz g) : PP mX6_image 0 (ent mX6_image [.ref (ad (0, 0, 0))]) [] (Rel ad g) (CQ sz ad g (spImage S)) := by
  have hk := hR.2.2.1
  cases e : S.2.1 with
  | none =>
    unfold sK at hk
    rw [e] at hk
    exact x_image0 hR hc hk
  | some K =>
    unfold sK at hk
    rw [e] at hk
    exact x_image1 hR hc e hk.2.1.1.1
set_option maxRecDepth 20000 in
set_option maxHeartbeats 4000000 in
theorem x_back0 {sz : Nat} {ad : Nm → Nat} {g : Sg} {S : CS} (hR : RC g S) (hc : Cst sz g) (hK : S.2.1 = none) (hn : noW g 1) : PP mX6_back 0 (ent mX6_back [.ref (ad (0, 0, 0))]) [] (Rel ad g) (CQ sz ad g (spBack S)) := by
  have hr := hR.1
  have es : spBack S = rfS S 9 := by unfold spBack; rw [hK]
  show PP mX6_back 0 [some (.ref (ad (0, 0, 0)))] [] (Rel ad g) _
  refine pp_aload_n dX6_back_0 rfl isRf_r (q := 1) rfl ?_
  refine ps_get dX6_back_1 fl_X6_43 hr rfl rfl (q := 4) rfl ?_
  rw [if_neg hn.1]
  change PP mX6_back 4 _ [Value.null] _ _
  refine pp_ifnonnull_n dX6_back_4 (q := 7) rfl ?_
  refine pp_aload_n dX6_back_7 rfl isRf_r (q := 8) rfl ?_
  refine pp_bipush dX6_back_8 cb_m9 (q := 10) rfl ?_
  refine ps_callVi dX6_back_10 lk_X6_86 (by exact hr) (by rfl) (by rfl) (by rfl) (c_rf9 (by exact hr)) (by rfl) (by exact Nat.le_of_ble_eq_true rfl) (by decide) (by decide) (by exact Nat.le_of_ble_eq_true rfl) (q := 13) rfl (fun r10 g10 h10 => ?_)
  obtain ⟨rfl, rfl⟩ := And.intro h10.1.symm h10.2.symm
  refine pp_iret dX6_back_13 rfl rfl (fun G hG => ⟨_, _, hG, ?_⟩)
  rw [es]
  exact ⟨rfl, RC_rf hR ⟨by omega, by omega⟩, keG_x.cst hc, keG_x.c (fun n q => smS_c q)⟩
set_option maxRecDepth 20000 in
set_option maxHeartbeats 4000000 in
theorem x_back1 {sz : Nat} {ad : Nm → Nat} {g : Sg} {S : CS} {K : List Act} (hR : RC g S) (hc : Cst sz g) (hK : S.2.1 = some K) (hO : okH K) (hK2 : RX g 1 (runA K) K) : PP mX6_back 0 (ent mX6_back [.ref (ad (0, 0, 0))]) [] (Rel ad g) (CQ sz ad g (spBack S)) := by
  have hr := hR.1
  have hX := hR.2.1.2
  have hI := inv_run hO
  have hF1 : gF g (10, 1, 0) = true := hK2.1.1.1
  have es : spBack S = (nI K.length, (K, some K, S.2.2)) := by unfold spBack; rw [hK]
  show PP mX6_back 0 [some (.ref (ad (0, 0, 0)))] [] (Rel ad g) _
  refine pp_aload_n dX6_back_0 rfl isRf_r (q := 1) rfl ?_
  refine ps_get dX6_back_1 fl_X6_43 (by first | exact hr2 | exact hr) rfl rfl (q := 4) rfl ?_
  rw [if_pos hF1]
  change PP mX6_back 4 _ [Value.ref (ad (10, 1, 0))] _ _
  refine pp_ifnonnull_r (tgt := 14) dX6_back_4 (by decide) ?_
  refine pp_aload_n dX6_back_14 rfl isRf_r (q := 15) rfl ?_
  refine ps_get dX6_back_15 fl_X6_10 (by first | exact hr2 | exact hr) rfl rfl (q := 18) rfl ?_
  refine pp_aload_n dX6_back_18 rfl isRf_r (q := 19) rfl ?_
  refine ps_get dX6_back_19 fl_X6_43 (by first | exact hr2 | exact hr) rfl rfl (q := 22) rfl ?_
  rw [if_pos hF1]
  change PP mX6_back 22 _ [Value.ref (ad (10, 1, 0)), Value.ref (ad (10, 0, 0))] _ _
  refine ps_callVq dX6_back_22 lk_X6_208 (by exact hX.1.1) (by rfl) (by rfl) (by rfl) (c_becW hX hK2 (by omega) hI.1.1 hI.1.2.1 (okH_len hO)) (by rfl) (by exact Nat.le_of_ble_eq_true rfl) (by decide) (by decide) (by exact Nat.le_of_ble_eq_true rfl) (q := 25) rfl (fun v22 ad22 g22 h22 => ?_)
  obtain ⟨rfl, hE, hX2⟩ := h22
  have hr2 := hE.1 _ hr
  rw [← hE.2.1 (0, 0, 0) hr (by show 0 ≠ 21; omega)]
  change PP mX6_back 25 _ [] _ _
  refine pp_aload_n dX6_back_25 rfl isRf_r (q := 26) rfl ?_
  refine ps_get dX6_back_26 fl_X6_10 (by first | exact hr2 | exact hr) rfl rfl (q := 29) rfl ?_
  refine ps_get dX6_back_29 fl_X6_196 hX2.1.1 rfl rfl (q := 32) rfl ?_
  refine ps_get dX6_back_32 fl_X6_81 (by exact hX2.1.1) rfl rfl (q := 35) rfl ?_
  rw [hX2.2.1.1.2.1]
  refine pp_iret dX6_back_35 rfl rfl (fun G hG => ⟨_, _, hG, ?_⟩)
  rw [es]
  exact ⟨rfl, RC_w (S' := (K, some K, S.2.2)) hR hE rfl ⟨hO, hX2⟩ ⟨hO, (hE.sm (by omega)).rx hK2⟩ ((hE.sm (by omega)).bs hR.2.2.2.1), cst_w hE hX (by omega) hE.phy hc, hE.c⟩
theorem x_back {sz : Nat} {ad : Nm → Nat} {g : Sg} {S : CS} (hR : RC g S) (hc : Cst sz g) : PP mX6_back 0 (ent mX6_back [.ref (ad (0, 0, 0))]) [] (Rel ad g) (CQ sz ad g (spBack S)) := by
  have hk := hR.2.2.1
  cases e : S.2.1 with
  | none =>
    unfold sK at hk
    rw [e] at hk
    exact x_back0 hR hc e hk
  | some K =>
    unfold sK at hk
    rw [e] at hk
    exact x_back1 hR hc e hk.1 hk.2
theorem c_perfA {ad : Nm → Nat} {g : Sg} {w : Nat} {A : AW} {H : List Act} {v : Nat} {a b : Int32} {sd : Int64} (hv : 1 ≤ v ∧ v ≤ 11) (hX : RX g w A H) (hok : okX A) : PP mX5_perform 0 (ent mX5_perform [.ref (ad (10, w, 0)), .int (nI v), .int a, .int b, .long sd]) [] (Rel ad g) (PFQ w ad g A H v a b sd) := by
  obtain ⟨h1, h2⟩ := hv
  obtain rfl | rfl | rfl | rfl | rfl | rfl | rfl | rfl | rfl | rfl | rfl : v = 1 ∨ v = 2 ∨ v = 3 ∨ v = 4 ∨ v = 5 ∨ v = 6 ∨ v = 7 ∨ v = 8 ∨ v = 9 ∨ v = 10 ∨ v = 11 := by omega
  · exact c_perf1 hX hok
  · exact c_perf2 hX hok
  · exact c_perf3 hX hok
  · exact c_perf4 hX hok
  · exact c_perf5 hX hok
  · exact c_perf6 hX hok
  · exact c_perf7 hX hok
  · exact c_perf8 hX hok
  · exact c_perf9 hX hok
  · exact c_perf10 hX hok
  · exact c_perf11 hX hok
theorem seed_eq (s : Int64) : (hiS s).toInt64 <<< ((nI 32).toInt64 &&& 63) ||| (s.toInt32.toInt64 &&& (4294967295 : Int64)) = s := by
  unfold hiS
  rw [show ((nI 32).toInt64.toUInt64 &&& Int64.toUInt64 63) = 32 by decide, show ((nI 32).toInt64 &&& 63) = 32 by decide]
  apply Int64.toBitVec_inj.mp
  rw [Int64.toBitVec_or, Int64.toBitVec_and, Int64.toBitVec_shiftLeft]
  have e1 : ((32 : Int64).toBitVec.smod 64) = 32#64 := by decide
  rw [e1]
  have e2a : (s.toUInt64 >>> 32).toInt64.toBitVec = s.toBitVec >>> 32 := by
    apply BitVec.eq_of_toNat_eq
    show (s.toUInt64 >>> 32).toNat = _
    rw [UInt64.toNat_shiftRight, BitVec.toNat_ushiftRight]
    rfl
  have e2b : ∀ x : Int64, x.toInt32.toInt64.toBitVec = (x.toBitVec.setWidth 32).signExtend 64 := fun x => by
    show (x.toBitVec.signExtend 32).signExtend 64 = _
    rw [BitVec.signExtend_eq_setWidth_of_le (w := 64) (v := 32) x.toBitVec (by omega)]
  have e2 : (s.toUInt64 >>> 32).toInt64.toInt32.toInt64.toBitVec = ((s.toBitVec >>> 32).setWidth 32).signExtend 64 := by rw [e2b, e2a]
  have e3 : s.toInt32.toInt64.toBitVec = (s.toBitVec.setWidth 32).signExtend 64 := e2b s
  have e4 : (4294967295 : Int64).toBitVec = 4294967295#64 := rfl
  rw [e2, e3, e4]
  apply BitVec.eq_of_getLsbD_eq
  intro i hi
  have e5 : ∀ i, i < 64 → (4294967295#64).getLsbD i = decide (i < 32) := by decide
  have e6 : ∀ x : BitVec 64, x <<< 32#64 = x <<< 32 := fun _ => rfl
  rw [BitVec.getLsbD_or, BitVec.getLsbD_and, e6, BitVec.getLsbD_shiftLeft, e5 i hi, BitVec.getLsbD_signExtend, BitVec.getLsbD_signExtend]
  by_cases h : i < 32
  · simp [h, hi, BitVec.getLsbD_setWidth]
  · have h1 : i - 32 < 32 := by omega
    have h2 : 32 + (i - 32) = i := by omega
    simp [h, hi, h1, BitVec.getLsbD_setWidth, BitVec.getLsbD_ushiftRight, h2]
    try omega
set_option maxRecDepth 20000 in
set_option maxHeartbeats 4000000 in
theorem s_rep {ad1 : Nm → Nat} {g1 : Sg} {A : AW} {H : List Act} {i v : Nat} {h : Act} {Q : Option Value → PH → Prop} (hr : al g1 (0, 0, 0)) (hX0 : RX g1 0 A H) (hB : RX g1 2 (runA (H.take i)) (H.take i)) (hok : okX (runA (H.take i))) (hi : i < H.length) (hh : H[i]? = some h) (hv : 1 ≤ v ∧ v ≤ 11) (hv1 : h.1 = nI v) (hw : whyA (runA (H.take i)) i v h.2.1 h.2.2.1 = nI 0) (hk : ∀ ad2 g2, EqW 2 ad1 g1 ad2 g2 → RX g2 2 (runA (H.take (i + 1))) (H.take (i + 1)) → ∀ x3 x4 x5 x6 x7 x8, PP mX6_replay 35 [some (.ref (ad2 (0, 0, 0))), some (.ref (ad2 (20, 0, 2))), some (.int (nI (i + 1))), x3, x4, x5, x6, x7, x8] [] (Rel ad2 g2) Q) (x3 x4 x5 x6 x7 x8 : Option Value) : PP mX6_replay 35 [some (.ref (ad1 (0, 0, 0))), some (.ref (ad1 (20, 0, 2))), some (.int (nI i)), x3, x4, x5, x6, x7, x8] [] (Rel ad1 g1) Q := by
  refine pp_iload_n dX6_replay_35 rfl (q := 36) rfl ?_
  refine pp_aload_n dX6_replay_36 rfl isRf_r (q := 37) rfl ?_
  refine ps_get dX6_replay_37 fl_X6_81 (by exact hX0.1.1) rfl rfl (q := 40) rfl ?_
  rw [hX0.2.1.1.2.1]
  refine pp_icmp_ge (tgt := 107) dX6_replay_40 (by decide) (q := 43) rfl (fun c40 => absurd c40 (nI_ge hi (by have := hX0.2.1.1.bd; omega))) (fun c40 => ?_)
  refine pp_aload_n dX6_replay_43 rfl isRf_r (q := 44) rfl ?_
  refine pp_iload_n dX6_replay_44 rfl (q := 45) rfl ?_
  refine pp_iconst dX6_replay_45 ci_3 (q := 46) rfl ?_
  refine ps_callVi dX6_replay_46 lk_X6_199 (by exact (by exact hX0.1.1)) (by rfl) (by rfl) (by rfl) (c_get (j := 3) (by exact hX0.1.1) hX0.2.1.1 hi (by decide)) (by rfl) (by exact Nat.le_of_ble_eq_true rfl) (by decide) (by decide) (by exact Nat.le_of_ble_eq_true rfl) (q := 49) rfl (fun r46 g46 h46 => ?_)
  obtain ⟨rfl, rfl⟩ := And.intro h46.1.symm h46.2.symm
  rw [hX0.2.1.2 i h 3 hh (by omega)]
  refine pp_i2l dX6_replay_49 (q := 50) rfl ?_
  refine pp_lstore_n dX6_replay_50 (by decide) (ls2_3 (nl1 rfl)) (q := 51) rfl ?_
  refine pp_aload_n dX6_replay_51 rfl isRf_r (q := 52) rfl ?_
  refine pp_iload_n dX6_replay_52 rfl (q := 53) rfl ?_
  refine pp_iconst dX6_replay_53 ci_4 (q := 54) rfl ?_
  refine ps_callVi dX6_replay_54 lk_X6_199 (by exact (by exact hX0.1.1)) (by rfl) (by rfl) (by rfl) (c_get (j := 4) (by exact hX0.1.1) hX0.2.1.1 hi (by decide)) (by rfl) (by exact Nat.le_of_ble_eq_true rfl) (by decide) (by decide) (by exact Nat.le_of_ble_eq_true rfl) (q := 57) rfl (fun r54 g54 h54 => ?_)
  obtain ⟨rfl, rfl⟩ := And.intro h54.1.symm h54.2.symm
  rw [hX0.2.1.2 i h 4 hh (by omega)]
  refine pp_i2l dX6_replay_57 (q := 58) rfl ?_
  refine pp_lstore dX6_replay_58 (by decide) (ls2_5 nl0) (q := 60) rfl ?_
  refine pp_lload_n dX6_replay_60 rfl (q := 61) rfl ?_
  refine pp_bipush dX6_replay_61 cb_32 (q := 63) rfl ?_
  refine pp_lshl dX6_replay_63 (q := 64) rfl ?_
  refine pp_lload dX6_replay_64 rfl (q := 66) rfl ?_
  refine pp_ldc2 (v := (4294967295)) dX6_replay_66 kc_X6_202 (q := 69) rfl ?_
  refine pp_land dX6_replay_69 (q := 70) rfl ?_
  refine pp_lor dX6_replay_70 (q := 71) rfl ?_
  change PP mX6_replay 71 _ [Value.long ((hiS h.2.2.2).toInt64 <<< ((nI 32).toInt64 &&& 63) ||| (h.2.2.2.toInt32.toInt64 &&& (4294967295 : Int64)))] _ _
  rw [seed_eq]
  refine pp_lstore dX6_replay_71 (by decide) (ls2_7 nl0) (q := 73) rfl ?_
  refine pp_aload_n dX6_replay_73 rfl isRf_r (q := 74) rfl ?_
  refine ps_get dX6_replay_74 fl_X6_46 hr rfl rfl (q := 77) rfl ?_
  rw [if_pos (show gF g1 (10, 2, 0) = true from hB.1.1.1)]
  change PP mX6_replay 77 _ [Value.ref (ad1 (10, 2, 0))] _ _
  refine pp_aload_n dX6_replay_77 rfl isRf_r (q := 78) rfl ?_
  refine pp_iload_n dX6_replay_78 rfl (q := 79) rfl ?_
  refine pp_iconst dX6_replay_79 ci_0 (q := 80) rfl ?_
  refine ps_callVi dX6_replay_80 lk_X6_199 (by exact (by exact hX0.1.1)) (by rfl) (by rfl) (by rfl) (c_get (j := 0) (by exact hX0.1.1) hX0.2.1.1 hi (by decide)) (by rfl) (by exact Nat.le_of_ble_eq_true rfl) (by decide) (by decide) (by exact Nat.le_of_ble_eq_true rfl) (q := 83) rfl (fun r80 g80 h80 => ?_)
  obtain ⟨rfl, rfl⟩ := And.intro h80.1.symm h80.2.symm
  rw [hX0.2.1.2 i h 0 hh (by omega)]
  rw [show colA h 0 = nI v from hv1]
  refine pp_aload_n dX6_replay_83 rfl isRf_r (q := 84) rfl ?_
  refine pp_iload_n dX6_replay_84 rfl (q := 85) rfl ?_
  refine pp_iconst dX6_replay_85 ci_1 (q := 86) rfl ?_
  refine ps_callVi dX6_replay_86 lk_X6_199 (by exact (by exact hX0.1.1)) (by rfl) (by rfl) (by rfl) (c_get (j := 1) (by exact hX0.1.1) hX0.2.1.1 hi (by decide)) (by rfl) (by exact Nat.le_of_ble_eq_true rfl) (by decide) (by decide) (by exact Nat.le_of_ble_eq_true rfl) (q := 89) rfl (fun r86 g86 h86 => ?_)
  obtain ⟨rfl, rfl⟩ := And.intro h86.1.symm h86.2.symm
  rw [hX0.2.1.2 i h 1 hh (by omega)]
  refine pp_aload_n dX6_replay_89 rfl isRf_r (q := 90) rfl ?_
  refine pp_iload_n dX6_replay_90 rfl (q := 91) rfl ?_
  refine pp_iconst dX6_replay_91 ci_2 (q := 92) rfl ?_
  refine ps_callVi dX6_replay_92 lk_X6_199 (by exact (by exact hX0.1.1)) (by rfl) (by rfl) (by rfl) (c_get (j := 2) (by exact hX0.1.1) hX0.2.1.1 hi (by decide)) (by rfl) (by exact Nat.le_of_ble_eq_true rfl) (by decide) (by decide) (by exact Nat.le_of_ble_eq_true rfl) (q := 95) rfl (fun r92 g92 h92 => ?_)
  obtain ⟨rfl, rfl⟩ := And.intro h92.1.symm h92.2.symm
  rw [hX0.2.1.2 i h 2 hh (by omega)]
  refine pp_lload dX6_replay_95 rfl (q := 97) rfl ?_
  refine ps_callVq dX6_replay_97 lk_X6_49 (by exact hB.1.1) (by rfl) (by rfl) (by rfl) (c_perfA hv hB hok) (by rfl) (by exact Nat.le_of_ble_eq_true rfl) (by decide) (by decide) (by exact Nat.le_of_ble_eq_true rfl) (q := 100) rfl (fun v97 ad97 g97 h97 => ?_)
  obtain ⟨hE, h9⟩ := h97
  rcases h9 with ⟨hw9, rfl, hB2⟩ | ⟨hw9, -⟩
  · rw [← hE.2.1 (0, 0, 0) hr (by show 0 ≠ 21; omega), ← hE.2.1 (20, 0, 2) hX0.1.1 (by show 20 ≠ 21; omega)]
    change PP mX6_replay 100 _ [Value.int _] _ _
    refine pp_pop dX6_replay_100 rfl (q := 101) rfl ?_
    refine pp_iinc dX6_replay_101 rfl (nI_1 _) (ls1_2 (nl1 rfl)) (q := 104) rfl ?_
    refine pp_goto (tgt := 35) dX6_replay_104 (by decide) ?_
    refine hk _ _ hE ?_ _ _ _ _ _ _
    rw [take_s (by exact hi), runA_snoc]
    have eh : H[i]'hi = h := Option.some.inj ((List.getElem?_eq_getElem hi).symm.trans hh)
    rw [eh, show h = (nI v, h.2.1, h.2.2.1, h.2.2.2) from by rw [← hv1], actF_v hv.2]
    exact hB2
  · rw [List.length_take, Nat.min_eq_left (Nat.le_of_lt hi)] at hw9
    exact absurd hw hw9
set_option maxRecDepth 20000 in
set_option maxHeartbeats 4000000 in
theorem e_rep {ad1 : Nm → Nat} {g1 : Sg} {A : AW} {H H2 : List Act} (hr : al g1 (0, 0, 0)) (hX0 : RX g1 0 A H) (hB : RX g1 2 A H2) (x3 x4 x5 x6 x7 x8 : Option Value) : PP mX6_replay 35 [some (.ref (ad1 (0, 0, 0))), some (.ref (ad1 (20, 0, 2))), some (.int (nI H.length)), x3, x4, x5, x6, x7, x8] [] (Rel ad1 g1) (PQ (fun v ad' g' => v = some (.int (nI 1)) ∧ EqW 2 ad1 g1 ad' g' ∧ RX g' 2 A H2)) := by
  refine pp_iload_n dX6_replay_35 rfl (q := 36) rfl ?_
  refine pp_aload_n dX6_replay_36 rfl isRf_r (q := 37) rfl ?_
  refine ps_get dX6_replay_37 fl_X6_81 (by exact hX0.1.1) rfl rfl (q := 40) rfl ?_
  rw [hX0.2.1.1.2.1]
  refine pp_icmp_ge (tgt := 107) dX6_replay_40 (by decide) (q := 43) rfl (fun c40 => ?_) (fun c40 => absurd (nI_le (Nat.le_refl _) (by have := hX0.2.1.1.bd; omega)) c40)
  refine pp_aload_n dX6_replay_107 rfl isRf_r (q := 108) rfl ?_
  refine ps_get dX6_replay_108 fl_X6_46 hr rfl rfl (q := 111) rfl ?_
  rw [if_pos (show gF g1 (10, 2, 0) = true from hB.1.1.1)]
  change PP mX6_replay 111 _ [Value.ref (ad1 (10, 2, 0))] _ _
  refine pp_aload_n dX6_replay_111 rfl isRf_r (q := 112) rfl ?_
  refine ps_get dX6_replay_112 fl_X6_10 hr rfl rfl (q := 115) rfl ?_
  refine ps_callVi dX6_replay_115 lk_X6_204 (by exact hB.1.1) (by rfl) (by rfl) (by rfl) (c_sameW hB.1 hX0.1) (by rfl) (by exact Nat.le_of_ble_eq_true rfl) (by decide) (by decide) (by exact Nat.le_of_ble_eq_true rfl) (q := 118) rfl (fun r115 g115 h115 => ?_)
  obtain ⟨rfl, rfl⟩ := And.intro h115.1.symm h115.2.symm
  refine pp_if_eq (tgt := 125) dX6_replay_118 (by decide) (q := 121) rfl (fun c118 => absurd c118 nI1_ne) (fun c118 => ?_)
  refine pp_iconst dX6_replay_121 ci_1 (q := 122) rfl ?_
  refine pp_goto (tgt := 126) dX6_replay_122 (by decide) ?_
  refine pp_iret dX6_replay_126 rfl rfl (fun G hG => ⟨_, _, hG, ?_⟩)
  exact ⟨rfl, EqW.rf, hB⟩
theorem l_rep {ad : Nm → Nat} {g : Sg} {H : List Act} (hO : okH H) : ∀ (j i : Nat) (ad1 : Nm → Nat) (g1 : Sg), H.length - i < j → i ≤ H.length → al g1 (0, 0, 0) → RX g1 0 (runA H) H → RX g1 2 (runA (H.take i)) (H.take i) → EqW 2 ad g ad1 g1 → ∀ x3 x4 x5 x6 x7 x8, PP mX6_replay 35 [some (.ref (ad1 (0, 0, 0))), some (.ref (ad1 (20, 0, 2))), some (.int (nI i)), x3, x4, x5, x6, x7, x8] [] (Rel ad1 g1) (PQ (fun v ad' g' => v = some (.int (nI 1)) ∧ EqW 2 ad g ad' g' ∧ RX g' 2 (runA H) H)) := by
  intro j
  induction j with
  | zero => intro i ad1 g1 h; omega
  | succ j ih =>
    intro i ad1 g1 hij hik hr hX0 hB hE x3 x4 x5 x6 x7 x8
    by_cases e : i = H.length
    · subst e
      rw [List.take_length] at hB
      refine (e_rep hr hX0 hB x3 x4 x5 x6 x7 x8).weak (fun v G hG => ?_)
      obtain ⟨ad', g', k1, k2, k3, k4⟩ := hG
      exact ⟨ad', g', k1, k2, hE.tr k3, k4⟩
    · have hi : i < H.length := by omega
      obtain ⟨v, hv, hv1, hw⟩ := hO i H[i] (List.getElem?_eq_getElem hi)
      refine s_rep hr hX0 hB (inv_take hO i (by omega)).x hi (List.getElem?_eq_getElem hi) hv hv1 hw (fun ad2 g2 hE2 hB2 => ?_) x3 x4 x5 x6 x7 x8
      exact ih (i + 1) ad2 g2 (by omega) (by omega) (hE2.1 _ hr) ((hE2.sm (by omega)).rx hX0) hB2 (hE.tr hE2)
set_option maxRecDepth 20000 in
set_option maxHeartbeats 4000000 in
theorem t_rep {sz : Nat} {ad : Nm → Nat} {g : Sg} {S : CS} {A : AW} {H : List Act} (hR : RC g S) (hc : Cst sz g) (hB : RX g 2 A H) : PP mX6_replay 18 [some (.ref (ad (0, 0, 0))), none, none, none, none, none, none, none, none] [] (Rel ad g) (CQ sz ad g (spReplay S)) := by
  have hr := hR.1
  have hX := hR.2.1.2
  have hW := hX.1.1
  refine pp_aload_n dX6_replay_18 rfl isRf_r (q := 19) rfl ?_
  refine ps_get dX6_replay_19 fl_X6_46 (by first | exact hr2 | exact hr) rfl rfl (q := 22) rfl ?_
  rw [if_pos (show gF g (10, 2, 0) = true from hB.1.1.1)]
  change PP mX6_replay 22 _ [Value.ref (ad (10, 2, 0))] _ _
  refine ps_callVv dX6_replay_22 lk_X6_193 (by exact hB.1.1) (by rfl) (by rfl) (by rfl) (c_clear hB) (by rfl) (by exact Nat.le_of_ble_eq_true rfl) (by decide) (by decide) (by exact Nat.le_of_ble_eq_true rfl) (q := 25) rfl (fun g22 h22 => ?_)
  obtain ⟨hB2, hE⟩ := h22
  have hr2 := hE.1 _ hr
  have hX2 := (hE.sm (w' := 0) (by omega)).rx hX
  refine pp_aload_n dX6_replay_25 rfl isRf_r (q := 26) rfl ?_
  refine ps_get dX6_replay_26 fl_X6_10 (by first | exact hr2 | exact hr) rfl rfl (q := 29) rfl ?_
  refine ps_get dX6_replay_29 fl_X6_196 hX2.1.1 rfl rfl (q := 32) rfl ?_
  refine pp_astore_n dX6_replay_32 isRf_r (by decide) (ls1_1 (nl1 rfl)) (q := 33) rfl ?_
  refine pp_iconst dX6_replay_33 ci_0 (q := 34) rfl ?_
  refine pp_istore_n dX6_replay_34 (by decide) (ls1_2 (nl1 rfl)) (q := 35) rfl ?_
  refine (l_rep (ad := ad) (g := g) hR.2.1.1 ((sH S).length + 1) 0 ad g22 (by omega) (by omega) hr2 hX2 hB2 hE _ _ _ _ _ _).weak (fun v G hG => ?_)
  obtain ⟨ad', g', k1, rfl, k3, k4⟩ := hG
  exact ⟨ad', g', k1, rfl, RC_w (S' := S) hR k3 rfl ⟨hR.2.1.1, (k3.sm (by omega)).rx hX⟩ ((k3.sm (by omega)).kp hR.2.2.1) (Or.inr ⟨_, _, k4⟩), cst_w k3 hB (by omega) k3.phy hc, k3.c⟩
set_option maxRecDepth 20000 in
set_option maxHeartbeats 4000000 in
theorem x_replay0 {sz : Nat} {ad : Nm → Nat} {g : Sg} {S : CS} (hR : RC g S) (hc : Cst sz g) (hn : noW g 2) : PP mX6_replay 0 (ent mX6_replay [.ref (ad (0, 0, 0))]) [] (Rel ad g) (CQ sz ad g (spReplay S)) := by
  have hr := hR.1
  show PP mX6_replay 0 [some (.ref (ad (0, 0, 0))), none, none, none, none, none, none, none, none] [] (Rel ad g) _
  refine pp_aload_n dX6_replay_0 rfl isRf_r (q := 1) rfl ?_
  refine ps_get dX6_replay_1 fl_X6_46 hr rfl rfl (q := 4) rfl ?_
  rw [if_neg hn.1]
  change PP mX6_replay 4 _ [Value.null] _ _
  refine pp_ifnonnull_n dX6_replay_4 (q := 7) rfl ?_
  refine t_mk2 hr hn rfl ?_
  rw [show (some (Value.ref (ad (0, 0, 0)))) = some (Value.ref (adW ad 2 (gZ g) (0, 0, 0))) by rw [mkW_ad hn.1 hr]]
  refine (t_rep (mkW_rc2 hn hR) (mkW_cst (Or.inr rfl) hn hc) (mkW_rx hn)).weak (fun v G hG => ?_)
  obtain ⟨ad', g', k1, k2, k3, k4, k5⟩ := hG
  exact ⟨ad', g', k1, k2, k3, k4, (mkW_c hn.1).tr k5⟩
set_option maxRecDepth 20000 in
set_option maxHeartbeats 4000000 in
theorem x_replay1 {sz : Nat} {ad : Nm → Nat} {g : Sg} {S : CS} {A : AW} {H : List Act} (hR : RC g S) (hc : Cst sz g) (hB : RX g 2 A H) : PP mX6_replay 0 (ent mX6_replay [.ref (ad (0, 0, 0))]) [] (Rel ad g) (CQ sz ad g (spReplay S)) := by
  have hr := hR.1
  show PP mX6_replay 0 [some (.ref (ad (0, 0, 0))), none, none, none, none, none, none, none, none] [] (Rel ad g) _
  refine pp_aload_n dX6_replay_0 rfl isRf_r (q := 1) rfl ?_
  refine ps_get dX6_replay_1 fl_X6_46 hr rfl rfl (q := 4) rfl ?_
  rw [if_pos (show gF g (10, 2, 0) = true from hB.1.1.1)]
  change PP mX6_replay 4 _ [Value.ref (ad (10, 2, 0))] _ _
  refine pp_ifnonnull_r (tgt := 18) dX6_replay_4 (by decide) ?_
  exact t_rep hR hc hB
theorem x_replay {sz : Nat} {ad : Nm → Nat} {g : Sg} {S : CS} (hR : RC g S) (hc : Cst sz g) : PP mX6_replay 0 (ent mX6_replay [.ref (ad (0, 0, 0))]) [] (Rel ad g) (CQ sz ad g (spReplay S)) := by
  rcases hR.2.2.2.1 with hn | ⟨A, H, hB⟩
  · exact x_replay0 hR hc hn
  · exact x_replay1 hR hc hB
