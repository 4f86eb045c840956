/-! the law: the start -/
def G_start (b L sz : Nat) (xs : Nat → Int32) : PH := (sz, 0, fun q => if q = b then some (.inl (9, L, .inl xs)) else none)
def rollL (a : Nat) : List (Nat × PE) := [(7, .inr (6, [.ref (a + 1), .ref (a + 14), .ref (a + 16), .ref (a + 18), .ref (a + 19), .null, .null])), (8, .inr (5, [.ref (a + 2), .int (nI 0), .ref (a + 3), .ref (a + 4), .ref (a + 9), .ref (a + 11), .ref (a + 12), .ref (a + 13)])), (64, .inl (3, 64, .inr (.inr (.inr (.inr (fun _ => none)))))), (64, .inl (1, 64, .inr (.inl (fun _ => 0)))), (4, .inr (0, [.ref (a + 5), .ref (a + 7), .int (nI 0), .int (nI 0)])), (4, .inr (3, [.int (nI 8), .int (nI 1200), .ref (a + 6), .int (nI 0)])), (8 * 16, .inl (0, 8 * 16, .inl (fun _ => 0))), (4, .inr (3, [.int (nI 4), .int (nI 20000), .ref (a + 8), .int (nI 0)])), (4 * 16, .inl (0, 4 * 16, .inl (fun _ => 0))), (4, .inr (3, [.int (nI 5), .int (nI 4000), .ref (a + 10), .int (nI 0)])), (5 * 16, .inl (0, 5 * 16, .inl (fun _ => 0))), (12, .inl (0, 12, .inl (fun _ => 0))), (64, .inl (0, 64, .inl (fun _ => 0))), (64, .inl (0, 64, .inl (fun _ => 0))), (2, .inr (2, [.ref (a + 15), .int (-7)])), (11, .inl (0, 11, .inl (fun _ => 0))), (2, .inr (4, [.ref (a + 17), .int (nI 0)])), (16, .inl (0, 16, .inl (fun _ => 0))), (16, .inl (0, 16, .inl (fillf (fun _ => 0) (-1) 16))), (64, .inl (0, 64, .inl (fun _ => 0)))]
def modL (a : Nat) : List (Nat × PE) := [(16, .inr (7, [.ref (a + 1), .ref (a + 2), .ref (a + 3), .ref (a + 4), .int 0, .ref (a + 5), .ref (a + 6), .ref (a + 7), .ref (a + 8), .int 0, .int 0, .int 0, .ref (a + 9), .int 0, .int 0, .int 0])), (118735, .inl (0, 118735, .inl (fun _ => 0))), (118735, .inl (0, 118735, .inl (fun _ => 0))), (64, .inl (1, 64, .inr (.inl (fun _ => 0)))), (64, .inl (1, 64, .inr (.inl (fun _ => 0)))), (16, .inl (0, 16, .inl (fillf (fun _ => 0) (-1) 16))), (1300, .inl (0, 1300, .inl (fun _ => 0))), (11, .inl (0, 11, .inl (fun _ => 0))), (64, .inl (0, 64, .inl (fun _ => 0))), (64, .inl (2, 64, .inl (fun _ => 0)))]
def lix (n : Nm) : Nat := match n with
  | (0, _, _) => 0
  | (10, _, _) => 1
  | (11, _, _) => 2
  | (12, _, _) => 3
  | (13, _, _) => 4
  | (20, _, 0) => 5
  | (21, _, 0) => 6
  | (20, _, 1) => 7
  | (21, _, 1) => 8
  | (20, _, _) => 9
  | (21, _, _) => 10
  | (14, _, _) => 11
  | (15, _, _) => 12
  | (16, _, _) => 13
  | (1, _, _) => 14
  | (2, _, _) => 15
  | (3, _, _) => 16
  | (4, _, _) => 17
  | (5, _, _) => 18
  | (6, _, _) => 19
  | (40, _, _) => 20
  | (41, _, _) => 21
  | (42, _, _) => 22
  | (43, _, _) => 23
  | (44, _, _) => 24
  | (45, _, _) => 25
  | (46, _, _) => 26
  | (47, _, _) => 27
  | (48, _, _) => 28
  | (49, _, _) => 29
  | _ => 30
def adL (b sz : Nat) (n : Nm) : Nat := match n with
  | (0, _, _) => sz + 0
  | (10, _, _) => sz + 1
  | (11, _, _) => sz + 2
  | (12, _, _) => sz + 3
  | (13, _, _) => sz + 4
  | (20, _, 0) => sz + 5
  | (21, _, 0) => sz + 6
  | (20, _, 1) => sz + 7
  | (21, _, 1) => sz + 8
  | (20, _, _) => sz + 9
  | (21, _, _) => sz + 10
  | (14, _, _) => sz + 11
  | (15, _, _) => sz + 12
  | (16, _, _) => sz + 13
  | (1, _, _) => sz + 14
  | (2, _, _) => sz + 15
  | (3, _, _) => sz + 16
  | (4, _, _) => sz + 17
  | (5, _, _) => sz + 18
  | (6, _, _) => sz + 19
  | (40, _, _) => sz + 20
  | (41, _, _) => sz + 21
  | (42, _, _) => sz + 22
  | (43, _, _) => sz + 23
  | (44, _, _) => sz + 24
  | (45, _, _) => sz + 25
  | (46, _, _) => sz + 26
  | (47, _, _) => sz + 27
  | (48, _, _) => sz + 28
  | (49, _, _) => sz + 29
  | _ => b
def lnL : List Nm := [(0, 0, 0), (10, 0, 0), (11, 0, 0), (12, 0, 0), (13, 0, 0), (20, 0, 0), (21, 0, 0), (20, 0, 1), (21, 0, 1), (20, 0, 2), (21, 0, 2), (14, 0, 0), (15, 0, 0), (16, 0, 0), (1, 0, 0), (2, 0, 0), (3, 0, 0), (4, 0, 0), (5, 0, 0), (6, 0, 0), (40, 0, 0), (41, 0, 0), (42, 0, 0), (43, 0, 0), (44, 0, 0), (45, 0, 0), (46, 0, 0), (47, 0, 0), (48, 0, 0), (49, 0, 0), (50, 0, 0)]
def fL (n : Nm) : Bool := match n with
  | (0, 0, 0) => true
  | (10, 0, 0) => true
  | (40, 0, 0) => true
  | (50, 0, 0) => true
  | _ => false
def iL (n : Nm) : Nat → Int32 := match n with
  | (1, _, _) => fun _ => -7
  | _ => fun _ => 0
def aL (xs : Nat → Int32) (n : Nm) : Nat → Int32 := match n with
  | (5, _, _) => fillf (fun _ => 0) (-1) 16
  | (45, _, _) => fillf (fun _ => 0) (-1) 16
  | (50, _, _) => xs
  | _ => fun _ => 0
def nL (L : Nat) (n : Nm) : Nat := match n with
  | (4, _, _) => 16
  | (21, _, 0) => 128
  | (21, _, 1) => 64
  | (21, _, _) => 80
  | (50, _, _) => L
  | _ => 0
def gL (L sz : Nat) (xs : Nat → Int32) : Sg := (iL, fun _ => 0, aL xs, fun _ _ => 0, nL L, fL, sz + 30, 239751)
def S0 : CS := ([], none, fun _ => 0, -7, [], fun _ => -1)
theorem fL_of {o : Nm} (h : fL o = true) : o = (0, 0, 0) ∨ o = (10, 0, 0) ∨ o = (40, 0, 0) ∨ o = (50, 0, 0) := by
  unfold fL at h
  split at h
  · exact Or.inl rfl
  · exact Or.inr (Or.inl rfl)
  · exact Or.inr (Or.inr (Or.inl rfl))
  · exact Or.inr (Or.inr (Or.inr rfl))
  · cases h
theorem lnL_of {L sz : Nat} {xs : Nat → Int32} {n : Nm} (h : al (gL L sz xs) n) : lnL[lix n]? = some n := by
  rcases fL_of h.1 with e | e | e | e
  all_goals
    unfold own at e
    split at e
    all_goals first
      | (cases e; done)
      | (cases e; rfl)
theorem lnL_lt {j : Nat} {n : Nm} (h : lnL[j]? = some n) : j < 31 := by
  rcases Nat.lt_or_ge j 31 with h1 | h1
  · exact h1
  · rw [List.getElem?_eq_none (by exact h1)] at h; cases h
theorem lnL_ad {b sz j : Nat} {n : Nm} (h : lnL[j]? = some n) : (n = (50, 0, 0) ∧ adL b sz n = b ∧ j = 30) ∨ (j < 30 ∧ adL b sz n = sz + j) := by
  have hj := lnL_lt h
  obtain rfl | rfl | rfl | rfl | rfl | rfl | rfl | rfl | rfl | rfl | rfl | rfl | rfl | rfl | rfl | rfl | rfl | rfl | rfl | rfl | rfl | rfl | rfl | rfl | rfl | rfl | rfl | rfl | rfl | rfl | rfl : j = 0 ∨ j = 1 ∨ j = 2 ∨ j = 3 ∨ j = 4 ∨ j = 5 ∨ j = 6 ∨ j = 7 ∨ j = 8 ∨ j = 9 ∨ j = 10 ∨ j = 11 ∨ j = 12 ∨ j = 13 ∨ j = 14 ∨ j = 15 ∨ j = 16 ∨ j = 17 ∨ j = 18 ∨ j = 19 ∨ j = 20 ∨ j = 21 ∨ j = 22 ∨ j = 23 ∨ j = 24 ∨ j = 25 ∨ j = 26 ∨ j = 27 ∨ j = 28 ∨ j = 29 ∨ j = 30 := by omega
  all_goals (cases h; first | exact Or.inr ⟨by omega, rfl⟩ | exact Or.inl ⟨rfl, rfl, rfl⟩)
set_option maxRecDepth 20000 in
set_option maxHeartbeats 4000000 in
theorem lcs_cell {b L sz j : Nat} {xs : Nat → Int32} {n : Nm} (h : lnL[j]? = some n) (hj : j < 30) : ∃ k, (rollL sz ++ modL (sz + 20))[j]? = some (k, cell (adL b sz) (gL L sz xs) n) := by
  obtain rfl | rfl | rfl | rfl | rfl | rfl | rfl | rfl | rfl | rfl | rfl | rfl | rfl | rfl | rfl | rfl | rfl | rfl | rfl | rfl | rfl | rfl | rfl | rfl | rfl | rfl | rfl | rfl | rfl | rfl : j = 0 ∨ j = 1 ∨ j = 2 ∨ j = 3 ∨ j = 4 ∨ j = 5 ∨ j = 6 ∨ j = 7 ∨ j = 8 ∨ j = 9 ∨ j = 10 ∨ j = 11 ∨ j = 12 ∨ j = 13 ∨ j = 14 ∨ j = 15 ∨ j = 16 ∨ j = 17 ∨ j = 18 ∨ j = 19 ∨ j = 20 ∨ j = 21 ∨ j = 22 ∨ j = 23 ∨ j = 24 ∨ j = 25 ∨ j = 26 ∨ j = 27 ∨ j = 28 ∨ j = 29 := by omega
  all_goals (cases h; exact ⟨_, rfl⟩)
theorem rel_L {b L sz : Nat} {xs : Nat → Int32} (hb : b < sz) : Rel (adL b sz) (gL L sz xs) (phX (G_start b L sz xs) (rollL sz ++ modL (sz + 20))) := by
  refine ⟨rfl, ?_, fun n hn => ?_, fun n n' hn hn' e => ?_⟩
  · show 0 + ((rollL sz ++ modL (sz + 20)).map Prod.fst).sum = 239751
    simp [rollL, modL]
  · have h := lnL_of hn
    rcases lnL_ad (b := b) (sz := sz) h with ⟨rfl, h2, _⟩ | ⟨h1, h2⟩
    · rw [h2]
      refine ⟨?_, show b < sz + 30 by omega⟩
      rw [phX_lt (show b < (G_start b L sz xs).1 from hb)]
      show (if b = b then _ else _) = _
      rw [if_pos rfl]
      rfl
    · rw [h2]
      obtain ⟨k, hk⟩ := lcs_cell (b := b) (L := L) (sz := sz) (xs := xs) h h1
      exact ⟨phX_at (G := G_start b L sz xs) hk, show sz + lix n < sz + 30 by omega⟩
  · have h := lnL_of hn
    have h' := lnL_of hn'
    rcases lnL_ad (b := b) (sz := sz) h with ⟨q1, q2, _⟩ | ⟨q1, q2⟩
    · rcases lnL_ad (b := b) (sz := sz) h' with ⟨r1, r2, _⟩ | ⟨r1, r2⟩
      · rw [q1, r1]
      · omega
    · rcases lnL_ad (b := b) (sz := sz) h' with ⟨r1, r2, _⟩ | ⟨r1, r2⟩
      · omega
      · have e2 : lix n = lix n' := by omega
        rw [e2, h'] at h
        exact (Option.some.inj h).symm
theorem rf_0 : RF (fun _ => 0) (fun _ => 0) A0 0 False := by
  refine ⟨fun m hm => ⟨fun e => absurd e (show ¬ (0 : Int32) = nI 1 by decide), fun _ => ⟨rfl, fun _ _ => rfl⟩⟩, fun a b ha hb => ⟨fun e => absurd e (tb_0 hb), fun _ => rfl⟩, ⟨⟨Nat.zero_le _, Nat.zero_le _⟩, rfl, rfl, fun l c hl => absurd hl (Nat.not_lt_zero _), fun l c hl => absurd hl (Nat.not_lt_zero _)⟩, fun k hk => rfl, rfl⟩
theorem fill16 {i : Nat} (hi : i < 16) : fillf (fun _ => 0) (-1) 16 i = -1 := if_pos hi
theorem rc_0 {L sz : Nat} {xs : Nat → Int32} : RC (gL L sz xs) S0 := by
  refine ⟨⟨rfl, by decide⟩, ⟨okH_nil, ?_⟩, ⟨Bool.false_ne_true, fun _ => Bool.false_ne_true⟩, Or.inl ⟨Bool.false_ne_true, fun _ => Bool.false_ne_true⟩, fun _ _ => rfl, rfl, ?_, fun i hi => fill16 hi⟩
  · refine RX_A0 ⟨rfl, by decide⟩ (fun r hr => rfl) rfl rfl rfl (fun a _ => rfl) (fun k _ => rfl) (fun m _ ha => absurd ha.1 Bool.false_ne_true) (fun r hr => ?_)
    obtain rfl | rfl | rfl : r = 0 ∨ r = 1 ∨ r = 2 := by omega
    · exact ⟨show 16 * wdN 0 ≤ 128 by decide, show 128 ≤ mstN 0 * wdN 0 by decide⟩
    · exact ⟨show 16 * wdN 1 ≤ 64 by decide, show 64 ≤ mstN 1 * wdN 1 by decide⟩
    · exact ⟨show 16 * wdN 2 ≤ 80 by decide, show 80 ≤ mstN 2 * wdN 2 by decide⟩
  · exact ⟨⟨rfl, by decide⟩, rfl, show 0 ≤ 16 by omega, show 16 ≤ 16 by omega, show 16 ≤ 2400 by omega, fun i v hv => by simp [S0, sY] at hv⟩
theorem cst_0 {L sz : Nat} {xs : Nat → Int32} : Cst sz (gL L sz xs) := by
  have e3 : bdM (gF (gL L sz xs)) 0 64 = 400 * 64 := bdM_0 (fun m => Bool.false_ne_true) 64
  have h0 : Pw (gL L sz xs) 0 = Bd (gL L sz xs) 0 := if_pos rfl
  have h1 : Pw (gL L sz xs) 1 = 360000 := if_neg Bool.false_ne_true
  have h2 : Pw (gL L sz xs) 2 = 360000 := if_neg Bool.false_ne_true
  have e0 : gN (gL L sz xs) (21, 0, 0) = 128 := rfl
  have e1 : gN (gL L sz xs) (21, 0, 1) = 64 := rfl
  have e2 : gN (gL L sz xs) (21, 0, 2) = 80 := rfl
  have hb : Bd (gL L sz xs) 0 ≤ 360000 := by
    unfold Bd bdR
    rw [e0, e1, e2, e3]
    decide
  have e4 : phY (gL L sz xs) = 4768 := by
    unfold phY
    rw [show gN (gL L sz xs) (4, 0, 0) = 16 from rfl]
  have e5 : gU (gL L sz xs) = 239751 := rfl
  have e6 : gZ (gL L sz xs) = sz + 30 := rfl
  unfold Cst
  rw [h0, h1, h2, e4, e5, e6]
  constructor <;> omega
theorem rr_0 {L sz : Nat} {xs : Nat → Int32} : RR (gL L sz xs) S0 := by
  refine ⟨⟨⟨rfl, by decide⟩, rf_0⟩, rfl, fun _ _ => rfl, ⟨?_, ?_⟩, ⟨rfl, Nat.zero_le _, fun i v hv => by simp [S0, sY] at hv⟩, fun i hi => fill16 hi⟩
  · show (0 : Int32) = rLt (-7)
    unfold rLt
    rw [if_pos rfl]
    rfl
  · show ¬ (-7 : Int32) = 0
    decide
theorem li_0 {L sz : Nat} {xs : Nat → Int32} : LwI sz L xs (gL L sz xs) S0 := ⟨rc_0, cst_0, rr_0, ⟨rfl, by decide⟩, rfl, rfl⟩
set_option maxRecDepth 20000 in
set_option maxHeartbeats 4000000 in
theorem law_pp {b L sz : Nat} {xs : Nat → Int32} (hL : L ≤ 2560) (hb : b < sz) : PP mL_law 0 (ent mL_law [.ref b]) [] (fun H => H = phX (G_start b L sz xs) []) (LwQ sz) := by
  show PP mL_law 0 [some (.ref b), none, none, none] [] (fun H => H = phX (G_start b L sz xs) []) (LwQ sz)
  refine px_new (a := (G_start b L sz xs).1 + 0) (l' := [(7, .inr (6, [.null, .null, .null, .null, .null, .null, .null]))]) dL_law_0 ln_L_7 rfl rfl (q := 3) rfl ?_
  refine pp_dup dL_law_3 rfl (q := 4) rfl ?_
  refine px_callI (st := [.ref ((G_start b L sz xs).1 + 0)]) (l0 := []) (As := []) (l' := rollL sz) (s := rollL) rfl dL_law_4 lk_L_9 (by rfl) (by exact Nat.le_of_ble_eq_true rfl) (by decide) (by decide) (by exact Nat.le_of_ble_eq_true rfl) (by rfl) (fun G' => i_roll G') rfl (q := 7) rfl ?_
  refine pp_astore_n dL_law_7 isRf_r (by decide) (ls1_1 (nl1 rfl)) (q := 8) rfl ?_
  refine px_new (a := (G_start b L sz xs).1 + 20) (l' := rollL sz ++ [(16, .inr (7, [.null, .null, .null, .null, .int 0, .null, .null, .null, .null, .int 0, .int 0, .int 0, .null, .int 0, .int 0, .int 0]))]) dL_law_8 ln_L_10 rfl rfl (q := 11) rfl ?_
  refine pp_dup dL_law_11 rfl (q := 12) rfl ?_
  refine px_callI (st := [.ref ((G_start b L sz xs).1 + 20)]) (l0 := rollL sz) (As := []) (l' := rollL sz ++ modL (sz + 20)) (s := modL) rfl dL_law_12 lk_L_12 (by rfl) (by exact Nat.le_of_ble_eq_true rfl) (by decide) (by decide) (by exact Nat.le_of_ble_eq_true rfl) (by rfl) (fun G' => i_mod G') rfl (q := 15) rfl ?_
  refine pp_astore_n dL_law_15 isRf_r (by decide) (ls1_2 (nl1 rfl)) (q := 16) rfl ?_
  refine pp_iconst dL_law_16 ci_0 (q := 17) rfl ?_
  refine pp_istore_n dL_law_17 (by decide) (ls1_3 (nl1 rfl)) (q := 18) rfl ?_
  exact fun H hH => lw_loop (xs := xs) hL L 0 (by omega) (by omega) (adL b sz) (gL L sz xs) S0 li_0 H (by rw [hH]; exact rel_L hb)
theorem law_ex (b L sz : Nat) (xs : Nat → Int32) (hL : L ≤ 2560) (hb : b < sz) : ∃ G1 : PH, Ex mL_law 0 (ent mL_law [.ref b]) [] (G_start b L sz xs) (some (.int 1), G1) ∧ G1.1 ≤ sz + 600000 ∧ G1.2.1 ≤ 7302250 := by
  obtain ⟨v, G1, h, rfl, h2, h3⟩ := law_pp (xs := xs) hL hb (G_start b L sz xs) phX_nil.symm
  exact ⟨G1, h, h2, h3⟩
