theorem RW.m {g : Sg} {w : Nat} {A : AW} (h : RW g w A) {m : Nat} (hm : m < 64) (hd : mdA A m) : RM g w m (A.1 m) := h.2.2.2.2.2.1 m hm hd
theorem sl1 : isSl 1 := by unfold isSl; omega
theorem sl2 : isSl 2 := by unfold isSl; omega
theorem sl4 : isSl 4 := by unfold isSl; omega
theorem sl5 : isSl 5 := by unfold isSl; omega
theorem sl6 : isSl 6 := by unfold isSl; omega
theorem sl7 : isSl 7 := by unfold isSl; omega
theorem sl14 : isSl 14 := by unfold isSl; omega
theorem sl15 : isSl 15 := by unfold isSl; omega
set_option maxRecDepth 20000 in
set_option maxHeartbeats 4000000 in
theorem c_memAt {ad : Nm → Nat} {g : Sg} {w : Nat} {A : AW} {i : Nat} (hA : RW g w A) (hi : i < 64) (hd : mdA A i) : PS mX5_memberAt 0 (ent mX5_memberAt [.ref (ad (10, w, 0)), .int (nI i)]) [] ad g (Rr (fun o g' => o = some (ad (30, w, i)) ∧ g' = g)) := by
  have hw := hA.1
  have hM := hA.m hi hd
  show PP mX5_memberAt 0 [some (.ref (ad (10, w, 0))), some (.int (nI i)), none] [] (Rel ad g) _
  refine pp_iload_n dX5_memberAt_0 rfl (q := 1) rfl ?_
  refine ps_callNi dX5_memberAt_1 lk_X5_69 (by rfl) (c_isMem hi) (by rfl) (by exact Nat.le_of_ble_eq_true rfl) (by decide) (by decide) (by exact Nat.le_of_ble_eq_true rfl) (q := 4) rfl (fun r1 g1 h1 => ?_)
  obtain ⟨rfl, rfl⟩ := And.intro h1.1.symm h1.2.symm
  refine pp_if_ne (tgt := 9) dX5_memberAt_4 (by decide) (q := 7) rfl (fun c4 => ?_) (fun c4 => absurd c4 nI1_ne)
  refine pp_aload_n dX5_memberAt_9 rfl isRf_r (q := 10) rfl ?_
  refine ps_get dX5_memberAt_10 fl_X5_11 hw rfl rfl (q := 13) rfl ?_
  refine pp_iload_n dX5_memberAt_13 rfl (q := 14) rfl ?_
  refine ps_aald dX5_memberAt_14 hw rfl rfl (by omega) (by decide) (q := 15) rfl ?_
  rw [if_pos (show gF g (30, w, i) = true from hM.1.1)]
  change PP mX5_memberAt 15 _ [Value.ref (ad (30, w, i))] _ _
  refine pp_astore_n dX5_memberAt_15 isRf_r (by decide) (ls1_2 (nl1 rfl)) (q := 16) rfl ?_
  refine pp_aload_n dX5_memberAt_16 rfl isRf_r (q := 17) rfl ?_
  refine pp_ifnull_r dX5_memberAt_17 (q := 20) rfl ?_
  refine pp_aload_n dX5_memberAt_20 rfl isRf_r (q := 21) rfl ?_
  refine ps_get dX5_memberAt_21 fl_X5_51 hM.1 rfl rfl (q := 24) rfl ?_
  rw [hM.sc sl1, show (A.1 i).1 1 = nI 1 from hd]
  refine pp_if_eq (tgt := 31) dX5_memberAt_24 (by decide) (q := 27) rfl (fun c24 => absurd c24 nI1_ne) (fun c24 => ?_)
  refine pp_aload_n dX5_memberAt_27 rfl isRf_r (q := 28) rfl ?_
  refine pp_goto (tgt := 32) dX5_memberAt_28 (by decide) ?_
  refine rr_ret (v := some (ad (30, w, i))) dX5_memberAt_32 rfl (Or.inl ⟨_, rfl⟩) ?_
  exact ⟨rfl, rfl⟩
set_option maxRecDepth 20000 in
set_option maxHeartbeats 4000000 in
theorem c_memAt_out {ad : Nm → Nat} {g : Sg} {w : Nat} {A : AW} {x : Int32} (hA : RW g w A) (hx : x < 0 ∨ nI 64 ≤ x) : PS mX5_memberAt 0 (ent mX5_memberAt [.ref (ad (10, w, 0)), .int x]) [] ad g (Rr (fun o g' => o = none ∧ g' = g)) := by
  have hw := hA.1
  show PP mX5_memberAt 0 [some (.ref (ad (10, w, 0))), some (.int x), none] [] (Rel ad g) _
  refine pp_iload_n dX5_memberAt_0 rfl (q := 1) rfl ?_
  refine ps_callNi dX5_memberAt_1 lk_X5_69 (by rfl) (c_isMem_out hx) (by rfl) (by exact Nat.le_of_ble_eq_true rfl) (by decide) (by decide) (by exact Nat.le_of_ble_eq_true rfl) (q := 4) rfl (fun r1 g1 h1 => ?_)
  obtain ⟨rfl, rfl⟩ := And.intro h1.1.symm h1.2.symm
  refine pp_if_ne (tgt := 9) dX5_memberAt_4 (by decide) (q := 7) rfl (fun c4 => absurd rfl c4) (fun c4 => ?_)
  refine pp_null dX5_memberAt_7 (q := 8) rfl ?_
  refine rr_ret (v := none) dX5_memberAt_8 rfl (Or.inl ⟨_, rfl⟩) ?_
  exact ⟨rfl, rfl⟩
set_option maxRecDepth 20000 in
set_option maxHeartbeats 4000000 in
theorem c_memAt_no1 {ad : Nm → Nat} {g : Sg} {w : Nat} {A : AW} {i : Nat} (hA : RW g w A) (hi : i < 64) (hf : ¬ gF g (30, w, i) = true) : PS mX5_memberAt 0 (ent mX5_memberAt [.ref (ad (10, w, 0)), .int (nI i)]) [] ad g (Rr (fun o g' => o = none ∧ g' = g)) := by
  have hw := hA.1
  show PP mX5_memberAt 0 [some (.ref (ad (10, w, 0))), some (.int (nI i)), none] [] (Rel ad g) _
  refine pp_iload_n dX5_memberAt_0 rfl (q := 1) rfl ?_
  refine ps_callNi dX5_memberAt_1 lk_X5_69 (by rfl) (c_isMem hi) (by rfl) (by exact Nat.le_of_ble_eq_true rfl) (by decide) (by decide) (by exact Nat.le_of_ble_eq_true rfl) (q := 4) rfl (fun r1 g1 h1 => ?_)
  obtain ⟨rfl, rfl⟩ := And.intro h1.1.symm h1.2.symm
  refine pp_if_ne (tgt := 9) dX5_memberAt_4 (by decide) (q := 7) rfl (fun c4 => ?_) (fun c4 => absurd c4 nI1_ne)
  refine pp_aload_n dX5_memberAt_9 rfl isRf_r (q := 10) rfl ?_
  refine ps_get dX5_memberAt_10 fl_X5_11 hw rfl rfl (q := 13) rfl ?_
  refine pp_iload_n dX5_memberAt_13 rfl (q := 14) rfl ?_
  refine ps_aald dX5_memberAt_14 hw rfl rfl (by omega) (by decide) (q := 15) rfl ?_
  rw [if_neg hf]
  change PP mX5_memberAt 15 _ [Value.null] _ _
  refine pp_astore_n dX5_memberAt_15 (by first | exact isRf_r | exact isRf_va | exact isRf_n) (by decide) (ls1_2 (nl1 rfl)) (q := 16) rfl ?_
  refine pp_aload_n dX5_memberAt_16 rfl (by first | exact isRf_r | exact isRf_va | exact isRf_n) (q := 17) rfl ?_
  refine pp_ifnull_n (tgt := 31) dX5_memberAt_17 (by decide) ?_
  refine pp_null dX5_memberAt_31 (q := 32) rfl ?_
  refine rr_ret (v := none) dX5_memberAt_32 rfl (Or.inl ⟨_, rfl⟩) ?_
  exact ⟨rfl, rfl⟩
set_option maxRecDepth 20000 in
set_option maxHeartbeats 4000000 in
theorem c_memAt_no2 {ad : Nm → Nat} {g : Sg} {w : Nat} {A : AW} {i : Nat} (hA : RW g w A) (hi : i < 64) (hf : gF g (30, w, i) = true) (hd : ¬ mdA A i) : PS mX5_memberAt 0 (ent mX5_memberAt [.ref (ad (10, w, 0)), .int (nI i)]) [] ad g (Rr (fun o g' => o = none ∧ g' = g)) := by
  have hw := hA.1
  have hal : al g (30, w, i) := ⟨hf, fun h => by cases h⟩
  show PP mX5_memberAt 0 [some (.ref (ad (10, w, 0))), some (.int (nI i)), none] [] (Rel ad g) _
  refine pp_iload_n dX5_memberAt_0 rfl (q := 1) rfl ?_
  refine ps_callNi dX5_memberAt_1 lk_X5_69 (by rfl) (c_isMem hi) (by rfl) (by exact Nat.le_of_ble_eq_true rfl) (by decide) (by decide) (by exact Nat.le_of_ble_eq_true rfl) (q := 4) rfl (fun r1 g1 h1 => ?_)
  obtain ⟨rfl, rfl⟩ := And.intro h1.1.symm h1.2.symm
  refine pp_if_ne (tgt := 9) dX5_memberAt_4 (by decide) (q := 7) rfl (fun c4 => ?_) (fun c4 => absurd c4 nI1_ne)
  refine pp_aload_n dX5_memberAt_9 rfl isRf_r (q := 10) rfl ?_
  refine ps_get dX5_memberAt_10 fl_X5_11 hw rfl rfl (q := 13) rfl ?_
  refine pp_iload_n dX5_memberAt_13 rfl (q := 14) rfl ?_
  refine ps_aald dX5_memberAt_14 hw rfl rfl (by omega) (by decide) (q := 15) rfl ?_
  rw [if_pos hf]
  change PP mX5_memberAt 15 _ [Value.ref (ad (30, w, i))] _ _
  refine pp_astore_n dX5_memberAt_15 isRf_r (by decide) (ls1_2 (nl1 rfl)) (q := 16) rfl ?_
  refine pp_aload_n dX5_memberAt_16 rfl isRf_r (q := 17) rfl ?_
  refine pp_ifnull_r dX5_memberAt_17 (q := 20) rfl ?_
  refine pp_aload_n dX5_memberAt_20 rfl isRf_r (q := 21) rfl ?_
  refine ps_get dX5_memberAt_21 fl_X5_51 hal rfl rfl (q := 24) rfl ?_
  rw [(hA.2.2.2.2.2.2 i hi hd hal).1]
  refine pp_if_eq (tgt := 31) dX5_memberAt_24 (by decide) (q := 27) rfl (fun c24 => ?_) (fun c24 => absurd rfl c24)
  refine pp_null dX5_memberAt_31 (q := 32) rfl ?_
  refine rr_ret (v := none) dX5_memberAt_32 rfl (Or.inl ⟨_, rfl⟩) ?_
  exact ⟨rfl, rfl⟩
/-- there is no such member that was made -/
def noM (A : AW) (x : Int32) : Prop := ∀ i, i < 64 → x = nI i → ¬ mdA A i
theorem c_memAt_no {ad : Nm → Nat} {g : Sg} {w : Nat} {A : AW} {x : Int32} (hA : RW g w A) (hx : noM A x) : PS mX5_memberAt 0 (ent mX5_memberAt [.ref (ad (10, w, 0)), .int x]) [] ad g (Rr (fun o g' => o = none ∧ g' = g)) := by
  rcases mem_cases x with ⟨i, hi, rfl⟩ | h
  · by_cases hf : gF g (30, w, i) = true
    · exact c_memAt_no2 hA hi hf (hx i hi rfl)
    · exact c_memAt_no1 hA hi hf
  · exact c_memAt_out hA h
theorem noM_of {A : AW} {i : Nat} (hi : i < 64) (hd : ¬ mdA A i) : noM A (nI i) := fun j hj e => by
  have e2 := eqT e (by omega) (by omega)
  subst e2
  exact hd
theorem noM_out {A : AW} {x : Int32} (hx : x < 0 ∨ nI 64 ≤ x) : noM A x := fun j hj e => by
  subst e
  rcases hx with h | h
  · exact absurd h (nI_pos (by omega))
  · exact absurd h (nI_ge hj (by decide))
theorem M_cases (A : AW) (x : Int32) : (∃ i, i < 64 ∧ x = nI i ∧ mdA A i) ∨ noM A x := by
  rcases mem_cases x with ⟨i, hi, rfl⟩ | h
  · by_cases hd : mdA A i
    · exact Or.inl ⟨i, hi, rfl, hd⟩
    · exact Or.inr (noM_of hi hd)
  · exact Or.inr (noM_out h)
def upA (A : AW) (m : Nat) : Prop := mdA A m ∧ (A.1 m).1 2 = nI 0
def noU (A : AW) (x : Int32) : Prop := ∀ i, i < 64 → x = nI i → ¬ upA A i
theorem U_cases (A : AW) (x : Int32) : (∃ i, i < 64 ∧ x = nI i ∧ upA A i) ∨ noU A x := by
  rcases mem_cases x with ⟨i, hi, rfl⟩ | h
  · by_cases hd : upA A i
    · exact Or.inl ⟨i, hi, rfl, hd⟩
    · refine Or.inr (fun j hj e => ?_)
      have e2 := eqT e (by omega) (by omega)
      subst e2
      exact hd
  · exact Or.inr (fun j hj e hu => noM_out h j hj e hu.1)
set_option maxRecDepth 20000 in
set_option maxHeartbeats 4000000 in
theorem c_upAt {ad : Nm → Nat} {g : Sg} {w : Nat} {A : AW} {i : Nat} (hA : RW g w A) (hi : i < 64) (hu : upA A i) : PS mX5_upAt 0 (ent mX5_upAt [.ref (ad (10, w, 0)), .int (nI i)]) [] ad g (Rr (fun o g' => o = some (ad (30, w, i)) ∧ g' = g)) := by
  have hw := hA.1
  have hM := hA.m hi hu.1
  show PP mX5_upAt 0 [some (.ref (ad (10, w, 0))), some (.int (nI i)), none] [] (Rel ad g) _
  refine pp_aload_n dX5_upAt_0 rfl isRf_r (q := 1) rfl ?_
  refine pp_iload_n dX5_upAt_1 rfl (q := 2) rfl ?_
  refine ps_callVr dX5_upAt_2 lk_X5_76 (by exact hw) (by rfl) (by rfl) (by rfl) (c_memAt hA hi hu.1) (by rfl) (by exact Nat.le_of_ble_eq_true rfl) (by decide) (by decide) (by exact Nat.le_of_ble_eq_true rfl) (q := 5) rfl (fun r2 g2 h2 => ?_)
  obtain ⟨rfl, rfl⟩ := And.intro h2.1.symm h2.2.symm
  change PP mX5_upAt 5 _ [Value.ref (ad (30, w, i))] _ _
  refine pp_astore_n dX5_upAt_5 isRf_r (by decide) (ls1_2 (nl1 rfl)) (q := 6) rfl ?_
  refine pp_aload_n dX5_upAt_6 rfl isRf_r (q := 7) rfl ?_
  refine pp_ifnull_r dX5_upAt_7 (q := 10) rfl ?_
  refine pp_aload_n dX5_upAt_10 rfl isRf_r (q := 11) rfl ?_
  refine ps_get dX5_upAt_11 fl_X5_80 hM.1 rfl rfl (q := 14) rfl ?_
  rw [hM.sc sl2, hu.2]
  refine pp_if_ne (tgt := 21) dX5_upAt_14 (by decide) (q := 17) rfl (fun c14 => absurd rfl c14) (fun c14 => ?_)
  refine pp_aload_n dX5_upAt_17 rfl isRf_r (q := 18) rfl ?_
  refine pp_goto (tgt := 22) dX5_upAt_18 (by decide) ?_
  refine rr_ret (v := some (ad (30, w, i))) dX5_upAt_22 rfl (Or.inl ⟨_, rfl⟩) ?_
  exact ⟨rfl, rfl⟩
set_option maxRecDepth 20000 in
set_option maxHeartbeats 4000000 in
theorem c_upAt_no1 {ad : Nm → Nat} {g : Sg} {w : Nat} {A : AW} {i : Nat} (hA : RW g w A) (hi : i < 64) (hd : mdA A i) (hs : ¬ (A.1 i).1 2 = 0) : PS mX5_upAt 0 (ent mX5_upAt [.ref (ad (10, w, 0)), .int (nI i)]) [] ad g (Rr (fun o g' => o = none ∧ g' = g)) := by
  have hw := hA.1
  have hM := hA.m hi hd
  show PP mX5_upAt 0 [some (.ref (ad (10, w, 0))), some (.int (nI i)), none] [] (Rel ad g) _
  refine pp_aload_n dX5_upAt_0 rfl isRf_r (q := 1) rfl ?_
  refine pp_iload_n dX5_upAt_1 rfl (q := 2) rfl ?_
  refine ps_callVr dX5_upAt_2 lk_X5_76 (by exact hw) (by rfl) (by rfl) (by rfl) (c_memAt hA hi hd) (by rfl) (by exact Nat.le_of_ble_eq_true rfl) (by decide) (by decide) (by exact Nat.le_of_ble_eq_true rfl) (q := 5) rfl (fun r2 g2 h2 => ?_)
  obtain ⟨rfl, rfl⟩ := And.intro h2.1.symm h2.2.symm
  change PP mX5_upAt 5 _ [Value.ref (ad (30, w, i))] _ _
  refine pp_astore_n dX5_upAt_5 isRf_r (by decide) (ls1_2 (nl1 rfl)) (q := 6) rfl ?_
  refine pp_aload_n dX5_upAt_6 rfl isRf_r (q := 7) rfl ?_
  refine pp_ifnull_r dX5_upAt_7 (q := 10) rfl ?_
  refine pp_aload_n dX5_upAt_10 rfl isRf_r (q := 11) rfl ?_
  refine ps_get dX5_upAt_11 fl_X5_80 hM.1 rfl rfl (q := 14) rfl ?_
  rw [hM.sc sl2]
  refine pp_if_ne (tgt := 21) dX5_upAt_14 (by decide) (q := 17) rfl (fun c14 => ?_) (fun c14 => absurd c14 hs)
  refine pp_null dX5_upAt_21 (q := 22) rfl ?_
  refine rr_ret (v := none) dX5_upAt_22 rfl (Or.inl ⟨_, rfl⟩) ?_
  exact ⟨rfl, rfl⟩
set_option maxRecDepth 20000 in
set_option maxHeartbeats 4000000 in
theorem c_upAt_no2 {ad : Nm → Nat} {g : Sg} {w : Nat} {A : AW} {x : Int32} (hA : RW g w A) (hx : noM A x) : PS mX5_upAt 0 (ent mX5_upAt [.ref (ad (10, w, 0)), .int x]) [] ad g (Rr (fun o g' => o = none ∧ g' = g)) := by
  have hw := hA.1
  show PP mX5_upAt 0 [some (.ref (ad (10, w, 0))), some (.int x), none] [] (Rel ad g) _
  refine pp_aload_n dX5_upAt_0 rfl isRf_r (q := 1) rfl ?_
  refine pp_iload_n dX5_upAt_1 rfl (q := 2) rfl ?_
  refine ps_callVr dX5_upAt_2 lk_X5_76 (by exact hw) (by rfl) (by rfl) (by rfl) (c_memAt_no hA hx) (by rfl) (by exact Nat.le_of_ble_eq_true rfl) (by decide) (by decide) (by exact Nat.le_of_ble_eq_true rfl) (q := 5) rfl (fun r2 g2 h2 => ?_)
  obtain ⟨rfl, rfl⟩ := And.intro h2.1.symm h2.2.symm
  change PP mX5_upAt 5 _ [Value.null] _ _
  refine pp_astore_n dX5_upAt_5 (by first | exact isRf_r | exact isRf_va | exact isRf_n) (by decide) (ls1_2 (nl1 rfl)) (q := 6) rfl ?_
  refine pp_aload_n dX5_upAt_6 rfl (by first | exact isRf_r | exact isRf_va | exact isRf_n) (q := 7) rfl ?_
  refine pp_ifnull_n (tgt := 21) dX5_upAt_7 (by decide) ?_
  refine pp_null dX5_upAt_21 (q := 22) rfl ?_
  refine rr_ret (v := none) dX5_upAt_22 rfl (Or.inl ⟨_, rfl⟩) ?_
  exact ⟨rfl, rfl⟩
theorem c_upAt_no {ad : Nm → Nat} {g : Sg} {w : Nat} {A : AW} {x : Int32} (hA : RW g w A) (hx : noU A x) : PS mX5_upAt 0 (ent mX5_upAt [.ref (ad (10, w, 0)), .int x]) [] ad g (Rr (fun o g' => o = none ∧ g' = g)) := by
  rcases M_cases A x with ⟨i, hi, rfl, hd⟩ | h
  · exact c_upAt_no1 hA hi hd (fun hs => hx i hi rfl ⟨hd, hs⟩)
  · exact c_upAt_no2 hA h
set_option maxRecDepth 20000 in
set_option maxHeartbeats 4000000 in
theorem c_whyM {ad : Nm → Nat} {g : Sg} {w : Nat} {A : AW} {i : Nat} (hA : RW g w A) (hi : i < 64) (hd : mdA A i) : PS mX5_whyNoMember 0 (ent mX5_whyNoMember [.ref (ad (10, w, 0)), .int (nI i)]) [] ad g (Ri (fun v g' => v = nI 0 ∧ g' = g)) := by
  have hw := hA.1
  show PP mX5_whyNoMember 0 [some (.ref (ad (10, w, 0))), some (.int (nI i))] [] (Rel ad g) _
  refine pp_iload_n dX5_whyNoMember_0 rfl (q := 1) rfl ?_
  refine ps_callNi dX5_whyNoMember_1 lk_X5_69 (by rfl) (c_isMem hi) (by rfl) (by exact Nat.le_of_ble_eq_true rfl) (by decide) (by decide) (by exact Nat.le_of_ble_eq_true rfl) (q := 4) rfl (fun r1 g1 h1 => ?_)
  obtain ⟨rfl, rfl⟩ := And.intro h1.1.symm h1.2.symm
  refine pp_if_ne (tgt := 10) dX5_whyNoMember_4 (by decide) (q := 7) rfl (fun c4 => ?_) (fun c4 => absurd c4 nI1_ne)
  refine pp_aload_n dX5_whyNoMember_10 rfl isRf_r (q := 11) rfl ?_
  refine pp_iload_n dX5_whyNoMember_11 rfl (q := 12) rfl ?_
  refine ps_callVr dX5_whyNoMember_12 lk_X5_76 (by exact hw) (by rfl) (by rfl) (by rfl) (c_memAt hA hi hd) (by rfl) (by exact Nat.le_of_ble_eq_true rfl) (by decide) (by decide) (by exact Nat.le_of_ble_eq_true rfl) (q := 15) rfl (fun r12 g12 h12 => ?_)
  obtain ⟨rfl, rfl⟩ := And.intro h12.1.symm h12.2.symm
  change PP mX5_whyNoMember 15 _ [Value.ref (ad (30, w, i))] _ _
  refine pp_ifnonnull_r (tgt := 23) dX5_whyNoMember_15 (by decide) ?_
  refine pp_iconst dX5_whyNoMember_23 ci_0 (q := 24) rfl ?_
  refine ri_ret dX5_whyNoMember_24 rfl rfl ?_
  exact ⟨rfl, rfl⟩
set_option maxRecDepth 20000 in
set_option maxHeartbeats 4000000 in
theorem c_whyM_m {ad : Nm → Nat} {g : Sg} {w : Nat} {A : AW} {i : Nat} (hA : RW g w A) (hi : i < 64) (hd : ¬ mdA A i) : PS mX5_whyNoMember 0 (ent mX5_whyNoMember [.ref (ad (10, w, 0)), .int (nI i)]) [] ad g (Ri (fun v g' => v = -2 ∧ g' = g)) := by
  have hw := hA.1
  show PP mX5_whyNoMember 0 [some (.ref (ad (10, w, 0))), some (.int (nI i))] [] (Rel ad g) _
  refine pp_iload_n dX5_whyNoMember_0 rfl (q := 1) rfl ?_
  refine ps_callNi dX5_whyNoMember_1 lk_X5_69 (by rfl) (c_isMem hi) (by rfl) (by exact Nat.le_of_ble_eq_true rfl) (by decide) (by decide) (by exact Nat.le_of_ble_eq_true rfl) (q := 4) rfl (fun r1 g1 h1 => ?_)
  obtain ⟨rfl, rfl⟩ := And.intro h1.1.symm h1.2.symm
  refine pp_if_ne (tgt := 10) dX5_whyNoMember_4 (by decide) (q := 7) rfl (fun c4 => ?_) (fun c4 => absurd c4 nI1_ne)
  refine pp_aload_n dX5_whyNoMember_10 rfl isRf_r (q := 11) rfl ?_
  refine pp_iload_n dX5_whyNoMember_11 rfl (q := 12) rfl ?_
  refine ps_callVr dX5_whyNoMember_12 lk_X5_76 (by exact hw) (by rfl) (by rfl) (by rfl) (c_memAt_no hA (noM_of hi hd)) (by rfl) (by exact Nat.le_of_ble_eq_true rfl) (by decide) (by decide) (by exact Nat.le_of_ble_eq_true rfl) (q := 15) rfl (fun r12 g12 h12 => ?_)
  obtain ⟨rfl, rfl⟩ := And.intro h12.1.symm h12.2.symm
  change PP mX5_whyNoMember 15 _ [Value.null] _ _
  refine pp_ifnonnull_n dX5_whyNoMember_15 (q := 18) rfl ?_
  refine pp_bipush dX5_whyNoMember_18 cb_m2 (q := 20) rfl ?_
  refine pp_goto (tgt := 24) dX5_whyNoMember_20 (by decide) ?_
  refine ri_ret dX5_whyNoMember_24 rfl rfl ?_
  exact ⟨rfl, rfl⟩
set_option maxRecDepth 20000 in
set_option maxHeartbeats 4000000 in
theorem c_whyM_b {ad : Nm → Nat} {g : Sg} {w : Nat} {A : AW} {x : Int32} (hA : RW g w A) (hx : x < 0 ∨ nI 64 ≤ x) : PS mX5_whyNoMember 0 (ent mX5_whyNoMember [.ref (ad (10, w, 0)), .int x]) [] ad g (Ri (fun v g' => v = -3 ∧ g' = g)) := by
  have hw := hA.1
  show PP mX5_whyNoMember 0 [some (.ref (ad (10, w, 0))), some (.int x)] [] (Rel ad g) _
  refine pp_iload_n dX5_whyNoMember_0 rfl (q := 1) rfl ?_
  refine ps_callNi dX5_whyNoMember_1 lk_X5_69 (by rfl) (c_isMem_out hx) (by rfl) (by exact Nat.le_of_ble_eq_true rfl) (by decide) (by decide) (by exact Nat.le_of_ble_eq_true rfl) (q := 4) rfl (fun r1 g1 h1 => ?_)
  obtain ⟨rfl, rfl⟩ := And.intro h1.1.symm h1.2.symm
  refine pp_if_ne (tgt := 10) dX5_whyNoMember_4 (by decide) (q := 7) rfl (fun c4 => absurd rfl c4) (fun c4 => ?_)
  refine pp_bipush dX5_whyNoMember_7 cb_m3 (q := 9) rfl ?_
  refine ri_ret dX5_whyNoMember_9 rfl rfl ?_
  exact ⟨rfl, rfl⟩
set_option maxRecDepth 20000 in
set_option maxHeartbeats 4000000 in
theorem c_whyN {ad : Nm → Nat} {g : Sg} {w : Nat} {A : AW} {i x : Nat} (hA : RW g w A) (hi : i < 64) (hx : x < 64) (hd : mdA A i) : PS mX5_whyNoNews 0 (ent mX5_whyNoNews [.ref (ad (10, w, 0)), .int (nI i), .int (nI x)]) [] ad g (Ri (fun v g' => ((¬ (A.1 i).2.2 31 x = 0 ∧ v = nI 0) ∨ (¬ ¬ (A.1 i).2.2 31 x = 0 ∧ v = -2)) ∧ g' = g)) := by
  have hw := hA.1
  have hM := hA.m hi hd
  show PP mX5_whyNoNews 0 [some (.ref (ad (10, w, 0))), some (.int (nI i)), some (.int (nI x)), none] [] (Rel ad g) _
  refine pp_iload_n dX5_whyNoNews_0 rfl (q := 1) rfl ?_
  refine ps_callNi dX5_whyNoNews_1 lk_X5_69 (by rfl) (c_isMem hi) (by rfl) (by exact Nat.le_of_ble_eq_true rfl) (by decide) (by decide) (by exact Nat.le_of_ble_eq_true rfl) (q := 4) rfl (fun r1 g1 h1 => ?_)
  obtain ⟨rfl, rfl⟩ := And.intro h1.1.symm h1.2.symm
  refine pp_if_eq (tgt := 14) dX5_whyNoNews_4 (by decide) (q := 7) rfl (fun c4 => absurd c4 nI1_ne) (fun c4 => ?_)
  refine pp_iload_n dX5_whyNoNews_7 rfl (q := 8) rfl ?_
  refine ps_callNi dX5_whyNoNews_8 lk_X5_69 (by rfl) (c_isMem hx) (by rfl) (by exact Nat.le_of_ble_eq_true rfl) (by decide) (by decide) (by exact Nat.le_of_ble_eq_true rfl) (q := 11) rfl (fun r8 g8 h8 => ?_)
  obtain ⟨rfl, rfl⟩ := And.intro h8.1.symm h8.2.symm
  refine pp_if_ne (tgt := 17) dX5_whyNoNews_11 (by decide) (q := 14) rfl (fun c11 => ?_) (fun c11 => absurd c11 nI1_ne)
  refine pp_aload_n dX5_whyNoNews_17 rfl isRf_r (q := 18) rfl ?_
  refine pp_iload_n dX5_whyNoNews_18 rfl (q := 19) rfl ?_
  refine ps_callVr dX5_whyNoNews_19 lk_X5_76 (by exact hw) (by rfl) (by rfl) (by rfl) (c_memAt hA hi hd) (by rfl) (by exact Nat.le_of_ble_eq_true rfl) (by decide) (by decide) (by exact Nat.le_of_ble_eq_true rfl) (q := 22) rfl (fun r19 g19 h19 => ?_)
  obtain ⟨rfl, rfl⟩ := And.intro h19.1.symm h19.2.symm
  change PP mX5_whyNoNews 22 _ [Value.ref (ad (30, w, i))] _ _
  refine pp_astore_n dX5_whyNoNews_22 isRf_r (by decide) (ls1_3 (nl1 rfl)) (q := 23) rfl ?_
  refine pp_aload_n dX5_whyNoNews_23 rfl isRf_r (q := 24) rfl ?_
  refine pp_ifnull_r dX5_whyNoNews_24 (q := 27) rfl ?_
  refine pp_aload_n dX5_whyNoNews_27 rfl isRf_r (q := 28) rfl ?_
  refine pp_iload_n dX5_whyNoNews_28 rfl (q := 29) rfl ?_
  refine ps_callVi dX5_whyNoNews_29 lk_X5_83 (by exact hM.1) (by rfl) (by rfl) (by rfl) (c_hasNews hM.1 hx) (by rfl) (by exact Nat.le_of_ble_eq_true rfl) (by decide) (by decide) (by exact Nat.le_of_ble_eq_true rfl) (q := 32) rfl (fun r29 g29 h29 => ?_)
  obtain ⟨hb29, rfl⟩ := And.intro h29.1 h29.2.symm
  rw [hM.ar (k := 31) (by omega) (by omega)] at hb29
  refine pp_if_ne (tgt := 40) dX5_whyNoNews_32 (by decide) (q := 35) rfl (fun c32 => ?_) (fun c32 => ?_)
  · have hz := isB_t hb29 c32
    refine pp_iconst dX5_whyNoNews_40 ci_0 (q := 41) rfl ?_
    refine ri_ret dX5_whyNoNews_41 rfl rfl ?_
    first | exact ⟨Or.inl ⟨hz, rfl⟩, rfl⟩ | exact ⟨Or.inr ⟨hz, rfl⟩, rfl⟩
  · have hz := isB_f hb29 c32
    refine pp_bipush dX5_whyNoNews_35 cb_m2 (q := 37) rfl ?_
    refine pp_goto (tgt := 41) dX5_whyNoNews_37 (by decide) ?_
    refine ri_ret dX5_whyNoNews_41 rfl rfl ?_
    first | exact ⟨Or.inl ⟨hz, rfl⟩, rfl⟩ | exact ⟨Or.inr ⟨hz, rfl⟩, rfl⟩
set_option maxRecDepth 20000 in
set_option maxHeartbeats 4000000 in
theorem c_whyN_m {ad : Nm → Nat} {g : Sg} {w : Nat} {A : AW} {i x : Nat} (hA : RW g w A) (hi : i < 64) (hx : x < 64) (hd : ¬ mdA A i) : PS mX5_whyNoNews 0 (ent mX5_whyNoNews [.ref (ad (10, w, 0)), .int (nI i), .int (nI x)]) [] ad g (Ri (fun v g' => v = -2 ∧ g' = g)) := by
  have hw := hA.1
  show PP mX5_whyNoNews 0 [some (.ref (ad (10, w, 0))), some (.int (nI i)), some (.int (nI x)), none] [] (Rel ad g) _
  refine pp_iload_n dX5_whyNoNews_0 rfl (q := 1) rfl ?_
  refine ps_callNi dX5_whyNoNews_1 lk_X5_69 (by rfl) (c_isMem hi) (by rfl) (by exact Nat.le_of_ble_eq_true rfl) (by decide) (by decide) (by exact Nat.le_of_ble_eq_true rfl) (q := 4) rfl (fun r1 g1 h1 => ?_)
  obtain ⟨rfl, rfl⟩ := And.intro h1.1.symm h1.2.symm
  refine pp_if_eq (tgt := 14) dX5_whyNoNews_4 (by decide) (q := 7) rfl (fun c4 => absurd c4 nI1_ne) (fun c4 => ?_)
  refine pp_iload_n dX5_whyNoNews_7 rfl (q := 8) rfl ?_
  refine ps_callNi dX5_whyNoNews_8 lk_X5_69 (by rfl) (c_isMem hx) (by rfl) (by exact Nat.le_of_ble_eq_true rfl) (by decide) (by decide) (by exact Nat.le_of_ble_eq_true rfl) (q := 11) rfl (fun r8 g8 h8 => ?_)
  obtain ⟨rfl, rfl⟩ := And.intro h8.1.symm h8.2.symm
  refine pp_if_ne (tgt := 17) dX5_whyNoNews_11 (by decide) (q := 14) rfl (fun c11 => ?_) (fun c11 => absurd c11 nI1_ne)
  refine pp_aload_n dX5_whyNoNews_17 rfl isRf_r (q := 18) rfl ?_
  refine pp_iload_n dX5_whyNoNews_18 rfl (q := 19) rfl ?_
  refine ps_callVr dX5_whyNoNews_19 lk_X5_76 (by exact hw) (by rfl) (by rfl) (by rfl) (c_memAt_no hA (noM_of hi hd)) (by rfl) (by exact Nat.le_of_ble_eq_true rfl) (by decide) (by decide) (by exact Nat.le_of_ble_eq_true rfl) (q := 22) rfl (fun r19 g19 h19 => ?_)
  obtain ⟨rfl, rfl⟩ := And.intro h19.1.symm h19.2.symm
  change PP mX5_whyNoNews 22 _ [Value.null] _ _
  refine pp_astore_n dX5_whyNoNews_22 (by first | exact isRf_r | exact isRf_va | exact isRf_n) (by decide) (ls1_3 (nl1 rfl)) (q := 23) rfl ?_
  refine pp_aload_n dX5_whyNoNews_23 rfl (by first | exact isRf_r | exact isRf_va | exact isRf_n) (q := 24) rfl ?_
  refine pp_ifnull_n (tgt := 35) dX5_whyNoNews_24 (by decide) ?_
  refine pp_bipush dX5_whyNoNews_35 cb_m2 (q := 37) rfl ?_
  refine pp_goto (tgt := 41) dX5_whyNoNews_37 (by decide) ?_
  refine ri_ret dX5_whyNoNews_41 rfl rfl ?_
  exact ⟨rfl, rfl⟩
set_option maxRecDepth 20000 in
set_option maxHeartbeats 4000000 in
theorem c_whyN_b1 {ad : Nm → Nat} {g : Sg} {w : Nat} {A : AW} {x y : Int32} (hA : RW g w A) (hx : x < 0 ∨ nI 64 ≤ x) : PS mX5_whyNoNews 0 (ent mX5_whyNoNews [.ref (ad (10, w, 0)), .int x, .int y]) [] ad g (Ri (fun v g' => v = -3 ∧ g' = g)) := by
  have hw := hA.1
  show PP mX5_whyNoNews 0 [some (.ref (ad (10, w, 0))), some (.int x), some (.int y), none] [] (Rel ad g) _
  refine pp_iload_n dX5_whyNoNews_0 rfl (q := 1) rfl ?_
  refine ps_callNi dX5_whyNoNews_1 lk_X5_69 (by rfl) (c_isMem_out hx) (by rfl) (by exact Nat.le_of_ble_eq_true rfl) (by decide) (by decide) (by exact Nat.le_of_ble_eq_true rfl) (q := 4) rfl (fun r1 g1 h1 => ?_)
  obtain ⟨rfl, rfl⟩ := And.intro h1.1.symm h1.2.symm
  refine pp_if_eq (tgt := 14) dX5_whyNoNews_4 (by decide) (q := 7) rfl (fun c4 => ?_) (fun c4 => absurd rfl c4)
  refine pp_bipush dX5_whyNoNews_14 cb_m3 (q := 16) rfl ?_
  refine ri_ret dX5_whyNoNews_16 rfl rfl ?_
  exact ⟨rfl, rfl⟩
set_option maxRecDepth 20000 in
set_option maxHeartbeats 4000000 in
theorem c_whyN_b2 {ad : Nm → Nat} {g : Sg} {w : Nat} {A : AW} {i : Nat} {x : Int32} (hA : RW g w A) (hi : i < 64) (hx : x < 0 ∨ nI 64 ≤ x) : PS mX5_whyNoNews 0 (ent mX5_whyNoNews [.ref (ad (10, w, 0)), .int (nI i), .int x]) [] ad g (Ri (fun v g' => v = -3 ∧ g' = g)) := by
  have hw := hA.1
  show PP mX5_whyNoNews 0 [some (.ref (ad (10, w, 0))), some (.int (nI i)), some (.int x), none] [] (Rel ad g) _
  refine pp_iload_n dX5_whyNoNews_0 rfl (q := 1) rfl ?_
  refine ps_callNi dX5_whyNoNews_1 lk_X5_69 (by rfl) (c_isMem hi) (by rfl) (by exact Nat.le_of_ble_eq_true rfl) (by decide) (by decide) (by exact Nat.le_of_ble_eq_true rfl) (q := 4) rfl (fun r1 g1 h1 => ?_)
  obtain ⟨rfl, rfl⟩ := And.intro h1.1.symm h1.2.symm
  refine pp_if_eq (tgt := 14) dX5_whyNoNews_4 (by decide) (q := 7) rfl (fun c4 => absurd c4 nI1_ne) (fun c4 => ?_)
  refine pp_iload_n dX5_whyNoNews_7 rfl (q := 8) rfl ?_
  refine ps_callNi dX5_whyNoNews_8 lk_X5_69 (by rfl) (c_isMem_out hx) (by rfl) (by exact Nat.le_of_ble_eq_true rfl) (by decide) (by decide) (by exact Nat.le_of_ble_eq_true rfl) (q := 11) rfl (fun r8 g8 h8 => ?_)
  obtain ⟨rfl, rfl⟩ := And.intro h8.1.symm h8.2.symm
  refine pp_if_ne (tgt := 17) dX5_whyNoNews_11 (by decide) (q := 14) rfl (fun c11 => absurd rfl c11) (fun c11 => ?_)
  refine pp_bipush dX5_whyNoNews_14 cb_m3 (q := 16) rfl ?_
  refine ri_ret dX5_whyNoNews_16 rfl rfl ?_
  exact ⟨rfl, rfl⟩
def tlA (A : AW) (v : Int32) : AW := aTr A (fun k => if v = nI k ∧ k < 12 then A.2.2.2.1 k + nI 1 else A.2.2.2.1 k)
theorem RW_tr {g g' : Sg} {w : Nat} {A : AW} {f : Nat → Int32} (h : RW g w A) (he : EqX (fun n => n = (14, w, 0)) g g') (hf : ∀ k, k < 12 → gA g' (14, w, 0) k = f k) : RW g' w (aTr A f) := by
  obtain ⟨h1, h2, h3, h4, h5, h6, h7⟩ := h
  have q : ∀ k a b, k ≠ 14 → ¬ (fun n : Nm => n = (14, w, 0)) (k, a, b) := fun k a b hk hb => by cases hb; exact hk rfl
  have hb : RB g' w (aB A) := by
    obtain ⟨b1, b2, b3, b4, b5, b6⟩ := h2
    have r : ∀ r n, rOk g w r n → rOk g' w r n := fun r n hr => ⟨hr.1, by rw [(he.1 (20, w, r) (q _ _ _ (by omega))).1]; exact hr.2.1, by rw [he.2.1]; exact hr.2.2.1, by rw [he.2.1]; exact hr.2.2.2⟩
    refine ⟨r _ _ b1, r _ _ b2, ?_, ?_, fun l c hl hc => ?_, fun p c hp hc => ?_⟩
    · rw [(he.1 (13, w, 0) (q _ _ _ (by omega))).1]; exact b3
    · rw [(he.1 (13, w, 0) (q _ _ _ (by omega))).1]; exact b4
    · unfold rv; rw [(he.1 (21, w, 0) (q _ _ _ (by omega))).2.2.1]; exact b5 l c hl hc
    · unfold rv; rw [(he.1 (21, w, 1) (q _ _ _ (by omega))).2.2.1]; exact b6 p c hp hc
  refine ⟨he.al' h1, hb, ?_, ?_, hf, fun m hm hd => (h6 m hm hd).eqx he (fun k a b => q k w m (by omega)), fun m hm hd ha => ?_⟩
  · rw [(he.1 (10, w, 0) (q _ _ _ (by omega))).1]; exact h3
  · intro a ha; rw [(he.1 (12, w, 0) (q _ _ _ (by omega))).2.2.2]; exact h4 a ha
  · obtain ⟨c1, c2⟩ := h7 m hm hd (he.al2 ha)
    refine ⟨by rw [(he.1 (30, w, m) (q _ _ _ (by omega))).1]; exact c1, fun k j a b hj => ?_⟩
    rw [(he.1 (k, w, m) (q _ _ _ (by omega))).2.2.1]
    exact c2 k j a b hj
theorem RW_tl {g : Sg} {w j : Nat} {A : AW} (h : RW g w A) (hj : j < 12) : RW (sA g (14, w, 0) (upd (gA g (14, w, 0)) j (gA g (14, w, 0) j + nI 1))) w (tlA A (nI j)) := by
  refine RW_tr h (EqX.rf.sA rfl) (fun k hk => ?_)
  rw [gA_sA, if_pos rfl]
  unfold upd
  by_cases e : k = j
  · subst e
    rw [if_pos rfl, if_pos ⟨rfl, hk⟩, h.2.2.2.2.1 k hk]
  · rw [if_neg e, if_neg (fun q => e (eqT q.1 (by omega) (by omega)).symm)]
    exact h.2.2.2.2.1 k hk
theorem RW_tl0 {g : Sg} {w : Nat} {A : AW} {v : Int32} (h : RW g w A) (hv : v < 0 ∨ nI 12 ≤ v) : RW g w (tlA A v) := by
  refine RW_tr h EqX.rf (fun k hk => ?_)
  rw [if_neg]
  · exact h.2.2.2.2.1 k hk
  · rintro ⟨rfl, -⟩
    rcases hv with q | q
    · exact nI_pos (by omega) q
    · exact nI_ge hk (by decide) q
/-- the world holds A' now, and nothing else has changed -/
def WC (g : Sg) (w : Nat) (A' : AW) (g' : Sg) : Prop := RW g' w A' ∧ EqX (wS w) g g'
theorem wS_of {w k a : Nat} (h1 : 10 ≤ k) (h2 : k ≤ 36) (h3 : k ≠ 20 ∧ k ≠ 21 := by decide) : wS w (k, w, a) := ⟨rfl, h1, h2, Or.inl h3⟩
set_option maxRecDepth 20000 in
set_option maxHeartbeats 4000000 in
theorem c_tally {ad : Nm → Nat} {g : Sg} {w : Nat} {A : AW} {v : Int32} (hA : RW g w A)  : PS mX5_tally 0 (ent mX5_tally [.ref (ad (10, w, 0)), .int v]) [] ad g (Rv (fun g' => RW g' w (tlA A v) ∧ EqX (fun n => n = (14, w, 0)) g g')) := by
  have hw := hA.1
  show PP mX5_tally 0 [some (.ref (ad (10, w, 0))), some (.int v)] [] (Rel ad g) _
  refine pp_iload_n dX5_tally_0 rfl (q := 1) rfl ?_
  refine pp_if_lt (tgt := 20) dX5_tally_1 (by decide) (q := 4) rfl (fun c1 => ?_) (fun c1 => ?_)
  · exact rv_ret dX5_tally_20 rfl ⟨RW_tl0 hA (Or.inl c1), EqX.rf⟩
  · refine pp_iload_n dX5_tally_4 rfl (q := 5) rfl ?_
    refine pp_bipush dX5_tally_5 cb_12 (q := 7) rfl ?_
    refine pp_icmp_ge (tgt := 20) dX5_tally_7 (by decide) (q := 10) rfl (fun c7 => ?_) (fun c7 => ?_)
    · exact rv_ret dX5_tally_20 rfl ⟨RW_tl0 hA (Or.inr c7), EqX.rf⟩
    · obtain ⟨j, hj, rfl⟩ := nI_ex c1 (Int32.not_le.mp c7) (by decide)
      refine pp_aload_n dX5_tally_10 rfl isRf_r (q := 11) rfl ?_
      refine ps_get dX5_tally_11 fl_X5_41 hw rfl rfl (q := 14) rfl ?_
      refine pp_iload_n dX5_tally_14 rfl (q := 15) rfl ?_
      refine pp_dup2 dX5_tally_15 rfl rfl (q := 16) rfl ?_
      refine ps_iald dX5_tally_16 hw rfl rfl (by omega) (by decide) (q := 17) rfl ?_
      refine pp_iconst dX5_tally_17 ci_1 (q := 18) rfl ?_
      refine pp_iadd dX5_tally_18 (q := 19) rfl ?_
      refine ps_iast dX5_tally_19 hw (fun _ => rfl) rfl (by omega) (by decide) (q := 20) rfl ?_
      refine rv_ret dX5_tally_20 rfl ?_
      exact ⟨RW_tl hA hj, EqX.rf.sA rfl⟩
def tb (c : Int64) (j : Nat) : Prop := ¬ lg_cmp ((c.toUInt64 >>> ((nI j).toInt64.toUInt64 &&& Int64.toUInt64 63)).toInt64 &&& lN 1) (lN 0) = 0
def flp (c : Int64) (j : Nat) : Int64 := c ^^^ (lN 1 <<< ((nI j).toInt64 &&& 63))
set_option maxRecDepth 20000 in
set_option maxHeartbeats 4000000 in
theorem c_isCut {ad : Nm → Nat} {g : Sg} {w : Nat} {A : AW} {i j : Nat} (hA : RW g w A) (hi : i < 64) (hj : j < 64) : PS mX5_isCut 0 (ent mX5_isCut [.ref (ad (10, w, 0)), .int (nI i), .int (nI j)]) [] ad g (Ri (fun v g' => isB v (tb (A.2.2.1 i) j) ∧ g' = g)) := by
  have hw := hA.1
  show PP mX5_isCut 0 [some (.ref (ad (10, w, 0))), some (.int (nI i)), some (.int (nI j))] [] (Rel ad g) _
  refine pp_iload_n dX5_isCut_0 rfl (q := 1) rfl ?_
  refine ps_callNi dX5_isCut_1 lk_X5_69 (by rfl) (c_isMem hi) (by rfl) (by exact Nat.le_of_ble_eq_true rfl) (by decide) (by decide) (by exact Nat.le_of_ble_eq_true rfl) (q := 4) rfl (fun r1 g1 h1 => ?_)
  obtain ⟨rfl, rfl⟩ := And.intro h1.1.symm h1.2.symm
  refine pp_if_eq (tgt := 33) dX5_isCut_4 (by decide) (q := 7) rfl (fun c4 => absurd c4 nI1_ne) (fun c4 => ?_)
  refine pp_iload_n dX5_isCut_7 rfl (q := 8) rfl ?_
  refine ps_callNi dX5_isCut_8 lk_X5_69 (by rfl) (c_isMem hj) (by rfl) (by exact Nat.le_of_ble_eq_true rfl) (by decide) (by decide) (by exact Nat.le_of_ble_eq_true rfl) (q := 11) rfl (fun r8 g8 h8 => ?_)
  obtain ⟨rfl, rfl⟩ := And.intro h8.1.symm h8.2.symm
  refine pp_if_eq (tgt := 33) dX5_isCut_11 (by decide) (q := 14) rfl (fun c11 => absurd c11 nI1_ne) (fun c11 => ?_)
  refine pp_aload_n dX5_isCut_14 rfl isRf_r (q := 15) rfl ?_
  refine ps_get dX5_isCut_15 fl_X5_21 hw rfl rfl (q := 18) rfl ?_
  refine pp_iload_n dX5_isCut_18 rfl (q := 19) rfl ?_
  refine ps_lald dX5_isCut_19 hw rfl rfl (by omega) (by decide) (q := 20) rfl ?_
  rw [hA.2.2.2.1 i hi]
  refine pp_iload_n dX5_isCut_20 rfl (q := 21) rfl ?_
  refine pp_lushr dX5_isCut_21 (q := 22) rfl ?_
  refine pp_lconst (v := lN 1) dX5_isCut_22 rfl (q := 23) rfl ?_
  refine pp_land dX5_isCut_23 (q := 24) rfl ?_
  refine pp_lconst (v := lN 0) dX5_isCut_24 rfl (q := 25) rfl ?_
  refine pp_lcmp dX5_isCut_25 (q := 26) rfl ?_
  refine pp_if_eq (tgt := 33) dX5_isCut_26 (by decide) (q := 29) rfl (fun c26 => ?_) (fun c26 => ?_)
  · refine pp_iconst dX5_isCut_33 ci_0 (q := 34) rfl ?_
    refine ri_ret dX5_isCut_34 rfl (by decide) ?_
    refine ⟨?_, rfl⟩
    first | exact isB_1 c26 | exact isB_0 (fun h => h c26)
  · refine pp_iconst dX5_isCut_29 ci_1 (q := 30) rfl ?_
    refine pp_goto (tgt := 34) dX5_isCut_30 (by decide) ?_
    refine ri_ret dX5_isCut_34 rfl (by decide) ?_
    refine ⟨?_, rfl⟩
    first | exact isB_1 c26 | exact isB_0 (fun h => h c26)
def ctA (A : AW) (i j : Nat) : AW := (A.1, A.2.1, vp_updL (vp_updL A.2.2.1 i (flp (A.2.2.1 i) j)) j (flp (vp_updL A.2.2.1 i (flp (A.2.2.1 i) j) j) i), A.2.2.2)
theorem RW_ct {g : Sg} {w i j : Nat} {A : AW} (h : RW g w A) (hi : i < 64) (hj : j < 64) : RW (sB (sB g (12, w, 0) (vp_updL (gB g (12, w, 0)) i (flp (gB g (12, w, 0) i) j))) (12, w, 0) (vp_updL (gB (sB g (12, w, 0) (vp_updL (gB g (12, w, 0)) i (flp (gB g (12, w, 0) i) j))) (12, w, 0)) j (flp (gB (sB g (12, w, 0) (vp_updL (gB g (12, w, 0)) i (flp (gB g (12, w, 0) i) j))) (12, w, 0) j) i))) w (ctA A i j) := by
  obtain ⟨h1, h2, h3, h4, h5⟩ := h
  refine ⟨h1, h2, h3, fun a ha => ?_, h5⟩
  rw [sB_sB]
  rw [gB_sB, if_pos rfl, gB_sB, if_pos rfl]
  have e : ∀ b, b < 64 → vp_updL (gB g (12, w, 0)) i (flp (gB g (12, w, 0) i) j) b = vp_updL A.2.2.1 i (flp (A.2.2.1 i) j) b := by
    intro b hb
    unfold vp_updL
    split
    · rw [h4 i hi]
    · exact h4 b hb
  show _ = vp_updL (vp_updL A.2.2.1 i (flp (A.2.2.1 i) j)) j (flp (vp_updL A.2.2.1 i (flp (A.2.2.1 i) j) j) i) a
  rw [e j hj]
  unfold vp_updL at e ⊢
  split
  · rfl
  · exact e a ha
set_option maxRecDepth 20000 in
set_option maxHeartbeats 4000000 in
theorem c_setLink {ad : Nm → Nat} {g : Sg} {w : Nat} {A : AW} {i j : Nat} {c : Int32} {b : Prop} (hA : RW g w A) (hi : i < 64) (hj : j < 64) (hc : isB c b) : PS mX5_setLink 0 (ent mX5_setLink [.ref (ad (10, w, 0)), .int (nI i), .int (nI j), .int c]) [] ad g (Ri (fun v g' => (¬ (tb (A.2.2.1 i) j ↔ b) ∧ v = nI 1 ∧ WC g w (ctA A i j) g') ∨ ((tb (A.2.2.1 i) j ↔ b) ∧ v = nI 0 ∧ g' = g))) := by
  have hw := hA.1
  show PP mX5_setLink 0 [some (.ref (ad (10, w, 0))), some (.int (nI i)), some (.int (nI j)), some (.int c)] [] (Rel ad g) _
  refine pp_iload_n dX5_setLink_0 rfl (q := 1) rfl ?_
  refine ps_callNi dX5_setLink_1 lk_X5_69 (by rfl) (c_isMem hi) (by rfl) (by exact Nat.le_of_ble_eq_true rfl) (by decide) (by decide) (by exact Nat.le_of_ble_eq_true rfl) (q := 4) rfl (fun r1 g1 h1 => ?_)
  obtain ⟨rfl, rfl⟩ := And.intro h1.1.symm h1.2.symm
  refine pp_if_eq (tgt := 24) dX5_setLink_4 (by decide) (q := 7) rfl (fun c4 => absurd c4 nI1_ne) (fun c4 => ?_)
  refine pp_iload_n dX5_setLink_7 rfl (q := 8) rfl ?_
  refine ps_callNi dX5_setLink_8 lk_X5_69 (by rfl) (c_isMem hj) (by rfl) (by exact Nat.le_of_ble_eq_true rfl) (by decide) (by decide) (by exact Nat.le_of_ble_eq_true rfl) (q := 11) rfl (fun r8 g8 h8 => ?_)
  obtain ⟨rfl, rfl⟩ := And.intro h8.1.symm h8.2.symm
  refine pp_if_eq (tgt := 24) dX5_setLink_11 (by decide) (q := 14) rfl (fun c11 => absurd c11 nI1_ne) (fun c11 => ?_)
  refine pp_aload_n dX5_setLink_14 rfl isRf_r (q := 15) rfl ?_
  refine pp_iload_n dX5_setLink_15 rfl (q := 16) rfl ?_
  refine pp_iload_n dX5_setLink_16 rfl (q := 17) rfl ?_
  refine ps_callVi dX5_setLink_17 lk_X5_277 (by exact hw) (by rfl) (by rfl) (by rfl) (c_isCut hA hi hj) (by rfl) (by exact Nat.le_of_ble_eq_true rfl) (by decide) (by decide) (by exact Nat.le_of_ble_eq_true rfl) (q := 20) rfl (fun r17 g17 h17 => ?_)
  obtain ⟨hb17, rfl⟩ := And.intro h17.1 h17.2.symm
  refine pp_iload_n dX5_setLink_20 rfl (q := 21) rfl ?_
  refine pp_icmp_ne (tgt := 26) dX5_setLink_21 (by decide) (q := 24) rfl (fun c21 => ?_) (fun c21 => ?_)
  · refine pp_aload_n dX5_setLink_26 rfl isRf_r (q := 27) rfl ?_
    refine ps_get dX5_setLink_27 fl_X5_21 hw rfl rfl (q := 30) rfl ?_
    refine pp_iload_n dX5_setLink_30 rfl (q := 31) rfl ?_
    refine pp_dup2 dX5_setLink_31 rfl rfl (q := 32) rfl ?_
    refine ps_lald dX5_setLink_32 hw rfl rfl (by omega) (by decide) (q := 33) rfl ?_
    refine pp_lconst (v := lN 1) dX5_setLink_33 rfl (q := 34) rfl ?_
    refine pp_iload_n dX5_setLink_34 rfl (q := 35) rfl ?_
    refine pp_lshl dX5_setLink_35 (q := 36) rfl ?_
    refine pp_lxor dX5_setLink_36 (q := 37) rfl ?_
    refine ps_last dX5_setLink_37 hw (fun _ => rfl) rfl (by omega) (by decide) (q := 38) rfl ?_
    refine pp_aload_n dX5_setLink_38 rfl isRf_r (q := 39) rfl ?_
    refine ps_get dX5_setLink_39 fl_X5_21 hw rfl rfl (q := 42) rfl ?_
    refine pp_iload_n dX5_setLink_42 rfl (q := 43) rfl ?_
    refine pp_dup2 dX5_setLink_43 rfl rfl (q := 44) rfl ?_
    refine ps_lald dX5_setLink_44 hw rfl rfl (by omega) (by decide) (q := 45) rfl ?_
    refine pp_lconst (v := lN 1) dX5_setLink_45 rfl (q := 46) rfl ?_
    refine pp_iload_n dX5_setLink_46 rfl (q := 47) rfl ?_
    refine pp_lshl dX5_setLink_47 (q := 48) rfl ?_
    refine pp_lxor dX5_setLink_48 (q := 49) rfl ?_
    refine ps_last dX5_setLink_49 hw (fun _ => rfl) rfl (by omega) (by decide) (q := 50) rfl ?_
    refine pp_iconst dX5_setLink_50 ci_1 (q := 51) rfl ?_
    refine ri_ret dX5_setLink_51 rfl rfl ?_
    refine Or.inl ⟨fun q => ?_, rfl, RW_ct hA hi hj, (EqX.rf.sB (wS_of (by decide) (by decide))).sB (wS_of (by decide) (by decide))⟩
    rcases hb17 with ⟨h1, rfl⟩ | ⟨h1, rfl⟩
    · rcases hc with ⟨h2, rfl⟩ | ⟨h2, rfl⟩
      · exact c21 rfl
      · exact h2 (q.mp h1)
    · rcases hc with ⟨h2, rfl⟩ | ⟨h2, rfl⟩
      · exact h1 (q.mpr h2)
      · exact c21 rfl
  · refine pp_iconst dX5_setLink_24 ci_0 (q := 25) rfl ?_
    refine ri_ret dX5_setLink_25 rfl rfl ?_
    refine Or.inr ⟨?_, rfl, rfl⟩
    rcases hb17 with ⟨h1, rfl⟩ | ⟨h1, rfl⟩
    · rcases hc with ⟨h2, rfl⟩ | ⟨h2, rfl⟩
      · exact ⟨fun _ => h2, fun _ => h1⟩
      · exact absurd c21 (by decide)
    · rcases hc with ⟨h2, rfl⟩ | ⟨h2, rfl⟩
      · exact absurd c21 (by decide)
      · exact ⟨fun q => absurd q h1, fun q => absurd q h2⟩
