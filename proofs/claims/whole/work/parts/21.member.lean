def bI (b : Prop) [Decidable b] : Int32 := if b then nI 1 else nI 0
theorem bI_t {b : Prop} [Decidable b] (h : b) : bI b = nI 1 := if_pos h
theorem bI_f {b : Prop} [Decidable b] (h : ¬ b) : bI b = nI 0 := if_neg h
theorem nI1_ne : ¬ nI 1 = 0 := by decide
theorem bI_0 {b : Prop} [Decidable b] : bI b = 0 ↔ ¬ b := by
  unfold bI
  by_cases h : b
  · rw [if_pos h]; exact ⟨fun e => absurd e nI1_ne, fun e => absurd h e⟩
  · rw [if_neg h]; exact ⟨fun _ => h, fun _ => rfl⟩
theorem bI_n {b : Prop} [Decidable b] : narrow .boolean (.int (bI b)) = .int (bI b) := by
  unfold bI
  by_cases h : b
  · rw [if_pos h]; decide
  · rw [if_neg h]; decide
theorem bI_nz {b : Prop} [Decidable b] (h : ¬ bI b = 0) : b := Decidable.byContradiction (fun k => h (bI_0.mpr k))
/-- an array of 64 ints -/
def is64 (n : Nm) : Prop := ∀ (ad : Nm → Nat) (F : Nm → Bool) (I : Nat → Int32) (J : Int64) (A : Nat → Int32) (B : Nat → Int64) (N : Nat), cellOf ad F n I J A B N = .inl (0, 64, .inl A)
def isArr (n : Nm) (k : Nat) : Prop := ∀ (ad : Nm → Nat) (F : Nm → Bool) (I : Nat → Int32) (J : Int64) (A : Nat → Int32) (B : Nat → Int64) (N : Nat), cellOf ad F n I J A B N = .inl (0, k, .inl A)
def fillf (f : Nat → Int32) (v : Int32) (i : Nat) : Nat → Int32 := fun k => if k < i then v else f k
theorem fillf_0 (f : Nat → Int32) (v : Int32) : fillf f v 0 = f := by funext k; unfold fillf; rw [if_neg]; omega
theorem fillf_s (f : Nat → Int32) (v : Int32) (i : Nat) : upd (fillf f v i) i v = fillf f v (i + 1) := by
  funext k
  unfold upd fillf
  by_cases h : k = i
  · rw [if_pos h, if_pos (by omega)]
  · rw [if_neg h]
    by_cases h2 : k < i
    · rw [if_pos h2, if_pos (by omega)]
    · rw [if_neg h2, if_neg (by omega)]

set_option maxRecDepth 20000 in
set_option maxHeartbeats 4000000 in
theorem l_fill {ad : Nm → Nat} {g : Sg} {n : Nm} {k : Nat} {v : Int32} {f : Nat → Int32} {Q : Option Value → PH → Prop} (hn : al g n) (hcr : isArr n k) (hkb : k < 2 ^ 31) (hk : PP mJ7_fill_53178 20 [some (.ref (ad n)), some (.int v), some (.int (nI k)), some (.int (nI k))] [] (Rel ad (sA g n (fillf f v k))) Q) : ∀ (j i : Nat), k - i < j → i ≤ k → PP mJ7_fill_53178 5 [some (.ref (ad n)), some (.int v), some (.int (nI i)), some (.int (nI k))] [] (Rel ad (sA g n (fillf f v i))) Q := by
  intro j
  induction j with
  | zero => intro i h; omega
  | succ j ih =>
    intro i hij hik
    refine pp_iload_n dJ7_fill_53178_5 rfl (q := 6) rfl ?_
    refine pp_iload_n dJ7_fill_53178_6 rfl (q := 7) rfl ?_
    refine pp_icmp_ge (tgt := 20) dJ7_fill_53178_7 (by decide) (q := 10) rfl (fun c7 => ?_) (fun c7 => ?_)
    · have e : i = k := by have := leT c7 (by omega) (by omega); omega
      subst e
      exact hk
    · have hlt := leF c7 (by omega) (by omega)
      refine pp_aload_n dJ7_fill_53178_10 rfl isRf_r (q := 11) rfl ?_
      refine pp_iload_n dJ7_fill_53178_11 rfl (q := 12) rfl ?_
      refine pp_iload_n dJ7_fill_53178_12 rfl (q := 13) rfl ?_
      refine ps_iast dJ7_fill_53178_13 hn (fun _ => hcr _ _ _ _ _ _ _) rfl (by omega) (by omega) (q := 14) rfl ?_
      refine pp_iinc dJ7_fill_53178_14 rfl (nI_1 _) (ls1_2 (nl1 rfl)) (q := 17) rfl ?_
      refine pp_goto (tgt := 5) dJ7_fill_53178_17 (by decide) ?_
      rw [sA_sA, gA_sA, if_pos rfl, fillf_s]
      exact ih (i + 1) (by omega) (by omega)
set_option maxRecDepth 20000 in
set_option maxHeartbeats 4000000 in
theorem c_fill {ad : Nm → Nat} {g : Sg} {n : Nm} {k : Nat} {v : Int32} (hn : al g n) (hcr : isArr n k) (hkb : k < 2 ^ 31) : PS mJ7_fill_53178 0 (ent mJ7_fill_53178 [.ref (ad n), .int v]) [] ad g (Rv (fun g' => g' = sA g n (fillf (gA g n) v k))) := by
  show PP mJ7_fill_53178 0 [some (.ref (ad n)), some (.int v), none, none] [] (Rel ad g) _
  refine pp_iconst dJ7_fill_53178_0 ci_0 (q := 1) rfl ?_
  refine pp_istore_n dJ7_fill_53178_1 (by decide) (ls1_2 (nl1 rfl)) (q := 2) rfl ?_
  refine pp_aload_n dJ7_fill_53178_2 rfl isRf_r (q := 3) rfl ?_
  refine ps_alen dJ7_fill_53178_3 hn (hcr _ _ _ _ _ _ _) (by decide) (q := 4) rfl ?_
  refine pp_istore_n dJ7_fill_53178_4 (by decide) (ls1_3 (nl1 rfl)) (q := 5) rfl ?_
  have hg : g = sA g n (fillf (gA g n) v 0) := by rw [fillf_0, sA_id]
  refine PP.pre (I := Rel ad (sA g n (fillf (gA g n) v 0))) ?_ (fun G hG => by rw [← hg]; exact hG)
  refine l_fill hn hcr hkb ?_ (k + 1) 0 (by omega) (by omega)
  exact rv_ret dJ7_fill_53178_20 rfl rfl
set_option maxRecDepth 20000 in
set_option maxHeartbeats 4000000 in
theorem c_isMem {ad : Nm → Nat} {g : Sg} {i : Nat} (hi : i < 64) : PS mX6_isMember 0 (ent mX6_isMember [.int (nI i)]) [] ad g (Ri (fun v g' => v = nI 1 ∧ g' = g)) := by
  show PP mX6_isMember 0 [some (.int (nI i))] [] (Rel ad g) _
  refine pp_iload_n dX6_isMember_0 rfl (q := 1) rfl ?_
  refine pp_if_lt (tgt := 14) dX6_isMember_1 (by decide) (q := 4) rfl (fun c1 => absurd c1 (nI_pos (by omega))) (fun c1 => ?_)
  refine pp_iload_n dX6_isMember_4 rfl (q := 5) rfl ?_
  refine pp_bipush dX6_isMember_5 cb_64 (q := 7) rfl ?_
  refine pp_icmp_ge (tgt := 14) dX6_isMember_7 (by decide) (q := 10) rfl (fun c7 => absurd c7 (nI_ge hi (by decide))) (fun c7 => ?_)
  refine pp_iconst dX6_isMember_10 ci_1 (q := 11) rfl ?_
  refine pp_goto (tgt := 15) dX6_isMember_11 (by decide) ?_
  refine ri_ret dX6_isMember_15 rfl (by decide) ?_
  exact ⟨rfl, rfl⟩
set_option maxRecDepth 20000 in
set_option maxHeartbeats 4000000 in
theorem c_isMem_out {ad : Nm → Nat} {g : Sg} {x : Int32} (hx : x < 0 ∨ nI 64 ≤ x) : PS mX6_isMember 0 (ent mX6_isMember [.int x]) [] ad g (Ri (fun v g' => v = nI 0 ∧ g' = g)) := by
  show PP mX6_isMember 0 [some (.int x)] [] (Rel ad g) _
  refine pp_iload_n dX6_isMember_0 rfl (q := 1) rfl ?_
  refine pp_if_lt (tgt := 14) dX6_isMember_1 (by decide) (q := 4) rfl (fun c1 => ?_) (fun c1 => ?_)
  · refine pp_iconst dX6_isMember_14 ci_0 (q := 15) rfl ?_
    refine ri_ret dX6_isMember_15 rfl (by decide) ?_
    exact ⟨rfl, rfl⟩
  · refine pp_iload_n dX6_isMember_4 rfl (q := 5) rfl ?_
    refine pp_bipush dX6_isMember_5 cb_64 (q := 7) rfl ?_
    refine pp_icmp_ge (tgt := 14) dX6_isMember_7 (by decide) (q := 10) rfl (fun c7 => ?_) (fun c7 => absurd (hx.resolve_left c1) c7)
    refine pp_iconst dX6_isMember_14 ci_0 (q := 15) rfl ?_
    refine ri_ret dX6_isMember_15 rfl (by decide) ?_
    exact ⟨rfl, rfl⟩
theorem mem_cases (x : Int32) : (∃ i, i < 64 ∧ x = nI i) ∨ (x < 0 ∨ nI 64 ≤ x) := by
  rcases pk_ix x (n := 64) (by decide) with h | h | h
  · exact Or.inr (Or.inl h)
  · exact Or.inr (Or.inr h)
  · exact Or.inl h
set_option maxRecDepth 20000 in
set_option maxHeartbeats 4000000 in
theorem c_stopAsking {ad : Nm → Nat} {g : Sg} {w m : Nat}  (hm : al g (30, w, m))  : PS mX1_stopAsking 0 (ent mX1_stopAsking [.ref (ad (30, w, m))]) [] ad g (Rv (fun g' => g' = sI (sI (sI (sI g (30, w, m) 6 (-1)) (30, w, m) 7 (-1)) (30, w, m) 14 (nI 0)) (30, w, m) 15 (nI 0))) := by
  show PP mX1_stopAsking 0 [some (.ref (ad (30, w, m)))] [] (Rel ad g) _
  refine pp_aload_n dX1_stopAsking_0 rfl isRf_r (q := 1) rfl ?_
  refine pp_iconst dX1_stopAsking_1 ci_m1 (q := 2) rfl ?_
  refine ps_puti dX1_stopAsking_2 fl_X1_67 hm rfl (by exact Nat.le_of_ble_eq_true rfl) rfl rfl rfl (q := 5) rfl ?_
  refine pp_aload_n dX1_stopAsking_5 rfl isRf_r (q := 6) rfl ?_
  refine pp_iconst dX1_stopAsking_6 ci_m1 (q := 7) rfl ?_
  refine ps_puti dX1_stopAsking_7 fl_X1_70 hm rfl (by exact Nat.le_of_ble_eq_true rfl) rfl rfl rfl (q := 10) rfl ?_
  refine pp_aload_n dX1_stopAsking_10 rfl isRf_r (q := 11) rfl ?_
  refine pp_iconst dX1_stopAsking_11 ci_0 (q := 12) rfl ?_
  refine ps_puti dX1_stopAsking_12 fl_X1_73 hm rfl (by exact Nat.le_of_ble_eq_true rfl) rfl rfl rfl (q := 15) rfl ?_
  refine pp_aload_n dX1_stopAsking_15 rfl isRf_r (q := 16) rfl ?_
  refine pp_iconst dX1_stopAsking_16 ci_0 (q := 17) rfl ?_
  refine ps_puti dX1_stopAsking_17 fl_X1_76 hm rfl (by exact Nat.le_of_ble_eq_true rfl) rfl rfl rfl (q := 20) rfl ?_
  refine rv_ret dX1_stopAsking_20 rfl ?_
  exact rfl
def enG (g : Sg) (w m x : Nat) (kind t l : Int32) : Sg := sA (sA (sA (sA (sA g (31, w, m) (upd (gA g (31, w, m)) x kind)) (32, w, m) (upd (gA g (32, w, m)) x t)) (33, w, m) (upd (gA g (33, w, m)) x (nI 0))) (34, w, m) (upd (gA g (34, w, m)) x (gI g (30, w, m) 5))) (35, w, m) (upd (gA g (35, w, m)) x l)
set_option maxRecDepth 20000 in
set_option maxHeartbeats 4000000 in
theorem c_enter {ad : Nm → Nat} {g : Sg} {w m : Nat} {x : Nat} {kind t l : Int32} (hm : al g (30, w, m)) (hx : x < 64) : PS mX1_enter 0 (ent mX1_enter [.ref (ad (30, w, m)), .int (nI x), .int kind, .int t, .int l]) [] ad g (Rv (fun g' => g' = enG g w m x kind t l)) := by
  show PP mX1_enter 0 [some (.ref (ad (30, w, m))), some (.int (nI x)), some (.int kind), some (.int t), some (.int l)] [] (Rel ad g) _
  refine pp_iload_n dX1_enter_0 rfl (q := 1) rfl ?_
  refine pp_if_lt (tgt := 49) dX1_enter_1 (by decide) (q := 4) rfl (fun c1 => absurd c1 (nI_pos (by omega))) (fun c1 => ?_)
  refine pp_iload_n dX1_enter_4 rfl (q := 5) rfl ?_
  refine pp_bipush dX1_enter_5 cb_64 (q := 7) rfl ?_
  refine pp_icmp_ge (tgt := 49) dX1_enter_7 (by decide) (q := 10) rfl (fun c7 => absurd c7 (nI_ge hx (by decide))) (fun c7 => ?_)
  refine pp_aload_n dX1_enter_10 rfl isRf_r (q := 11) rfl ?_
  refine ps_get dX1_enter_11 fl_X1_19 hm rfl rfl (q := 14) rfl ?_
  refine pp_iload_n dX1_enter_14 rfl (q := 15) rfl ?_
  refine pp_iload_n dX1_enter_15 rfl (q := 16) rfl ?_
  refine ps_iast dX1_enter_16 hm (fun _ => rfl) rfl (by omega) (by decide) (q := 17) rfl ?_
  refine pp_aload_n dX1_enter_17 rfl isRf_r (q := 18) rfl ?_
  refine ps_get dX1_enter_18 fl_X1_23 hm rfl rfl (q := 21) rfl ?_
  refine pp_iload_n dX1_enter_21 rfl (q := 22) rfl ?_
  refine pp_iload_n dX1_enter_22 rfl (q := 23) rfl ?_
  refine ps_iast dX1_enter_23 hm (fun _ => rfl) rfl (by omega) (by decide) (q := 24) rfl ?_
  refine pp_aload_n dX1_enter_24 rfl isRf_r (q := 25) rfl ?_
  refine ps_get dX1_enter_25 fl_X1_26 hm rfl rfl (q := 28) rfl ?_
  refine pp_iload_n dX1_enter_28 rfl (q := 29) rfl ?_
  refine pp_iconst dX1_enter_29 ci_0 (q := 30) rfl ?_
  refine ps_iast dX1_enter_30 hm (fun _ => rfl) rfl (by omega) (by decide) (q := 31) rfl ?_
  refine pp_aload_n dX1_enter_31 rfl isRf_r (q := 32) rfl ?_
  refine ps_get dX1_enter_32 fl_X1_29 hm rfl rfl (q := 35) rfl ?_
  refine pp_iload_n dX1_enter_35 rfl (q := 36) rfl ?_
  refine pp_aload_n dX1_enter_36 rfl isRf_r (q := 37) rfl ?_
  refine ps_get dX1_enter_37 fl_X1_48 hm rfl rfl (q := 40) rfl ?_
  refine ps_iast dX1_enter_40 hm (fun _ => rfl) rfl (by omega) (by decide) (q := 41) rfl ?_
  refine pp_aload_n dX1_enter_41 rfl isRf_r (q := 42) rfl ?_
  refine ps_get dX1_enter_42 fl_X1_32 hm rfl rfl (q := 45) rfl ?_
  refine pp_iload_n dX1_enter_45 rfl (q := 46) rfl ?_
  refine pp_iload dX1_enter_46 rfl (q := 48) rfl ?_
  refine ps_iast dX1_enter_48 hm (fun _ => rfl) rfl (by omega) (by decide) (q := 49) rfl ?_
  refine rv_ret dX1_enter_49 rfl ?_
  exact rfl
set_option maxRecDepth 20000 in
set_option maxHeartbeats 4000000 in
theorem c_say {ad : Nm → Nat} {g : Sg} {w m : Nat} {x : Nat} {kind t : Int32} (hm : al g (30, w, m)) (hx : x < 64) : PS mX1_say 0 (ent mX1_say [.ref (ad (30, w, m)), .int (nI x), .int kind, .int t]) [] ad g (Rv (fun g' => g' = enG g w m x kind t (-1))) := by
  show PP mX1_say 0 [some (.ref (ad (30, w, m))), some (.int (nI x)), some (.int kind), some (.int t)] [] (Rel ad g) _
  refine pp_aload_n dX1_say_0 rfl isRf_r (q := 1) rfl ?_
  refine pp_iload_n dX1_say_1 rfl (q := 2) rfl ?_
  refine pp_iload_n dX1_say_2 rfl (q := 3) rfl ?_
  refine pp_iload_n dX1_say_3 rfl (q := 4) rfl ?_
  refine pp_iconst dX1_say_4 ci_m1 (q := 5) rfl ?_
  refine ps_callVv dX1_say_5 lk_X1_79 hm rfl rfl (by rfl) (c_enter hm hx) (by rfl) (by exact Nat.le_of_ble_eq_true rfl) (by decide) (by decide) (by exact Nat.le_of_ble_eq_true rfl) (q := 8) rfl (fun g5 h5 => ?_)
  have h5 := h5.symm
  subst h5
  refine rv_ret dX1_say_8 rfl ?_
  exact rfl
set_option maxRecDepth 20000 in
set_option maxHeartbeats 4000000 in
theorem c_raiseTerm {ad : Nm → Nat} {g : Sg} {w m : Nat} {t : Int32} (hm : al g (30, w, m)) (hx : m < 64) : PS mX1_raiseTerm 0 (ent mX1_raiseTerm [.ref (ad (30, w, m)), .int t]) [] ad g (Rv (fun g' => g' = enG (sI g (30, w, m) 4 t) w m m (nI 1) t (-1))) := by
  show PP mX1_raiseTerm 0 [some (.ref (ad (30, w, m))), some (.int t)] [] (Rel ad g) _
  refine pp_aload_n dX1_raiseTerm_0 rfl isRf_r (q := 1) rfl ?_
  refine pp_iload_n dX1_raiseTerm_1 rfl (q := 2) rfl ?_
  refine ps_puti dX1_raiseTerm_2 fl_X1_45 hm rfl (by exact Nat.le_of_ble_eq_true rfl) rfl rfl rfl (q := 5) rfl ?_
  refine pp_aload_n dX1_raiseTerm_5 rfl isRf_r (q := 6) rfl ?_
  refine pp_aload_n dX1_raiseTerm_6 rfl isRf_r (q := 7) rfl ?_
  refine ps_get dX1_raiseTerm_7 fl_X1_9 hm rfl rfl (q := 10) rfl ?_
  refine pp_iconst dX1_raiseTerm_10 ci_1 (q := 11) rfl ?_
  refine pp_iload_n dX1_raiseTerm_11 rfl (q := 12) rfl ?_
  refine pp_iconst dX1_raiseTerm_12 ci_m1 (q := 13) rfl ?_
  refine ps_callVv dX1_raiseTerm_13 lk_X1_79 hm rfl rfl (by rfl) (c_enter hm hx) (by rfl) (by exact Nat.le_of_ble_eq_true rfl) (by decide) (by decide) (by exact Nat.le_of_ble_eq_true rfl) (q := 16) rfl (fun g13 h13 => ?_)
  have h13 := h13.symm
  subst h13
  refine rv_ret dX1_raiseTerm_16 rfl ?_
  exact rfl
def fgG (g : Sg) (w m : Nat) : Sg := sA (sA (sA (sA (sA g (31, w, m) (fillf (gA g (31, w, m)) (nI 0) 64)) (32, w, m) (fillf (gA g (32, w, m)) (nI 0) 64)) (33, w, m) (fillf (gA g (33, w, m)) (nI 0) 64)) (34, w, m) (fillf (gA g (34, w, m)) (nI 0) 64)) (35, w, m) (fillf (gA g (35, w, m)) (nI 0) 64)
def stG (g : Sg) (w m : Nat) : Sg := sI (sI (sI (sI g (30, w, m) 6 (-1)) (30, w, m) 7 (-1)) (30, w, m) 14 (nI 0)) (30, w, m) 15 (nI 0)
def faG (g : Sg) (w m : Nat) : Sg := enG (stG (fgG g w m) w m) w m m (nI 1) (gI (stG (fgG g w m) w m) (30, w, m) 4) (-1)
set_option maxRecDepth 20000 in
set_option maxHeartbeats 4000000 in
theorem c_forgetAll {ad : Nm → Nat} {g : Sg} {w m : Nat}  (hm : al g (30, w, m)) (hx : m < 64) : PS mX1_forgetAll 0 (ent mX1_forgetAll [.ref (ad (30, w, m))]) [] ad g (Rv (fun g' => g' = faG g w m)) := by
  show PP mX1_forgetAll 0 [some (.ref (ad (30, w, m)))] [] (Rel ad g) _
  refine pp_aload_n dX1_forgetAll_0 rfl isRf_r (q := 1) rfl ?_
  refine ps_get dX1_forgetAll_1 fl_X1_19 hm rfl rfl (q := 4) rfl ?_
  refine pp_iconst dX1_forgetAll_4 ci_0 (q := 5) rfl ?_
  refine ps_callSv dX1_forgetAll_5 lk_X1_54 (by rfl) (c_fill (n := (31, w, m)) hm (fun _ _ _ _ _ _ _ => rfl) (by decide)) (by rfl) (by exact Nat.le_of_ble_eq_true rfl) (by decide) (by decide) (by exact Nat.le_of_ble_eq_true rfl) (q := 8) rfl (fun g5 h5 => ?_)
  have h5 := h5.symm
  subst h5
  refine pp_aload_n dX1_forgetAll_8 rfl isRf_r (q := 9) rfl ?_
  refine ps_get dX1_forgetAll_9 fl_X1_23 hm rfl rfl (q := 12) rfl ?_
  refine pp_iconst dX1_forgetAll_12 ci_0 (q := 13) rfl ?_
  refine ps_callSv dX1_forgetAll_13 lk_X1_54 (by rfl) (c_fill (n := (32, w, m)) hm (fun _ _ _ _ _ _ _ => rfl) (by decide)) (by rfl) (by exact Nat.le_of_ble_eq_true rfl) (by decide) (by decide) (by exact Nat.le_of_ble_eq_true rfl) (q := 16) rfl (fun g13 h13 => ?_)
  have h13 := h13.symm
  subst h13
  refine pp_aload_n dX1_forgetAll_16 rfl isRf_r (q := 17) rfl ?_
  refine ps_get dX1_forgetAll_17 fl_X1_26 hm rfl rfl (q := 20) rfl ?_
  refine pp_iconst dX1_forgetAll_20 ci_0 (q := 21) rfl ?_
  refine ps_callSv dX1_forgetAll_21 lk_X1_54 (by rfl) (c_fill (n := (33, w, m)) hm (fun _ _ _ _ _ _ _ => rfl) (by decide)) (by rfl) (by exact Nat.le_of_ble_eq_true rfl) (by decide) (by decide) (by exact Nat.le_of_ble_eq_true rfl) (q := 24) rfl (fun g21 h21 => ?_)
  have h21 := h21.symm
  subst h21
  refine pp_aload_n dX1_forgetAll_24 rfl isRf_r (q := 25) rfl ?_
  refine ps_get dX1_forgetAll_25 fl_X1_29 hm rfl rfl (q := 28) rfl ?_
  refine pp_iconst dX1_forgetAll_28 ci_0 (q := 29) rfl ?_
  refine ps_callSv dX1_forgetAll_29 lk_X1_54 (by rfl) (c_fill (n := (34, w, m)) hm (fun _ _ _ _ _ _ _ => rfl) (by decide)) (by rfl) (by exact Nat.le_of_ble_eq_true rfl) (by decide) (by decide) (by exact Nat.le_of_ble_eq_true rfl) (q := 32) rfl (fun g29 h29 => ?_)
  have h29 := h29.symm
  subst h29
  refine pp_aload_n dX1_forgetAll_32 rfl isRf_r (q := 33) rfl ?_
  refine ps_get dX1_forgetAll_33 fl_X1_32 hm rfl rfl (q := 36) rfl ?_
  refine pp_iconst dX1_forgetAll_36 ci_0 (q := 37) rfl ?_
  refine ps_callSv dX1_forgetAll_37 lk_X1_54 (by rfl) (c_fill (n := (35, w, m)) hm (fun _ _ _ _ _ _ _ => rfl) (by decide)) (by rfl) (by exact Nat.le_of_ble_eq_true rfl) (by decide) (by decide) (by exact Nat.le_of_ble_eq_true rfl) (q := 40) rfl (fun g37 h37 => ?_)
  have h37 := h37.symm
  subst h37
  refine pp_aload_n dX1_forgetAll_40 rfl isRf_r (q := 41) rfl ?_
  refine ps_callVv dX1_forgetAll_41 lk_X1_60 hm rfl rfl (by rfl) (c_stopAsking hm) (by rfl) (by exact Nat.le_of_ble_eq_true rfl) (by decide) (by decide) (by exact Nat.le_of_ble_eq_true rfl) (q := 44) rfl (fun g41 h41 => ?_)
  have h41 := h41.symm
  subst h41
  refine pp_aload_n dX1_forgetAll_44 rfl isRf_r (q := 45) rfl ?_
  refine pp_aload_n dX1_forgetAll_45 rfl isRf_r (q := 46) rfl ?_
  refine ps_get dX1_forgetAll_46 fl_X1_9 hm rfl rfl (q := 49) rfl ?_
  refine pp_iconst dX1_forgetAll_49 ci_1 (q := 50) rfl ?_
  refine pp_aload_n dX1_forgetAll_50 rfl isRf_r (q := 51) rfl ?_
  refine ps_get dX1_forgetAll_51 fl_X1_45 hm rfl rfl (q := 54) rfl ?_
  refine ps_callVv dX1_forgetAll_54 lk_X1_63 hm rfl rfl (by rfl) (c_say hm hx) (by rfl) (by exact Nat.le_of_ble_eq_true rfl) (by decide) (by decide) (by exact Nat.le_of_ble_eq_true rfl) (q := 57) rfl (fun g54 h54 => ?_)
  have h54 := h54.symm
  subst h54
  refine rv_ret dX1_forgetAll_57 rfl ?_
  exact rfl
def bgG (g : Sg) (w m : Nat) (sd : Int64) : Sg := faG (sI (sI (sJ (sI (sI g (30, w, m) 1 (nI 1)) (30, w, m) 2 (nI 0)) (30, w, m) sd) (30, w, m) 4 (nI 1)) (30, w, m) 5 (nI 0)) w m
set_option maxRecDepth 20000 in
set_option maxHeartbeats 4000000 in
theorem c_begin {ad : Nm → Nat} {g : Sg} {w m : Nat} {sd : Int64} (hm : al g (30, w, m)) (hx : m < 64) : PS mX1_begin 0 (ent mX1_begin [.ref (ad (30, w, m)), .long sd]) [] ad g (Rv (fun g' => g' = bgG g w m sd)) := by
  show PP mX1_begin 0 [some (.ref (ad (30, w, m))), some (.long sd), none] [] (Rel ad g) _
  refine pp_aload_n dX1_begin_0 rfl isRf_r (q := 1) rfl ?_
  refine pp_iconst dX1_begin_1 ci_1 (q := 2) rfl ?_
  refine ps_puti dX1_begin_2 fl_X1_15 hm rfl (by exact Nat.le_of_ble_eq_true rfl) (by decide) rfl rfl (q := 5) rfl ?_
  refine pp_aload_n dX1_begin_5 rfl isRf_r (q := 6) rfl ?_
  refine pp_iconst dX1_begin_6 ci_0 (q := 7) rfl ?_
  refine ps_puti dX1_begin_7 fl_X1_38 hm rfl (by exact Nat.le_of_ble_eq_true rfl) rfl rfl rfl (q := 10) rfl ?_
  refine pp_aload_n dX1_begin_10 rfl isRf_r (q := 11) rfl ?_
  refine pp_lload_n dX1_begin_11 rfl (q := 12) rfl ?_
  refine ps_putl dX1_begin_12 fl_X1_41 hm rfl (by exact Nat.le_of_ble_eq_true rfl) rfl rfl rfl (q := 15) rfl ?_
  refine pp_aload_n dX1_begin_15 rfl isRf_r (q := 16) rfl ?_
  refine pp_iconst dX1_begin_16 ci_1 (q := 17) rfl ?_
  refine ps_puti dX1_begin_17 fl_X1_45 hm rfl (by exact Nat.le_of_ble_eq_true rfl) rfl rfl rfl (q := 20) rfl ?_
  refine pp_aload_n dX1_begin_20 rfl isRf_r (q := 21) rfl ?_
  refine pp_iconst dX1_begin_21 ci_0 (q := 22) rfl ?_
  refine ps_puti dX1_begin_22 fl_X1_48 hm rfl (by exact Nat.le_of_ble_eq_true rfl) rfl rfl rfl (q := 25) rfl ?_
  refine pp_aload_n dX1_begin_25 rfl isRf_r (q := 26) rfl ?_
  refine ps_callVv dX1_begin_26 lk_X1_51 hm rfl rfl (by rfl) (c_forgetAll hm hx) (by rfl) (by exact Nat.le_of_ble_eq_true rfl) (by decide) (by decide) (by exact Nat.le_of_ble_eq_true rfl) (q := 29) rfl (fun g26 h26 => ?_)
  have h26 := h26.symm
  subst h26
  refine rv_ret dX1_begin_29 rfl ?_
  exact rfl
def beats (K T : Nat → Int32) (x : Nat) (kind pt : Int32) : Prop := K x = 0 ∨ T x < pt ∨ (pt = T x ∧ K x < kind)
theorem beats_dec (K T : Nat → Int32) (x : Nat) (kind pt : Int32) : (∃ b : Int32, (beats K T x kind pt ∧ b = nI 1) ∨ (¬ beats K T x kind pt ∧ b = nI 0)) := by
  by_cases h : beats K T x kind pt
  · exact ⟨_, Or.inl ⟨h, rfl⟩⟩
  · exact ⟨_, Or.inr ⟨h, rfl⟩⟩
/-- a truth as an int -/
def isB (v : Int32) (b : Prop) : Prop := (b ∧ v = nI 1) ∨ (¬ b ∧ v = nI 0)
theorem isB_n {v : Int32} {b : Prop} (h : isB v b) : narrow .boolean (.int v) = .int v := by
  rcases h with ⟨-, rfl⟩ | ⟨-, rfl⟩ <;> decide
theorem isB_t {v : Int32} {b : Prop} (h : isB v b) (hv : ¬ v = 0) : b := by
  rcases h with ⟨h, -⟩ | ⟨-, rfl⟩
  · exact h
  · exact absurd rfl hv
theorem isB_f {v : Int32} {b : Prop} (h : isB v b) (hv : v = 0) : ¬ b := by
  rcases h with ⟨-, rfl⟩ | ⟨h, -⟩
  · exact absurd hv nI1_ne
  · exact h
theorem isB_1 {b : Prop} (h : b) : isB (nI 1) b := Or.inl ⟨h, rfl⟩
theorem isB_0 {b : Prop} (h : ¬ b) : isB (nI 0) b := Or.inr ⟨h, rfl⟩
set_option maxRecDepth 20000 in
set_option maxHeartbeats 4000000 in
theorem c_isBeaten {ad : Nm → Nat} {g : Sg} {w m : Nat} {x : Nat} {kind pt : Int32} (hm : al g (30, w, m)) (hx : x < 64) : PS mX1_isBeaten 0 (ent mX1_isBeaten [.ref (ad (30, w, m)), .int (nI x), .int kind, .int pt]) [] ad g (Ri (fun v g' => isB v (beats (gA g (31, w, m)) (gA g (32, w, m)) x kind pt) ∧ g' = g)) := by
  show PP mX1_isBeaten 0 [some (.ref (ad (30, w, m))), some (.int (nI x)), some (.int kind), some (.int pt)] [] (Rel ad g) _
  refine pp_aload_n dX1_isBeaten_0 rfl isRf_r (q := 1) rfl ?_
  refine ps_get dX1_isBeaten_1 fl_X1_19 hm rfl rfl (q := 4) rfl ?_
  refine pp_iload_n dX1_isBeaten_4 rfl (q := 5) rfl ?_
  refine ps_iald dX1_isBeaten_5 hm rfl rfl (by omega) (by decide) (q := 6) rfl ?_
  refine pp_if_eq (tgt := 39) dX1_isBeaten_6 (by decide) (q := 9) rfl (fun c6 => ?_) (fun c6 => ?_)
  · refine pp_iconst dX1_isBeaten_39 ci_1 (q := 40) rfl ?_
    refine pp_goto (tgt := 44) dX1_isBeaten_40 (by decide) ?_
    refine ri_ret dX1_isBeaten_44 rfl (by decide) ?_
    refine ⟨?_, rfl⟩
    first
      | exact isB_1 (Or.inl c6)
      | exact isB_1 (Or.inr (Or.inl c16))
      | exact isB_1 (Or.inr (Or.inr ⟨c26, Int32.not_le.mp c36⟩))
      | exact isB_0 (fun h => h.elim c6 (fun h => h.elim c16 (fun h => c26 h.1)))
      | exact isB_0 (fun h => h.elim c6 (fun h => h.elim c16 (fun h => absurd h.2 (Int32.not_lt.mpr c36))))
  · refine pp_iload_n dX1_isBeaten_9 rfl (q := 10) rfl ?_
    refine pp_aload_n dX1_isBeaten_10 rfl isRf_r (q := 11) rfl ?_
    refine ps_get dX1_isBeaten_11 fl_X1_23 hm rfl rfl (q := 14) rfl ?_
    refine pp_iload_n dX1_isBeaten_14 rfl (q := 15) rfl ?_
    refine ps_iald dX1_isBeaten_15 hm rfl rfl (by omega) (by decide) (q := 16) rfl ?_
    refine pp_icmp_gt (tgt := 39) dX1_isBeaten_16 (by decide) (q := 19) rfl (fun c16 => ?_) (fun c16 => ?_)
    · refine pp_iconst dX1_isBeaten_39 ci_1 (q := 40) rfl ?_
      refine pp_goto (tgt := 44) dX1_isBeaten_40 (by decide) ?_
      refine ri_ret dX1_isBeaten_44 rfl (by decide) ?_
      refine ⟨?_, rfl⟩
      first
        | exact isB_1 (Or.inl c6)
        | exact isB_1 (Or.inr (Or.inl c16))
        | exact isB_1 (Or.inr (Or.inr ⟨c26, Int32.not_le.mp c36⟩))
        | exact isB_0 (fun h => h.elim c6 (fun h => h.elim c16 (fun h => c26 h.1)))
        | exact isB_0 (fun h => h.elim c6 (fun h => h.elim c16 (fun h => absurd h.2 (Int32.not_lt.mpr c36))))
    · refine pp_iload_n dX1_isBeaten_19 rfl (q := 20) rfl ?_
      refine pp_aload_n dX1_isBeaten_20 rfl isRf_r (q := 21) rfl ?_
      refine ps_get dX1_isBeaten_21 fl_X1_23 hm rfl rfl (q := 24) rfl ?_
      refine pp_iload_n dX1_isBeaten_24 rfl (q := 25) rfl ?_
      refine ps_iald dX1_isBeaten_25 hm rfl rfl (by omega) (by decide) (q := 26) rfl ?_
      refine pp_icmp_ne (tgt := 43) dX1_isBeaten_26 (by decide) (q := 29) rfl (fun c26 => ?_) (fun c26 => ?_)
      · refine pp_iconst dX1_isBeaten_43 ci_0 (q := 44) rfl ?_
        refine ri_ret dX1_isBeaten_44 rfl (by decide) ?_
        refine ⟨?_, rfl⟩
        first
          | exact isB_1 (Or.inl c6)
          | exact isB_1 (Or.inr (Or.inl c16))
          | exact isB_1 (Or.inr (Or.inr ⟨c26, Int32.not_le.mp c36⟩))
          | exact isB_0 (fun h => h.elim c6 (fun h => h.elim c16 (fun h => c26 h.1)))
          | exact isB_0 (fun h => h.elim c6 (fun h => h.elim c16 (fun h => absurd h.2 (Int32.not_lt.mpr c36))))
      · refine pp_iload_n dX1_isBeaten_29 rfl (q := 30) rfl ?_
        refine pp_aload_n dX1_isBeaten_30 rfl isRf_r (q := 31) rfl ?_
        refine ps_get dX1_isBeaten_31 fl_X1_19 hm rfl rfl (q := 34) rfl ?_
        refine pp_iload_n dX1_isBeaten_34 rfl (q := 35) rfl ?_
        refine ps_iald dX1_isBeaten_35 hm rfl rfl (by omega) (by decide) (q := 36) rfl ?_
        refine pp_icmp_le (tgt := 43) dX1_isBeaten_36 (by decide) (q := 39) rfl (fun c36 => ?_) (fun c36 => ?_)
        · refine pp_iconst dX1_isBeaten_43 ci_0 (q := 44) rfl ?_
          refine ri_ret dX1_isBeaten_44 rfl (by decide) ?_
          refine ⟨?_, rfl⟩
          first
            | exact isB_1 (Or.inl c6)
            | exact isB_1 (Or.inr (Or.inl c16))
            | exact isB_1 (Or.inr (Or.inr ⟨c26, Int32.not_le.mp c36⟩))
            | exact isB_0 (fun h => h.elim c6 (fun h => h.elim c16 (fun h => c26 h.1)))
            | exact isB_0 (fun h => h.elim c6 (fun h => h.elim c16 (fun h => absurd h.2 (Int32.not_lt.mpr c36))))
        · refine pp_iconst dX1_isBeaten_39 ci_1 (q := 40) rfl ?_
          refine pp_goto (tgt := 44) dX1_isBeaten_40 (by decide) ?_
          refine ri_ret dX1_isBeaten_44 rfl (by decide) ?_
          refine ⟨?_, rfl⟩
          first
            | exact isB_1 (Or.inl c6)
            | exact isB_1 (Or.inr (Or.inl c16))
            | exact isB_1 (Or.inr (Or.inr ⟨c26, Int32.not_le.mp c36⟩))
            | exact isB_0 (fun h => h.elim c6 (fun h => h.elim c16 (fun h => c26 h.1)))
            | exact isB_0 (fun h => h.elim c6 (fun h => h.elim c16 (fun h => absurd h.2 (Int32.not_lt.mpr c36))))
set_option maxRecDepth 20000 in
set_option maxHeartbeats 4000000 in
theorem c_hasNews {ad : Nm → Nat} {g : Sg} {w m : Nat} {x : Nat} (hm : al g (30, w, m)) (hx : x < 64) : PS mX1_hasNews 0 (ent mX1_hasNews [.ref (ad (30, w, m)), .int (nI x)]) [] ad g (Ri (fun v g' => isB v (¬ gA g (31, w, m) x = 0) ∧ g' = g)) := by
  show PP mX1_hasNews 0 [some (.ref (ad (30, w, m))), some (.int (nI x))] [] (Rel ad g) _
  refine pp_iload_n dX1_hasNews_0 rfl (q := 1) rfl ?_
  refine ps_callNi dX1_hasNews_1 lk_X1_87 (by rfl) (c_isMem hx) (by rfl) (by exact Nat.le_of_ble_eq_true rfl) (by decide) (by decide) (by exact Nat.le_of_ble_eq_true rfl) (q := 4) rfl (fun r1 g1 h1 => ?_)
  obtain ⟨rfl, rfl⟩ := And.intro h1.1.symm h1.2.symm
  refine pp_if_eq (tgt := 20) dX1_hasNews_4 (by decide) (q := 7) rfl (fun c4 => absurd c4 nI1_ne) (fun c4 => ?_)
  refine pp_aload_n dX1_hasNews_7 rfl isRf_r (q := 8) rfl ?_
  refine ps_get dX1_hasNews_8 fl_X1_19 hm rfl rfl (q := 11) rfl ?_
  refine pp_iload_n dX1_hasNews_11 rfl (q := 12) rfl ?_
  refine ps_iald dX1_hasNews_12 hm rfl rfl (by omega) (by decide) (q := 13) rfl ?_
  refine pp_if_eq (tgt := 20) dX1_hasNews_13 (by decide) (q := 16) rfl (fun c13 => ?_) (fun c13 => ?_)
  · refine pp_iconst dX1_hasNews_20 ci_0 (q := 21) rfl ?_
    refine ri_ret dX1_hasNews_21 rfl (by decide) ?_
    refine ⟨?_, rfl⟩
    first | exact isB_1 c13 | exact isB_0 (fun h => h c13)
  · refine pp_iconst dX1_hasNews_16 ci_1 (q := 17) rfl ?_
    refine pp_goto (tgt := 21) dX1_hasNews_17 (by decide) ?_
    refine ri_ret dX1_hasNews_21 rfl (by decide) ?_
    refine ⟨?_, rfl⟩
    first | exact isB_1 c13 | exact isB_0 (fun h => h c13)
def living (K : Nat → Int32) (x : Nat) : Prop := K x = nI 1 ∨ K x = nI 2
set_option maxRecDepth 20000 in
set_option maxHeartbeats 4000000 in
theorem c_thinksLiving {ad : Nm → Nat} {g : Sg} {w m : Nat} {x : Nat} (hm : al g (30, w, m)) (hx : x < 64) : PS mX1_thinksLiving 0 (ent mX1_thinksLiving [.ref (ad (30, w, m)), .int (nI x)]) [] ad g (Ri (fun v g' => isB v (living (gA g (31, w, m)) x) ∧ g' = g)) := by
  show PP mX1_thinksLiving 0 [some (.ref (ad (30, w, m))), some (.int (nI x))] [] (Rel ad g) _
  refine pp_iload_n dX1_thinksLiving_0 rfl (q := 1) rfl ?_
  refine pp_if_lt (tgt := 34) dX1_thinksLiving_1 (by decide) (q := 4) rfl (fun c1 => absurd c1 (nI_pos (by omega))) (fun c1 => ?_)
  refine pp_iload_n dX1_thinksLiving_4 rfl (q := 5) rfl ?_
  refine pp_bipush dX1_thinksLiving_5 cb_64 (q := 7) rfl ?_
  refine pp_icmp_ge (tgt := 34) dX1_thinksLiving_7 (by decide) (q := 10) rfl (fun c7 => absurd c7 (nI_ge hx (by decide))) (fun c7 => ?_)
  refine pp_aload_n dX1_thinksLiving_10 rfl isRf_r (q := 11) rfl ?_
  refine ps_get dX1_thinksLiving_11 fl_X1_19 hm rfl rfl (q := 14) rfl ?_
  refine pp_iload_n dX1_thinksLiving_14 rfl (q := 15) rfl ?_
  refine ps_iald dX1_thinksLiving_15 hm rfl rfl (by omega) (by decide) (q := 16) rfl ?_
  refine pp_iconst dX1_thinksLiving_16 ci_1 (q := 17) rfl ?_
  refine pp_icmp_eq (tgt := 30) dX1_thinksLiving_17 (by decide) (q := 20) rfl (fun c17 => ?_) (fun c17 => ?_)
  · refine pp_iconst dX1_thinksLiving_30 ci_1 (q := 31) rfl ?_
    refine pp_goto (tgt := 35) dX1_thinksLiving_31 (by decide) ?_
    refine ri_ret dX1_thinksLiving_35 rfl (by decide) ?_
    refine ⟨?_, rfl⟩
    first | exact isB_1 (Or.inl c17) | exact isB_1 (Or.inr c27) | exact isB_0 (fun h => h.elim c17 c27)
  · refine pp_aload_n dX1_thinksLiving_20 rfl isRf_r (q := 21) rfl ?_
    refine ps_get dX1_thinksLiving_21 fl_X1_19 hm rfl rfl (q := 24) rfl ?_
    refine pp_iload_n dX1_thinksLiving_24 rfl (q := 25) rfl ?_
    refine ps_iald dX1_thinksLiving_25 hm rfl rfl (by omega) (by decide) (q := 26) rfl ?_
    refine pp_iconst dX1_thinksLiving_26 ci_2 (q := 27) rfl ?_
    refine pp_icmp_ne (tgt := 34) dX1_thinksLiving_27 (by decide) (q := 30) rfl (fun c27 => ?_) (fun c27 => ?_)
    · refine pp_iconst dX1_thinksLiving_34 ci_0 (q := 35) rfl ?_
      refine ri_ret dX1_thinksLiving_35 rfl (by decide) ?_
      refine ⟨?_, rfl⟩
      first | exact isB_1 (Or.inl c17) | exact isB_1 (Or.inr c27) | exact isB_0 (fun h => h.elim c17 c27)
    · refine pp_iconst dX1_thinksLiving_30 ci_1 (q := 31) rfl ?_
      refine pp_goto (tgt := 35) dX1_thinksLiving_31 (by decide) ?_
      refine ri_ret dX1_thinksLiving_35 rfl (by decide) ?_
      refine ⟨?_, rfl⟩
      first | exact isB_1 (Or.inl c17) | exact isB_1 (Or.inr c27) | exact isB_0 (fun h => h.elim c17 c27)
set_option maxRecDepth 20000 in
set_option maxHeartbeats 4000000 in
theorem c_saysItself {ad : Nm → Nat} {g : Sg} {w m : Nat} {x : Nat} {kind t : Int32} (hm : al g (30, w, m)) (hx : x < 64) : PS mX1_saysItself 0 (ent mX1_saysItself [.ref (ad (30, w, m)), .int (nI x), .int kind, .int t]) [] ad g (Ri (fun v g' => isB v (¬ gA g (31, w, m) x = 0 ∧ gA g (31, w, m) x = kind ∧ gA g (32, w, m) x = t ∧ gA g (35, w, m) x = -1) ∧ g' = g)) := by
  show PP mX1_saysItself 0 [some (.ref (ad (30, w, m))), some (.int (nI x)), some (.int kind), some (.int t)] [] (Rel ad g) _
  refine pp_aload_n dX1_saysItself_0 rfl isRf_r (q := 1) rfl ?_
  refine pp_iload_n dX1_saysItself_1 rfl (q := 2) rfl ?_
  refine ps_callVi dX1_saysItself_2 lk_X1_95 hm rfl rfl (by rfl) (c_hasNews hm hx) (by rfl) (by exact Nat.le_of_ble_eq_true rfl) (by decide) (by decide) (by exact Nat.le_of_ble_eq_true rfl) (q := 5) rfl (fun r2 g2 h2 => ?_)
  obtain ⟨hb2, rfl⟩ := And.intro h2.1 h2.2.symm
  refine pp_if_eq (tgt := 42) dX1_saysItself_5 (by decide) (q := 8) rfl (fun c5 => ?_) (fun c5 => ?_)
  · have hz := isB_f hb2 c5
    refine pp_iconst dX1_saysItself_42 ci_0 (q := 43) rfl ?_
    refine ri_ret dX1_saysItself_43 rfl (by decide) ?_
    refine ⟨?_, rfl⟩
    first
      | exact isB_1 ⟨hz, c15, c25, c35⟩
      | exact isB_0 (fun h => hz h.1)
      | exact isB_0 (fun h => c15 h.2.1)
      | exact isB_0 (fun h => c25 h.2.2.1)
      | exact isB_0 (fun h => c35 h.2.2.2)
  · have hz := isB_t hb2 c5
    refine pp_aload_n dX1_saysItself_8 rfl isRf_r (q := 9) rfl ?_
    refine ps_get dX1_saysItself_9 fl_X1_19 hm rfl rfl (q := 12) rfl ?_
    refine pp_iload_n dX1_saysItself_12 rfl (q := 13) rfl ?_
    refine ps_iald dX1_saysItself_13 hm rfl rfl (by omega) (by decide) (q := 14) rfl ?_
    refine pp_iload_n dX1_saysItself_14 rfl (q := 15) rfl ?_
    refine pp_icmp_ne (tgt := 42) dX1_saysItself_15 (by decide) (q := 18) rfl (fun c15 => ?_) (fun c15 => ?_)
    · refine pp_iconst dX1_saysItself_42 ci_0 (q := 43) rfl ?_
      refine ri_ret dX1_saysItself_43 rfl (by decide) ?_
      refine ⟨?_, rfl⟩
      first
        | exact isB_1 ⟨hz, c15, c25, c35⟩
        | exact isB_0 (fun h => hz h.1)
        | exact isB_0 (fun h => c15 h.2.1)
        | exact isB_0 (fun h => c25 h.2.2.1)
        | exact isB_0 (fun h => c35 h.2.2.2)
    · refine pp_aload_n dX1_saysItself_18 rfl isRf_r (q := 19) rfl ?_
      refine ps_get dX1_saysItself_19 fl_X1_23 hm rfl rfl (q := 22) rfl ?_
      refine pp_iload_n dX1_saysItself_22 rfl (q := 23) rfl ?_
      refine ps_iald dX1_saysItself_23 hm rfl rfl (by omega) (by decide) (q := 24) rfl ?_
      refine pp_iload_n dX1_saysItself_24 rfl (q := 25) rfl ?_
      refine pp_icmp_ne (tgt := 42) dX1_saysItself_25 (by decide) (q := 28) rfl (fun c25 => ?_) (fun c25 => ?_)
      · refine pp_iconst dX1_saysItself_42 ci_0 (q := 43) rfl ?_
        refine ri_ret dX1_saysItself_43 rfl (by decide) ?_
        refine ⟨?_, rfl⟩
        first
          | exact isB_1 ⟨hz, c15, c25, c35⟩
          | exact isB_0 (fun h => hz h.1)
          | exact isB_0 (fun h => c15 h.2.1)
          | exact isB_0 (fun h => c25 h.2.2.1)
          | exact isB_0 (fun h => c35 h.2.2.2)
      · refine pp_aload_n dX1_saysItself_28 rfl isRf_r (q := 29) rfl ?_
        refine ps_get dX1_saysItself_29 fl_X1_32 hm rfl rfl (q := 32) rfl ?_
        refine pp_iload_n dX1_saysItself_32 rfl (q := 33) rfl ?_
        refine ps_iald dX1_saysItself_33 hm rfl rfl (by omega) (by decide) (q := 34) rfl ?_
        refine pp_iconst dX1_saysItself_34 ci_m1 (q := 35) rfl ?_
        refine pp_icmp_ne (tgt := 42) dX1_saysItself_35 (by decide) (q := 38) rfl (fun c35 => ?_) (fun c35 => ?_)
        · refine pp_iconst dX1_saysItself_42 ci_0 (q := 43) rfl ?_
          refine ri_ret dX1_saysItself_43 rfl (by decide) ?_
          refine ⟨?_, rfl⟩
          first
            | exact isB_1 ⟨hz, c15, c25, c35⟩
            | exact isB_0 (fun h => hz h.1)
            | exact isB_0 (fun h => c15 h.2.1)
            | exact isB_0 (fun h => c25 h.2.2.1)
            | exact isB_0 (fun h => c35 h.2.2.2)
        · refine pp_iconst dX1_saysItself_38 ci_1 (q := 39) rfl ?_
          refine pp_goto (tgt := 43) dX1_saysItself_39 (by decide) ?_
          refine ri_ret dX1_saysItself_43 rfl (by decide) ?_
          refine ⟨?_, rfl⟩
          first
            | exact isB_1 ⟨hz, c15, c25, c35⟩
            | exact isB_0 (fun h => hz h.1)
            | exact isB_0 (fun h => c15 h.2.1)
            | exact isB_0 (fun h => c25 h.2.2.1)
            | exact isB_0 (fun h => c35 h.2.2.2)
def cnt (f : Nat → Int32) (k : Int32) : Nat → Nat
  | 0 => 0
  | i + 1 => if f i = k then cnt f k i + 1 else cnt f k i
theorem cnt_le (f : Nat → Int32) (k : Int32) : ∀ i, cnt f k i ≤ i
  | 0 => Nat.le_refl 0
  | i + 1 => by unfold cnt; have := cnt_le f k i; split <;> omega
set_option maxRecDepth 20000 in
set_option maxHeartbeats 4000000 in
theorem l_countKind {ad : Nm → Nat} {g : Sg} {w m : Nat} {kind : Int32} (hm : al g (30, w, m)) : ∀ (j i : Nat), 64 - i < j → i ≤ 64 → PS mX1_countKind 4 [some (.ref (ad (30, w, m))), some (.int kind), some (.int (nI (cnt (gA g (31, w, m)) kind i))), some (.int (nI i))] [] ad g (Ri (fun v g' => v = nI (cnt (gA g (31, w, m)) kind 64) ∧ g' = g)) := by
  intro j
  induction j with
  | zero => intro i h; omega
  | succ j ih =>
    intro i hij hik
    refine pp_iload_n dX1_countKind_4 rfl (q := 5) rfl ?_
    refine pp_bipush dX1_countKind_5 cb_64 (q := 7) rfl ?_
    refine pp_icmp_ge (tgt := 29) dX1_countKind_7 (by decide) (q := 10) rfl (fun c7 => ?_) (fun c7 => ?_)
    · have e : i = 64 := by have := leT c7 (by decide) (by omega); omega
      subst e
      refine pp_iload_n dX1_countKind_29 rfl (q := 30) rfl ?_
      exact ri_ret dX1_countKind_30 rfl rfl ⟨rfl, rfl⟩
    · have hlt := leF c7 (by decide) (by omega)
      refine pp_aload_n dX1_countKind_10 rfl isRf_r (q := 11) rfl ?_
      refine ps_get dX1_countKind_11 fl_X1_19 hm rfl rfl (q := 14) rfl ?_
      refine pp_iload_n dX1_countKind_14 rfl (q := 15) rfl ?_
      refine ps_iald dX1_countKind_15 hm rfl rfl (by omega) (by decide) (q := 16) rfl ?_
      refine pp_iload_n dX1_countKind_16 rfl (q := 17) rfl ?_
      refine pp_icmp_ne (tgt := 23) dX1_countKind_17 (by decide) (q := 20) rfl (fun c17 => ?_) (fun c17 => ?_)
      · refine pp_iinc dX1_countKind_23 rfl (nI_1 _) (ls1_3 (nl1 rfl)) (q := 26) rfl ?_
        refine pp_goto (tgt := 4) dX1_countKind_26 (by decide) ?_
        have hh := ih (i + 1) (by omega) (by omega)
        simp only [cnt, c17, if_true, if_false] at hh
        exact hh
      · refine pp_iinc dX1_countKind_20 rfl (nI_1 _) (ls1_2 (nl1 rfl)) (q := 23) rfl ?_
        refine pp_iinc dX1_countKind_23 rfl (nI_1 _) (ls1_3 (nl1 rfl)) (q := 26) rfl ?_
        refine pp_goto (tgt := 4) dX1_countKind_26 (by decide) ?_
        have hh := ih (i + 1) (by omega) (by omega)
        simp only [cnt, c17, if_true, if_false] at hh
        exact hh
set_option maxRecDepth 20000 in
set_option maxHeartbeats 4000000 in
theorem c_countKind {ad : Nm → Nat} {g : Sg} {w m : Nat} {kind : Int32} (hm : al g (30, w, m))  : PS mX1_countKind 0 (ent mX1_countKind [.ref (ad (30, w, m)), .int kind]) [] ad g (Ri (fun v g' => v = nI (cnt (gA g (31, w, m)) kind 64) ∧ g' = g)) := by
  show PP mX1_countKind 0 [some (.ref (ad (30, w, m))), some (.int kind), none, none] [] (Rel ad g) _
  refine pp_iconst dX1_countKind_0 ci_0 (q := 1) rfl ?_
  refine pp_istore_n dX1_countKind_1 (by decide) (ls1_2 (nl1 rfl)) (q := 2) rfl ?_
  refine pp_iconst dX1_countKind_2 ci_0 (q := 3) rfl ?_
  refine pp_istore_n dX1_countKind_3 (by decide) (ls1_3 (nl1 rfl)) (q := 4) rfl ?_
  exact l_countKind hm 65 0 (by decide) (by decide)
def anG (g : Sg) (w m : Nat) (x : Int32) : Sg := if gI g (30, w, m) 6 = x then (if gI g (30, w, m) 7 = x then sI (sI g (30, w, m) 6 (-1)) (30, w, m) 7 (-1) else sI g (30, w, m) 6 (-1)) else (if gI g (30, w, m) 7 = x then sI g (30, w, m) 7 (-1) else g)
theorem gI67 {g : Sg} {w m : Nat} {v : Int32} : gI (sI g (30, w, m) 6 v) (30, w, m) 7 = gI g (30, w, m) 7 := by rw [gI_sI, if_neg (fun h => by cases h.2)]
set_option maxRecDepth 20000 in
set_option maxHeartbeats 4000000 in
theorem c_isAnswered {ad : Nm → Nat} {g : Sg} {w m : Nat} {x : Int32} (hm : al g (30, w, m))  : PS mX1_isAnswered 0 (ent mX1_isAnswered [.ref (ad (30, w, m)), .int x]) [] ad g (Rv (fun g' => g' = anG g w m x)) := by
  show PP mX1_isAnswered 0 [some (.ref (ad (30, w, m))), some (.int x)] [] (Rel ad g) _
  refine pp_aload_n dX1_isAnswered_0 rfl isRf_r (q := 1) rfl ?_
  refine ps_get dX1_isAnswered_1 fl_X1_67 hm rfl rfl (q := 4) rfl ?_
  refine pp_iload_n dX1_isAnswered_4 rfl (q := 5) rfl ?_
  refine pp_icmp_ne (tgt := 13) dX1_isAnswered_5 (by decide) (q := 8) rfl (fun c5 => ?_) (fun c5 => ?_)
  · refine pp_aload_n dX1_isAnswered_13 rfl isRf_r (q := 14) rfl ?_
    refine ps_get dX1_isAnswered_14 fl_X1_70 hm rfl rfl (q := 17) rfl ?_
    refine pp_iload_n dX1_isAnswered_17 rfl (q := 18) rfl ?_
    refine pp_icmp_ne (tgt := 26) dX1_isAnswered_18 (by decide) (q := 21) rfl (fun c18 => ?_) (fun c18 => ?_)
    · refine rv_ret dX1_isAnswered_26 rfl ?_
      try simp only [gI67] at c18
      simp [anG, c5, c18]
    · refine pp_aload_n dX1_isAnswered_21 rfl isRf_r (q := 22) rfl ?_
      refine pp_iconst dX1_isAnswered_22 ci_m1 (q := 23) rfl ?_
      refine ps_puti dX1_isAnswered_23 fl_X1_70 hm rfl (by exact Nat.le_of_ble_eq_true rfl) rfl rfl rfl (q := 26) rfl ?_
      refine rv_ret dX1_isAnswered_26 rfl ?_
      try simp only [gI67] at c18
      simp [anG, c5, c18]
  · refine pp_aload_n dX1_isAnswered_8 rfl isRf_r (q := 9) rfl ?_
    refine pp_iconst dX1_isAnswered_9 ci_m1 (q := 10) rfl ?_
    refine ps_puti dX1_isAnswered_10 fl_X1_67 hm rfl (by exact Nat.le_of_ble_eq_true rfl) rfl rfl rfl (q := 13) rfl ?_
    refine pp_aload_n dX1_isAnswered_13 rfl isRf_r (q := 14) rfl ?_
    refine ps_get dX1_isAnswered_14 fl_X1_70 hm rfl rfl (q := 17) rfl ?_
    refine pp_iload_n dX1_isAnswered_17 rfl (q := 18) rfl ?_
    refine pp_icmp_ne (tgt := 26) dX1_isAnswered_18 (by decide) (q := 21) rfl (fun c18 => ?_) (fun c18 => ?_)
    · refine rv_ret dX1_isAnswered_26 rfl ?_
      try simp only [gI67] at c18
      simp [anG, c5, c18]
    · refine pp_aload_n dX1_isAnswered_21 rfl isRf_r (q := 22) rfl ?_
      refine pp_iconst dX1_isAnswered_22 ci_m1 (q := 23) rfl ?_
      refine ps_puti dX1_isAnswered_23 fl_X1_70 hm rfl (by exact Nat.le_of_ble_eq_true rfl) rfl rfl rfl (q := 26) rfl ?_
      refine rv_ret dX1_isAnswered_26 rfl ?_
      try simp only [gI67] at c18
      simp [anG, c5, c18]
def stir (x : Int64) : Int64 := x * 6364136223846793005 + 1442695040888963407
def drw (x : Int64) (n : Nat) : Int32 := ((x.toUInt64 >>> ((nI 33).toInt64.toUInt64 &&& Int64.toUInt64 63)).toInt64 - (x.toUInt64 >>> ((nI 33).toInt64.toUInt64 &&& Int64.toUInt64 63)).toInt64 / lN n * lN n).toInt32
set_option maxRecDepth 20000 in
set_option maxHeartbeats 4000000 in
theorem c_stirred {ad : Nm → Nat} {g : Sg} {x : Int64} : PS mX1_stirred 0 (ent mX1_stirred [.long x]) [] ad g (Rj (fun v g' => v = stir x ∧ g' = g)) := by
  show PP mX1_stirred 0 [some (.long x), none] [] (Rel ad g) _
  refine pp_lload_n dX1_stirred_0 rfl (q := 1) rfl ?_
  refine pp_ldc2 (v := (6364136223846793005)) dX1_stirred_1 kc_X1_98 (q := 4) rfl ?_
  refine pp_lmul dX1_stirred_4 (q := 5) rfl ?_
  refine pp_ldc2 (v := (1442695040888963407)) dX1_stirred_5 kc_X1_100 (q := 8) rfl ?_
  refine pp_ladd dX1_stirred_8 (q := 9) rfl ?_
  refine rj_ret dX1_stirred_9 rfl ?_
  exact ⟨rfl, rfl⟩
set_option maxRecDepth 20000 in
set_option maxHeartbeats 4000000 in
theorem c_drawn {ad : Nm → Nat} {g : Sg} {x : Int64} {n : Nat} (hn : 1 ≤ n) (hb : n < 2 ^ 31) : PS mX1_drawn 0 (ent mX1_drawn [.long x, .int (nI n)]) [] ad g (Ri (fun v g' => v = drw x n ∧ g' = g)) := by
  show PP mX1_drawn 0 [some (.long x), none, some (.int (nI n))] [] (Rel ad g) _
  refine pp_iload_n dX1_drawn_0 rfl (q := 1) rfl ?_
  refine pp_iconst dX1_drawn_1 ci_1 (q := 2) rfl ?_
  refine pp_icmp_ge (tgt := 9) dX1_drawn_2 (by decide) (q := 5) rfl (fun c2 => ?_) (fun c2 => absurd (nI_le hn (by omega)) c2)
  refine pp_lload_n dX1_drawn_9 rfl (q := 10) rfl ?_
  refine pp_bipush dX1_drawn_10 cb_33 (q := 12) rfl ?_
  refine pp_lushr dX1_drawn_12 (q := 13) rfl ?_
  refine pp_iload_n dX1_drawn_13 rfl (q := 14) rfl ?_
  refine pp_i2l dX1_drawn_14 (q := 15) rfl ?_
  rw [nI_l (by omega)]
  refine pp_lrem dX1_drawn_15 (by intro h; have h0 := congrArg Int64.toInt h; rw [lN_toInt (by omega)] at h0; simp at h0; omega) (q := 16) rfl ?_
  refine pp_l2i dX1_drawn_16 (q := 17) rfl ?_
  refine ri_ret dX1_drawn_17 rfl rfl ?_
  exact ⟨rfl, rfl⟩
set_option maxRecDepth 20000 in
set_option maxHeartbeats 4000000 in
theorem c_draw {ad : Nm → Nat} {g : Sg} {w m : Nat} {n : Nat} (hm : al g (30, w, m)) (hn : 1 ≤ n) (hb : n < 2 ^ 31) : PS mX1_draw 0 (ent mX1_draw [.ref (ad (30, w, m)), .int (nI n)]) [] ad g (Ri (fun v g' => v = drw (stir (gJ g (30, w, m))) n ∧ g' = sJ g (30, w, m) (stir (gJ g (30, w, m))))) := by
  show PP mX1_draw 0 [some (.ref (ad (30, w, m))), some (.int (nI n))] [] (Rel ad g) _
  refine pp_aload_n dX1_draw_0 rfl isRf_r (q := 1) rfl ?_
  refine pp_aload_n dX1_draw_1 rfl isRf_r (q := 2) rfl ?_
  refine ps_get dX1_draw_2 fl_X1_41 hm rfl rfl (q := 5) rfl ?_
  refine ps_callSj dX1_draw_5 lk_X1_102 (by rfl) c_stirred (by rfl) (by exact Nat.le_of_ble_eq_true rfl) (by decide) (by decide) (by exact Nat.le_of_ble_eq_true rfl) (q := 8) rfl (fun r5 g5 h5 => ?_)
  obtain ⟨rfl, rfl⟩ := And.intro h5.1.symm h5.2.symm
  refine ps_putl dX1_draw_8 fl_X1_41 hm rfl (by exact Nat.le_of_ble_eq_true rfl) rfl rfl rfl (q := 11) rfl ?_
  refine pp_aload_n dX1_draw_11 rfl isRf_r (q := 12) rfl ?_
  refine ps_get dX1_draw_12 fl_X1_41 hm rfl rfl (q := 15) rfl ?_
  refine pp_iload_n dX1_draw_15 rfl (q := 16) rfl ?_
  refine ps_callSi dX1_draw_16 lk_X1_106 (by rfl) (c_drawn hn hb) (by rfl) (by exact Nat.le_of_ble_eq_true rfl) (by decide) (by decide) (by exact Nat.le_of_ble_eq_true rfl) (q := 19) rfl (fun r16 g16 h16 => ?_)
  obtain ⟨rfl, rfl⟩ := And.intro h16.1.symm h16.2.symm
  refine ri_ret dX1_draw_19 rfl rfl ?_
  exact ⟨by rw [gJ_sJ, if_pos rfl], rfl⟩
