theorem leT {a b : Nat} (h : nI a ≤ nI b) (ha : a < 2 ^ 31) (hb : b < 2 ^ 31) : a ≤ b := (nI_leI ha hb).mp h
theorem leF {a b : Nat} (h : ¬ nI a ≤ nI b) (ha : a < 2 ^ 31) (hb : b < 2 ^ 31) : b < a := Nat.lt_of_not_le (fun k => h ((nI_leI ha hb).mpr k))
theorem ltT {a b : Nat} (h : nI a < nI b) (ha : a < 2 ^ 31) (hb : b < 2 ^ 31) : a < b := (nI_ltI ha hb).mp h
theorem ltF {a b : Nat} (h : ¬ nI a < nI b) (ha : a < 2 ^ 31) (hb : b < 2 ^ 31) : b ≤ a := Nat.le_of_not_lt (fun k => h ((nI_ltI ha hb).mpr k))
theorem eqT {a b : Nat} (h : nI a = nI b) (ha : a < 2 ^ 31) (hb : b < 2 ^ 31) : a = b := (nI_eq ha hb).mp h
theorem eqF {a b : Nat} (h : ¬ nI a = nI b) : a ≠ b := fun k => h (congrArg nI k)
theorem al21 {g : Sg} {w r : Nat} (h : al g (20, w, r)) : al g (21, w, r) := by
  match r, h with
  | 0, h => exact h
  | 1, h => exact h
  | 2, h => exact h
  | r + 3, h => exact absurd rfl h.2
theorem gA_sA {g : Sg} {n n' : Nm} {f : Nat → Int32} : gA (sA g n f) n' = if n' = n then f else gA g n' := rfl
theorem gB_sB {g : Sg} {n n' : Nm} {f : Nat → Int64} : gB (sB g n f) n' = if n' = n then f else gB g n' := rfl
theorem gJ_sJ {g : Sg} {n n' : Nm} {x : Int64} : gJ (sJ g n x) n' = if n' = n then x else gJ g n' := rfl
theorem gI_sI {g : Sg} {n n' : Nm} {k k' : Nat} {x : Int32} : gI (sI g n k x) n' k' = if n' = n ∧ k' = k then x else gI g n' k' := by
  show up3 g.1 n (upd (g.1 n) k x) n' k' = _
  unfold up3
  by_cases h : n' = n
  · subst h
    by_cases hk : k' = k
    · subst hk; simp [upd]
    · simp [upd, hk, gI]
  · simp [h, gI]
theorem sA_sA {g : Sg} {n : Nm} {f f' : Nat → Int32} : sA (sA g n f) n f' = sA g n f' := by
  have : up3 (up3 g.2.2.1 n f) n f' = up3 g.2.2.1 n f' := by funext n'; unfold up3; split <;> rfl
  show (g.1, g.2.1, up3 (up3 g.2.2.1 n f) n f', g.2.2.2) = _
  rw [this]; rfl
theorem sA_id {g : Sg} {n : Nm} : sA g n (gA g n) = g := by
  have : up3 g.2.2.1 n (g.2.2.1 n) = g.2.2.1 := by funext n'; unfold up3; split <;> simp_all
  show (g.1, g.2.1, up3 g.2.2.1 n (g.2.2.1 n), g.2.2.2) = _
  rw [this]
theorem sB_sB {g : Sg} {n : Nm} {f f' : Nat → Int64} : sB (sB g n f) n f' = sB g n f' := by
  have : up3 (up3 g.2.2.2.1 n f) n f' = up3 g.2.2.2.1 n f' := by funext n'; unfold up3; split <;> rfl
  show (g.1, g.2.1, g.2.2.1, up3 (up3 g.2.2.2.1 n f) n f', g.2.2.2.2) = _
  rw [this]; rfl
theorem sI_sI {g : Sg} {n : Nm} {k : Nat} {x y : Int32} : sI (sI g n k x) n k y = sI g n k y := by
  have : up3 (up3 g.1 n (upd (g.1 n) k x)) n (upd (up3 g.1 n (upd (g.1 n) k x) n) k y) = up3 g.1 n (upd (g.1 n) k y) := by
    funext n' j
    unfold up3
    by_cases h : n' = n
    · simp only [h, if_true]; unfold upd; split <;> rfl
    · simp only [h, if_false]
  show (up3 (up3 g.1 n (upd (g.1 n) k x)) n (upd (up3 g.1 n (upd (g.1 n) k x) n) k y), g.2) = _
  rw [this]; rfl
def wdN (r : Nat) : Nat := match r with
  | 0 => 8
  | 1 => 4
  | _ => 5
theorem wid_eq (r : Nat) : wid r = nI (wdN r) := match r with
  | 0 => rfl
  | 1 => rfl
  | _ + 2 => rfl
theorem wdN_b (r : Nat) : 4 ≤ wdN r ∧ wdN r ≤ 8 := by unfold wdN; split <;> omega
theorem idx_lt {i n j d : Nat} (hi : i < n) (hj : j < d) : i * d + j < n * d := by
  have : (i + 1) * d ≤ n * d := Nat.mul_le_mul_right d hi
  rw [Nat.add_mul] at this
  omega
/-- the rows r of world w have n rows -/
def rOk (g : Sg) (w r n : Nat) : Prop := r < 3 ∧ gI g (20, w, r) 3 = nI n ∧ n * wdN r ≤ gN g (21, w, r) ∧ gN g (21, w, r) ≤ 100000
theorem rOk.bd {g : Sg} {w r n : Nat} (h : rOk g w r n) : n ≤ 25000 := by
  obtain ⟨-, -, h1, h2⟩ := h
  have h3 := (wdN_b r).1
  have : n * 4 ≤ n * wdN r := Nat.mul_le_mul_left n h3
  omega
/-- what a row of rows holds -/
def rv (g : Sg) (w r i j : Nat) : Int32 := gA g (21, w, r) (i * wdN r + j)
def zf (f : Nat → Int32) (a i : Nat) : Nat → Int32 := fun k => if a ≤ k ∧ k < i then 0 else f k
theorem zf_0 (f : Nat → Int32) (a : Nat) : zf f a a = f := by funext k; unfold zf; rw [if_neg]; omega
theorem zf_s (f : Nat → Int32) {a i : Nat} (h : a ≤ i) : upd (zf f a i) i 0 = zf f a (i + 1) := by
  funext k
  unfold upd zf
  by_cases h1 : k = i
  · subst h1; rw [if_pos rfl, if_pos (by omega)]
  · rw [if_neg h1]
    by_cases h2 : a ≤ k ∧ k < i
    · rw [if_pos h2, if_pos (by omega)]
    · rw [if_neg h2, if_neg (by omega)]

set_option maxRecDepth 20000 in
set_option maxHeartbeats 4000000 in
theorem c_get {ad : Nm → Nat} {g : Sg} {w r n i j : Nat} (hr : al g (20, w, r)) (hR : rOk g w r n) (hi : i < n) (hj : j < wdN r) : PS mX3_get 0 (ent mX3_get [.ref (ad (20, w, r)), .int (nI i), .int (nI j)]) [] ad g (Ri (fun v g' => v = rv g w r i j ∧ g' = g)) := by
  have hbd := hR.bd
  have hwd := wdN_b r
  obtain ⟨hr3, hsz, hcap, hmax⟩ := hR
  show PP mX3_get 0 [some (.ref (ad (20, w, r))), some (.int (nI i)), some (.int (nI j))] [] (Rel ad g) _
  refine pp_iload_n dX3_get_0 rfl (q := 1) rfl ?_
  refine pp_if_lt (tgt := 24) dX3_get_1 (by decide) (q := 4) rfl (fun c1 => absurd c1 (nI_pos (by omega))) (fun c1 => ?_)
  refine pp_iload_n dX3_get_4 rfl (q := 5) rfl ?_
  refine pp_aload_n dX3_get_5 rfl isRf_r (q := 6) rfl ?_
  refine ps_get dX3_get_6 fl_X3_28 hr rfl rfl (q := 9) rfl ?_
  refine pp_icmp_ge (tgt := 24) dX3_get_9 (by decide) (q := 12) rfl (fun c9 => absurd c9 (by rw [hsz]; exact nI_ge hi (by omega))) (fun c9 => ?_)
  refine pp_iload_n dX3_get_12 rfl (q := 13) rfl ?_
  refine pp_if_lt (tgt := 24) dX3_get_13 (by decide) (q := 16) rfl (fun c13 => absurd c13 (nI_pos (by omega))) (fun c13 => ?_)
  refine pp_iload_n dX3_get_16 rfl (q := 17) rfl ?_
  refine pp_aload_n dX3_get_17 rfl isRf_r (q := 18) rfl ?_
  refine ps_get dX3_get_18 fl_X3_15 hr rfl rfl (q := 21) rfl ?_
  refine pp_icmp_lt (tgt := 26) dX3_get_21 (by decide) (q := 24) rfl (fun c21 => ?_) (fun c21 => absurd (by rw [wid_eq]; exact nI_lt hj (by omega)) c21)
  refine pp_aload_n dX3_get_26 rfl isRf_r (q := 27) rfl ?_
  refine ps_get dX3_get_27 fl_X3_24 hr rfl rfl (q := 30) rfl ?_
  refine pp_iload_n dX3_get_30 rfl (q := 31) rfl ?_
  refine pp_aload_n dX3_get_31 rfl isRf_r (q := 32) rfl ?_
  refine ps_get dX3_get_32 fl_X3_15 hr rfl rfl (q := 35) rfl ?_
  refine pp_imul dX3_get_35 (q := 36) rfl ?_
  refine pp_iload_n dX3_get_36 rfl (q := 37) rfl ?_
  refine pp_iadd dX3_get_37 (q := 38) rfl ?_
  refine ps_iald (j := i * wdN r + j) dX3_get_38 (al21 hr) rfl (by rw [wid_eq, pk_mul, nI_add]) (Nat.lt_of_lt_of_le (idx_lt hi hj) hcap) (by omega) (q := 39) rfl ?_
  refine ri_ret dX3_get_39 rfl rfl ?_
  exact ⟨rfl, rfl⟩
set_option maxRecDepth 20000 in
set_option maxHeartbeats 4000000 in
theorem c_get_out {ad : Nm → Nat} {g : Sg} {w r n : Nat} {x c : Int32} (hr : al g (20, w, r)) (hR : rOk g w r n) (hx : x < 0 ∨ nI n ≤ x) : PS mX3_get 0 (ent mX3_get [.ref (ad (20, w, r)), .int x, .int c]) [] ad g (Ri (fun v g' => v = -1 ∧ g' = g)) := by
  obtain ⟨hr3, hsz, hcap, hmax⟩ := hR
  show PP mX3_get 0 [some (.ref (ad (20, w, r))), some (.int x), some (.int c)] [] (Rel ad g) _
  refine pp_iload_n dX3_get_0 rfl (q := 1) rfl ?_
  refine pp_if_lt (tgt := 24) dX3_get_1 (by decide) (q := 4) rfl (fun c1 => ?_) (fun c1 => ?_)
  · skip
    refine pp_iconst dX3_get_24 ci_m1 (q := 25) rfl ?_
    refine ri_ret dX3_get_25 rfl rfl ?_
    exact ⟨rfl, rfl⟩
  · skip
    refine pp_iload_n dX3_get_4 rfl (q := 5) rfl ?_
    refine pp_aload_n dX3_get_5 rfl isRf_r (q := 6) rfl ?_
    refine ps_get dX3_get_6 fl_X3_28 hr rfl rfl (q := 9) rfl ?_
    refine pp_icmp_ge (tgt := 24) dX3_get_9 (by decide) (q := 12) rfl (fun c9 => ?_) (fun c9 => absurd (by rw [hsz]; exact (hx.resolve_left c1)) c9)
    refine pp_iconst dX3_get_24 ci_m1 (q := 25) rfl ?_
    refine ri_ret dX3_get_25 rfl rfl ?_
    exact ⟨rfl, rfl⟩
def rset (g : Sg) (w r i j : Nat) (x : Int32) : Sg := sA g (21, w, r) (upd (gA g (21, w, r)) (i * wdN r + j) x)
set_option maxRecDepth 20000 in
set_option maxHeartbeats 4000000 in
theorem c_set {ad : Nm → Nat} {g : Sg} {w r n i j : Nat} {x : Int32} (hr : al g (20, w, r)) (hR : rOk g w r n) (hi : i < n) (hj : j < wdN r) : PS mX3_set 0 (ent mX3_set [.ref (ad (20, w, r)), .int (nI i), .int (nI j), .int x]) [] ad g (Rv (fun g' => g' = rset g w r i j x)) := by
  have hbd := hR.bd
  have hwd := wdN_b r
  obtain ⟨hr3, hsz, hcap, hmax⟩ := hR
  show PP mX3_set 0 [some (.ref (ad (20, w, r))), some (.int (nI i)), some (.int (nI j)), some (.int x)] [] (Rel ad g) _
  refine pp_iload_n dX3_set_0 rfl (q := 1) rfl ?_
  refine pp_if_lt (tgt := 38) dX3_set_1 (by decide) (q := 4) rfl (fun c1 => absurd c1 (nI_pos (by omega))) (fun c1 => ?_)
  refine pp_iload_n dX3_set_4 rfl (q := 5) rfl ?_
  refine pp_aload_n dX3_set_5 rfl isRf_r (q := 6) rfl ?_
  refine ps_get dX3_set_6 fl_X3_28 hr rfl rfl (q := 9) rfl ?_
  refine pp_icmp_ge (tgt := 38) dX3_set_9 (by decide) (q := 12) rfl (fun c9 => absurd c9 (by rw [hsz]; exact nI_ge hi (by omega))) (fun c9 => ?_)
  refine pp_iload_n dX3_set_12 rfl (q := 13) rfl ?_
  refine pp_if_lt (tgt := 38) dX3_set_13 (by decide) (q := 16) rfl (fun c13 => absurd c13 (nI_pos (by omega))) (fun c13 => ?_)
  refine pp_iload_n dX3_set_16 rfl (q := 17) rfl ?_
  refine pp_aload_n dX3_set_17 rfl isRf_r (q := 18) rfl ?_
  refine ps_get dX3_set_18 fl_X3_15 hr rfl rfl (q := 21) rfl ?_
  refine pp_icmp_ge (tgt := 38) dX3_set_21 (by decide) (q := 24) rfl (fun c21 => absurd c21 (by rw [wid_eq]; exact nI_ge hj (by omega))) (fun c21 => ?_)
  refine pp_aload_n dX3_set_24 rfl isRf_r (q := 25) rfl ?_
  refine ps_get dX3_set_25 fl_X3_24 hr rfl rfl (q := 28) rfl ?_
  refine pp_iload_n dX3_set_28 rfl (q := 29) rfl ?_
  refine pp_aload_n dX3_set_29 rfl isRf_r (q := 30) rfl ?_
  refine ps_get dX3_set_30 fl_X3_15 hr rfl rfl (q := 33) rfl ?_
  refine pp_imul dX3_set_33 (q := 34) rfl ?_
  refine pp_iload_n dX3_set_34 rfl (q := 35) rfl ?_
  refine pp_iadd dX3_set_35 (q := 36) rfl ?_
  refine pp_iload_n dX3_set_36 rfl (q := 37) rfl ?_
  refine ps_iast (j := i * wdN r + j) dX3_set_37 (al21 hr) (fun _ => rfl) (by rw [wid_eq, pk_mul, nI_add]) (Nat.lt_of_lt_of_le (idx_lt hi hj) hcap) (by omega) (q := 38) rfl ?_
  refine rv_ret dX3_set_38 rfl ?_
  exact rfl
set_option maxRecDepth 20000 in
set_option maxHeartbeats 4000000 in
theorem l_add {ad : Nm → Nat} {g : Sg} {w r a : Nat} {f : Nat → Int32} {Q : Option Value → PH → Prop} (hr : al g (20, w, r)) (hcap : a + wdN r ≤ gN g (21, w, r)) (hmax : gN g (21, w, r) ≤ 100000) (hk : PP mX3_add 51 [some (.ref (ad (20, w, r))), some (.int (nI a)), some (.int (nI (a + wdN r)))] [] (Rel ad (sA g (21, w, r) (zf f a (a + wdN r)))) Q) : ∀ (k i : Nat), a + wdN r - i < k → i ≤ a + wdN r → a ≤ i → PP mX3_add 28 [some (.ref (ad (20, w, r))), some (.int (nI a)), some (.int (nI i))] [] (Rel ad (sA g (21, w, r) (zf f a i))) Q := by
  have hwd := wdN_b r
  intro k
  induction k with
  | zero => intro i h; omega
  | succ k ih =>
    intro i hik hil hai
    refine pp_iload_n dX3_add_28 rfl (q := 29) rfl ?_
    refine pp_iload_n dX3_add_29 rfl (q := 30) rfl ?_
    refine pp_aload_n dX3_add_30 rfl isRf_r (q := 31) rfl ?_
    refine ps_get dX3_add_31 fl_X3_15 hr rfl rfl (q := 34) rfl ?_
    refine pp_iadd dX3_add_34 (q := 35) rfl ?_
    refine pp_icmp_ge (tgt := 51) dX3_add_35 (by decide) (q := 38) rfl (fun c35 => ?_) (fun c35 => ?_)
    · rw [wid_eq, nI_add] at c35
      have e : i = a + wdN r := by have := leT c35 (by omega) (by omega); omega
      subst e
      exact hk
    · rw [wid_eq, nI_add] at c35
      have hlt := leF c35 (by omega) (by omega)
      refine pp_aload_n dX3_add_38 rfl isRf_r (q := 39) rfl ?_
      refine ps_get dX3_add_39 fl_X3_24 hr rfl rfl (q := 42) rfl ?_
      refine pp_iload_n dX3_add_42 rfl (q := 43) rfl ?_
      refine pp_iconst dX3_add_43 ci_0 (q := 44) rfl ?_
      refine ps_iast dX3_add_44 (al21 hr) (fun _ => rfl) rfl (show i < gN g (21, w, r) by omega) (show gN g (21, w, r) < 2 ^ 31 by omega) (q := 45) rfl ?_
      refine pp_iinc dX3_add_45 rfl (nI_1 _) (ls1_2 (nl1 rfl)) (q := 48) rfl ?_
      refine pp_goto (tgt := 28) dX3_add_48 (by decide) ?_
      rw [sA_sA, gA_sA, if_pos rfl, nI_0, zf_s _ hai]
      exact ih (i + 1) (by omega) (by omega) (by omega)
def radd (g : Sg) (w r n : Nat) : Sg := sI (sA g (21, w, r) (zf (gA g (21, w, r)) (n * wdN r) (n * wdN r + wdN r))) (20, w, r) 3 (nI (n + 1))
set_option maxRecDepth 20000 in
set_option maxHeartbeats 4000000 in
theorem l_add2 {ad : Nm → Nat} {g : Sg} {w r n : Nat} {x y : Option Value} {f : Nat → Int32} (hr : al g (20, w, r)) (hsz : gI g (20, w, r) 3 = nI n) (hbd : n ≤ 25000) : PP mX3_add 51 [some (.ref (ad (20, w, r))), x, y] [] (Rel ad (sA g (21, w, r) f)) (fun v G => ∃ g', Rel ad g' G ∧ Ri (fun v g' => v = nI n ∧ g' = sI (sA g (21, w, r) f) (20, w, r) 3 (nI (n + 1))) v g') := by
  have hsz2 : gI (sA g (21, w, r) f) (20, w, r) 3 = nI n := hsz
  refine pp_aload_n dX3_add_51 rfl isRf_r (q := 52) rfl ?_
  refine pp_dup dX3_add_52 rfl (q := 53) rfl ?_
  refine ps_get dX3_add_53 fl_X3_28 hr rfl rfl (q := 56) rfl ?_
  refine pp_iconst dX3_add_56 ci_1 (q := 57) rfl ?_
  refine pp_iadd dX3_add_57 (q := 58) rfl ?_
  refine ps_puti dX3_add_58 fl_X3_28 hr rfl (by exact Nat.le_of_ble_eq_true rfl) rfl rfl rfl (q := 61) rfl ?_
  refine pp_aload_n dX3_add_61 rfl isRf_r (q := 62) rfl ?_
  refine ps_get dX3_add_62 fl_X3_28 hr rfl rfl (q := 65) rfl ?_
  refine pp_iconst dX3_add_65 ci_1 (q := 66) rfl ?_
  refine pp_isub dX3_add_66 (q := 67) rfl ?_
  refine ri_ret dX3_add_67 rfl rfl ?_
  refine ⟨?_, ?_⟩
  · rw [gI_sI, if_pos ⟨rfl, rfl⟩, hsz2, nI_add, pk_sub (by omega)]; rfl
  · rw [hsz2, nI_add]
set_option maxRecDepth 20000 in
set_option maxHeartbeats 4000000 in
theorem c_add {ad : Nm → Nat} {g : Sg} {w r n : Nat} (hr : al g (20, w, r)) (hR : rOk g w r n) (hroom : (n + 1) * wdN r ≤ gN g (21, w, r)) : PS mX3_add 0 (ent mX3_add [.ref (ad (20, w, r))]) [] ad g (Ri (fun v g' => v = nI n ∧ g' = radd g w r n)) := by
  have hbd := hR.bd
  have hwd := wdN_b r
  obtain ⟨hr3, hsz, hcap, hmax⟩ := hR
  show PP mX3_add 0 [some (.ref (ad (20, w, r))), none, none] [] (Rel ad g) _
  refine pp_aload_n dX3_add_0 rfl isRf_r (q := 1) rfl ?_
  refine ps_get dX3_add_1 fl_X3_28 hr rfl rfl (q := 4) rfl ?_
  refine pp_aload_n dX3_add_4 rfl isRf_r (q := 5) rfl ?_
  refine ps_get dX3_add_5 fl_X3_15 hr rfl rfl (q := 8) rfl ?_
  refine pp_imul dX3_add_8 (q := 9) rfl ?_
  refine pp_istore_n dX3_add_9 (by decide) (ls1_1 (nl1 rfl)) (q := 10) rfl ?_
  refine pp_iload_n dX3_add_10 rfl (q := 11) rfl ?_
  refine pp_aload_n dX3_add_11 rfl isRf_r (q := 12) rfl ?_
  refine ps_get dX3_add_12 fl_X3_15 hr rfl rfl (q := 15) rfl ?_
  refine pp_iadd dX3_add_15 (q := 16) rfl ?_
  refine pp_aload_n dX3_add_16 rfl isRf_r (q := 17) rfl ?_
  refine ps_get dX3_add_17 fl_X3_24 hr rfl rfl (q := 20) rfl ?_
  refine ps_alen dX3_add_20 (al21 hr) rfl (by decide) (q := 21) rfl ?_
  refine pp_icmp_le (tgt := 26) dX3_add_21 (by decide) (q := 24) rfl (fun c21 => ?_) (fun c21 => absurd (by rw [hsz, wid_eq, pk_mul, nI_add]; exact nI_le (by rw [Nat.add_mul, Nat.one_mul] at hroom; omega) (by omega)) c21)
  refine pp_iload_n dX3_add_26 rfl (q := 27) rfl ?_
  refine pp_istore_n dX3_add_27 (by decide) (ls1_2 (nl1 rfl)) (q := 28) rfl ?_
  have e0 : gI g (20, w, r) 3 * wid r = nI (n * wdN r) := by rw [hsz, wid_eq, pk_mul]
  rw [e0]
  have hr1 : n * wdN r + wdN r ≤ gN g (21, w, r) := by rw [Nat.add_mul, Nat.one_mul] at hroom; omega
  have hz := zf_0 (gA g (21, w, r)) (n * wdN r)
  have hg : g = sA g (21, w, r) (zf (gA g (21, w, r)) (n * wdN r) (n * wdN r)) := by rw [hz, sA_id]
  refine PP.pre (I := Rel ad (sA g (21, w, r) (zf (gA g (21, w, r)) (n * wdN r) (n * wdN r)))) ?_ (fun G hG => by rw [← hg]; exact hG)
  refine l_add hr hr1 hmax ?_ (wdN r + 1) (n * wdN r) (by omega) (by omega) (by omega)
  exact l_add2 hr hsz hbd
