/-- a list laid into an array from its first place on -/
def wl (f : Nat → Int32) (l : List Nat) : Nat → Int32 := fun k => match l[k]? with
  | some x => nI x
  | none => f k
theorem wl_nil (f : Nat → Int32) : wl f [] = f := by funext k; simp [wl]
theorem wl_push (f : Nat → Int32) (l : List Nat) (x : Nat) : upd (wl f l) l.length (nI x) = wl f (l ++ [x]) := by
  funext k
  unfold upd wl
  by_cases h : k = l.length
  · subst h; simp
  · rw [if_neg h]
    by_cases h2 : k < l.length
    · rw [List.getElem?_append_left h2]
    · rw [List.getElem?_append_right (by omega), List.getElem?_eq_none (by omega), List.getElem?_eq_none (by simp; omega)]
theorem wl_at {f : Nat → Int32} {l : List Nat} {k x : Nat} (h : l[k]? = some x) : wl f l k = nI x := by unfold wl; rw [h]
/-- the numbers below i that are chosen, in their order -/
def sel (c : Nat → Bool) (i : Nat) : List Nat := (List.range i).filter c
theorem sel_s (c : Nat → Bool) (i : Nat) : sel c (i + 1) = if c i then sel c i ++ [i] else sel c i := by
  unfold sel
  rw [List.range_succ, List.filter_append]
  by_cases h : c i = true
  · simp [h]
  · simp [h]
theorem sel_le (c : Nat → Bool) (i : Nat) : (sel c i).length ≤ i := by
  have := List.length_filter_le c (List.range i)
  rw [List.length_range] at this
  exact this
theorem sel_lt {c : Nat → Bool} {i x : Nat} (h : x ∈ sel c i) : x < i ∧ c x = true := by
  obtain ⟨h1, h2⟩ := List.mem_filter.mp h
  exact ⟨List.mem_range.mp h1, h2⟩
def gsel (K : Nat → Int32) (m : Nat) (lo : Int32) : Nat → Bool := fun x => decide (x ≠ m) && decide (¬ nI x = lo) && decide (K x = nI 1 ∨ K x = nI 2)
theorem gsel_t {K : Nat → Int32} {m : Nat} {lo : Int32} {x : Nat} (h1 : x ≠ m) (h2 : ¬ nI x = lo) (h3 : living K x) : gsel K m lo x = true := by unfold gsel; unfold living at h3; simp [h1, h2, h3]
theorem gsel_f {K : Nat → Int32} {m : Nat} {lo : Int32} {x : Nat} (h : x = m ∨ nI x = lo ∨ ¬ living K x) : gsel K m lo x = false := by
  unfold gsel; unfold living at h
  rcases h with h | h | h <;> simp [h]
set_option maxRecDepth 20000 in
set_option maxHeartbeats 4000000 in
theorem l_gather {ad : Nm → Nat} {g : Sg} {w m : Nat} {n : Nm} {lo : Int32} (hm : al g (30, w, m)) (hmb : m < 64) (hn : al g n) (h64 : is64 n) (hne : (31, w, m) ≠ n) : ∀ (j i : Nat), 64 - i < j → i ≤ 64 → PP mX1_gatherLiving 5 [some (.ref (ad (30, w, m))), some (.ref (ad n)), some (.int lo), some (.int (nI (sel (gsel (gA g (31, w, m)) m lo) i).length)), some (.int (nI i))] [] (Rel ad (sA g n (wl (gA g n) (sel (gsel (gA g (31, w, m)) m lo) i)))) (fun v G => ∃ g', Rel ad g' G ∧ Ri (fun v g' => v = nI (sel (gsel (gA g (31, w, m)) m lo) 64).length ∧ g' = sA g n (wl (gA g n) (sel (gsel (gA g (31, w, m)) m lo) 64))) v g') := by
  intro j
  induction j with
  | zero => intro i h; omega
  | succ j ih =>
    intro i hij hik
    refine pp_iload dX1_gatherLiving_5 rfl (q := 7) rfl ?_
    refine pp_bipush dX1_gatherLiving_7 cb_64 (q := 9) rfl ?_
    refine pp_icmp_ge (tgt := 56) dX1_gatherLiving_9 (by decide) (q := 12) rfl (fun c9 => ?_) (fun c9 => ?_)
    · have e : i = 64 := by have := leT c9 (by decide) (by omega); omega
      subst e
      refine pp_iload_n dX1_gatherLiving_56 rfl (q := 57) rfl ?_
      exact ri_ret dX1_gatherLiving_57 rfl rfl ⟨rfl, rfl⟩
    · have hlt := leF c9 (by decide) (by omega)
      have hsl := sel_le (gsel (gA g (31, w, m)) m lo) i
      refine pp_iload dX1_gatherLiving_12 rfl (q := 14) rfl ?_
      refine pp_aload_n dX1_gatherLiving_14 rfl isRf_r (q := 15) rfl ?_
      refine ps_get dX1_gatherLiving_15 fl_X1_9 hm rfl rfl (q := 18) rfl ?_
      refine pp_icmp_eq (tgt := 50) dX1_gatherLiving_18 (by decide) (q := 21) rfl (fun c18 => ?_) (fun c18 => ?_)
      · have hsel : gsel (gA g (31, w, m)) m lo i = false := gsel_f (Or.inl (eqT c18 (by omega) (by omega)))
        refine pp_iinc dX1_gatherLiving_50 rfl (nI_1 _) (ls1_4 (nl1 rfl)) (q := 53) rfl ?_
        refine pp_goto (tgt := 5) dX1_gatherLiving_53 (by decide) ?_
        have hh := ih (i + 1) (by omega) (by omega)
        rw [sel_s, hsel] at hh
        first
          | exact hh
          | (rw [sA_sA, gA_sA, if_pos rfl, wl_push]; rw [if_pos rfl, List.length_append] at hh; exact hh)
      · refine pp_iload dX1_gatherLiving_21 rfl (q := 23) rfl ?_
        refine pp_iload_n dX1_gatherLiving_23 rfl (q := 24) rfl ?_
        refine pp_icmp_eq (tgt := 50) dX1_gatherLiving_24 (by decide) (q := 27) rfl (fun c24 => ?_) (fun c24 => ?_)
        · have hsel : gsel (gA g (31, w, m)) m lo i = false := gsel_f (Or.inr (Or.inl c24))
          refine pp_iinc dX1_gatherLiving_50 rfl (nI_1 _) (ls1_4 (nl1 rfl)) (q := 53) rfl ?_
          refine pp_goto (tgt := 5) dX1_gatherLiving_53 (by decide) ?_
          have hh := ih (i + 1) (by omega) (by omega)
          rw [sel_s, hsel] at hh
          first
            | exact hh
            | (rw [sA_sA, gA_sA, if_pos rfl, wl_push]; rw [if_pos rfl, List.length_append] at hh; exact hh)
        · refine pp_aload_n dX1_gatherLiving_27 rfl isRf_r (q := 28) rfl ?_
          refine pp_iload dX1_gatherLiving_28 rfl (q := 30) rfl ?_
          refine ps_callVi dX1_gatherLiving_30 lk_X1_110 hm rfl rfl (by rfl) (c_thinksLiving hm hlt) (by rfl) (by exact Nat.le_of_ble_eq_true rfl) (by decide) (by decide) (by exact Nat.le_of_ble_eq_true rfl) (q := 33) rfl (fun r30 g30 h30 => ?_)
          obtain ⟨hb30, rfl⟩ := And.intro h30.1 h30.2.symm
          rw [gA_sA, if_neg hne] at hb30
          refine pp_if_eq (tgt := 50) dX1_gatherLiving_33 (by decide) (q := 36) rfl (fun c33 => ?_) (fun c33 => ?_)
          · have hsel : gsel (gA g (31, w, m)) m lo i = false := gsel_f (Or.inr (Or.inr (isB_f hb30 c33)))
            refine pp_iinc dX1_gatherLiving_50 rfl (nI_1 _) (ls1_4 (nl1 rfl)) (q := 53) rfl ?_
            refine pp_goto (tgt := 5) dX1_gatherLiving_53 (by decide) ?_
            have hh := ih (i + 1) (by omega) (by omega)
            rw [sel_s, hsel] at hh
            first
              | exact hh
              | (rw [sA_sA, gA_sA, if_pos rfl, wl_push]; rw [if_pos rfl, List.length_append] at hh; exact hh)
          · have hsel : gsel (gA g (31, w, m)) m lo i = true := gsel_t (eqF c18) c24 (isB_t hb30 c33)
            refine pp_iload_n dX1_gatherLiving_36 rfl (q := 37) rfl ?_
            refine pp_aload_n dX1_gatherLiving_37 rfl isRf_r (q := 38) rfl ?_
            refine ps_alen dX1_gatherLiving_38 hn (h64 _ _ _ _ _ _ _) (by decide) (q := 39) rfl ?_
            refine pp_icmp_ge (tgt := 50) dX1_gatherLiving_39 (by decide) (q := 42) rfl (fun c39 => absurd c39 (nI_ge (by omega) (by decide))) (fun c39 => ?_)
            refine pp_aload_n dX1_gatherLiving_42 rfl isRf_r (q := 43) rfl ?_
            refine pp_iload_n dX1_gatherLiving_43 rfl (q := 44) rfl ?_
            refine pp_iload dX1_gatherLiving_44 rfl (q := 46) rfl ?_
            refine ps_iast dX1_gatherLiving_46 hn (fun _ => h64 _ _ _ _ _ _ _) rfl (by omega) (by decide) (q := 47) rfl ?_
            refine pp_iinc dX1_gatherLiving_47 rfl (nI_1 _) (ls1_3 (nl1 rfl)) (q := 50) rfl ?_
            refine pp_iinc dX1_gatherLiving_50 rfl (nI_1 _) (ls1_4 (nl1 rfl)) (q := 53) rfl ?_
            refine pp_goto (tgt := 5) dX1_gatherLiving_53 (by decide) ?_
            have hh := ih (i + 1) (by omega) (by omega)
            rw [sel_s, hsel] at hh
            first
              | exact hh
              | (rw [sA_sA, gA_sA, if_pos rfl, wl_push]; rw [if_pos rfl, List.length_append] at hh; exact hh)
set_option maxRecDepth 20000 in
set_option maxHeartbeats 4000000 in
theorem c_gather {ad : Nm → Nat} {g : Sg} {w m : Nat} {n : Nm} {lo : Int32} (hm : al g (30, w, m)) (hmb : m < 64) (hn : al g n) (h64 : is64 n) (hne : (31, w, m) ≠ n) : PS mX1_gatherLiving 0 (ent mX1_gatherLiving [.ref (ad (30, w, m)), .ref (ad n), .int lo]) [] ad g (Ri (fun v g' => v = nI (sel (gsel (gA g (31, w, m)) m lo) 64).length ∧ g' = sA g n (wl (gA g n) (sel (gsel (gA g (31, w, m)) m lo) 64)))) := by
  show PP mX1_gatherLiving 0 [some (.ref (ad (30, w, m))), some (.ref (ad n)), some (.int lo), none, none] [] (Rel ad g) _
  refine pp_iconst dX1_gatherLiving_0 ci_0 (q := 1) rfl ?_
  refine pp_istore_n dX1_gatherLiving_1 (by decide) (ls1_3 (nl1 rfl)) (q := 2) rfl ?_
  refine pp_iconst dX1_gatherLiving_2 ci_0 (q := 3) rfl ?_
  refine pp_istore dX1_gatherLiving_3 (by decide) (ls1_4 (nl1 rfl)) (q := 5) rfl ?_
  have hg : g = sA g n (wl (gA g n) (sel (gsel (gA g (31, w, m)) m lo) 0)) := by show g = sA g n (wl (gA g n) []); rw [wl_nil, sA_id]
  refine PP.pre (I := Rel ad (sA g n (wl (gA g n) (sel (gsel (gA g (31, w, m)) m lo) 0)))) ?_ (fun G hG => by rw [← hg]; exact hG)
  exact l_gather hm hmb hn h64 hne 65 0 (by decide) (by decide)
def drN (x : Int64) (n : Nat) : Nat := (x.toUInt64.toNat / 2 ^ 33) % n
theorem drw_eq (x : Int64) {n : Nat} (hn : 1 ≤ n) (hb : n < 2 ^ 31) : drw x n = nI (drN x n) := by
  have h1 : (x.toUInt64 >>> ((nI 33).toInt64.toUInt64 &&& Int64.toUInt64 63)).toInt64 = lN (x.toUInt64.toNat / 2 ^ 33) := by
    have e : (nI 33).toInt64.toUInt64 &&& Int64.toUInt64 63 = 33 := by decide
    rw [e]
    apply Int64.toBitVec_inj.mp
    apply BitVec.eq_of_toNat_eq
    have hx := x.toUInt64.toNat_lt
    show (x.toUInt64 >>> 33).toNat = (BitVec.ofNat 64 (x.toUInt64.toNat / 2 ^ 33)).toNat
    have e2 : (33 : UInt64).toNat % 64 = 33 := rfl
    rw [UInt64.toNat_shiftRight, e2, BitVec.toNat_ofNat, Nat.shiftRight_eq_div_pow]
    exact (Nat.mod_eq_of_lt (by have := Nat.div_le_self x.toUInt64.toNat (2 ^ 33); omega)).symm
  have hx := x.toUInt64.toNat_lt
  unfold drw
  rw [h1, pk_lRem (by have := Nat.div_le_self x.toUInt64.toNat (2 ^ 33); omega) (by omega) (by omega), lN_i]
  rfl
theorem drN_lt (x : Int64) {n : Nat} (hn : 1 ≤ n) : drN x n < n := Nat.mod_lt _ hn
/-- one step of a mixing, and all from place i down -/
def sh1 (i : Nat) (s : (Nat → Int32) × Int64) : (Nat → Int32) × Int64 := (upd (upd s.1 i (s.1 (drN (stir s.2) (i + 1)))) (drN (stir s.2) (i + 1)) (s.1 i), stir s.2)
def shl : Nat → (Nat → Int32) × Int64 → (Nat → Int32) × Int64
  | 0, s => s
  | i + 1, s => shl i (sh1 (i + 1) s)
theorem nI_m1 (n : Nat) : nI (n + 1) + Int32.ofInt (-1) = nI n := pk_m1 n
set_option maxRecDepth 20000 in
set_option maxHeartbeats 4000000 in
theorem l_shuffle {ad : Nm → Nat} {g : Sg} {n : Nm} {k : Int32} {by0 : Int64} (hn : al g n) (h64 : is64 n) : ∀ (j i : Nat) (s : (Nat → Int32) × Int64), i < j → i < 64 → ∀ (x y : Option Value), PP mX1_shuffle 13 [some (.ref (ad n)), some (.int k), some (.long by0), none, some (.long s.2), none, some (.int (nI i)), x, y] [] (Rel ad (sA g n s.1)) (fun v G => ∃ g', Rel ad g' G ∧ Rj (fun v g' => v = (shl i s).2 ∧ g' = sA g n (shl i s).1) v g') := by
  intro j
  induction j with
  | zero => intro i s h; omega
  | succ j ih =>
    intro i s hij hik x y
    refine pp_iload dX1_shuffle_13 rfl (q := 15) rfl ?_
    refine pp_iconst dX1_shuffle_15 ci_1 (q := 16) rfl ?_
    refine pp_icmp_lt (tgt := 63) dX1_shuffle_16 (by decide) (q := 19) rfl (fun c16 => ?_) (fun c16 => ?_)
    · have e : i = 0 := by have := ltT c16 (by omega) (by decide); omega
      subst e
      refine pp_lload dX1_shuffle_63 rfl (q := 65) rfl ?_
      exact rj_ret dX1_shuffle_65 rfl ⟨rfl, rfl⟩
    · obtain ⟨i, rfl⟩ : ∃ k, i = k + 1 := ⟨i - 1, by have := ltF c16 (by omega) (by decide); omega⟩
      refine pp_lload dX1_shuffle_19 rfl (q := 21) rfl ?_
      refine ps_callSj dX1_shuffle_21 lk_X1_102 (by rfl) c_stirred (by rfl) (by exact Nat.le_of_ble_eq_true rfl) (by decide) (by decide) (by exact Nat.le_of_ble_eq_true rfl) (q := 24) rfl (fun r21 g21 h21 => ?_)
      obtain ⟨rfl, rfl⟩ := And.intro h21.1.symm h21.2.symm
      refine pp_lstore dX1_shuffle_24 (by decide) (ls2_4 nl0) (q := 26) rfl ?_
      refine pp_lload dX1_shuffle_26 rfl (q := 28) rfl ?_
      refine pp_iload dX1_shuffle_28 rfl (q := 30) rfl ?_
      refine pp_iconst dX1_shuffle_30 ci_1 (q := 31) rfl ?_
      refine pp_iadd dX1_shuffle_31 (q := 32) rfl ?_
      rw [nI_add]
      refine ps_callSi dX1_shuffle_32 lk_X1_106 (by rfl) (c_drawn (n := i + 1 + 1) (by omega) (by omega)) (by rfl) (by exact Nat.le_of_ble_eq_true rfl) (by decide) (by decide) (by exact Nat.le_of_ble_eq_true rfl) (q := 35) rfl (fun r32 g32 h32 => ?_)
      obtain ⟨rfl, rfl⟩ := And.intro h32.1.symm h32.2.symm
      rw [drw_eq _ (by omega) (by omega)]
      have hdl := drN_lt (stir s.2) (n := i + 1 + 1) (by omega)
      refine pp_istore dX1_shuffle_35 (by decide) (ls1_7 (nl1 rfl)) (q := 37) rfl ?_
      refine pp_aload_n dX1_shuffle_37 rfl isRf_r (q := 38) rfl ?_
      refine pp_iload dX1_shuffle_38 rfl (q := 40) rfl ?_
      refine ps_iald dX1_shuffle_40 hn (h64 _ _ _ _ _ _ _) rfl (by omega) (by decide) (q := 41) rfl ?_
      refine pp_istore dX1_shuffle_41 (by decide) (ls1_8 (nl1 rfl)) (q := 43) rfl ?_
      refine pp_aload_n dX1_shuffle_43 rfl isRf_r (q := 44) rfl ?_
      refine pp_iload dX1_shuffle_44 rfl (q := 46) rfl ?_
      refine pp_aload_n dX1_shuffle_46 rfl isRf_r (q := 47) rfl ?_
      refine pp_iload dX1_shuffle_47 rfl (q := 49) rfl ?_
      refine ps_iald dX1_shuffle_49 hn (h64 _ _ _ _ _ _ _) rfl (by omega) (by decide) (q := 50) rfl ?_
      refine ps_iast dX1_shuffle_50 hn (fun _ => h64 _ _ _ _ _ _ _) rfl (by omega) (by decide) (q := 51) rfl ?_
      refine pp_aload_n dX1_shuffle_51 rfl isRf_r (q := 52) rfl ?_
      refine pp_iload dX1_shuffle_52 rfl (q := 54) rfl ?_
      refine pp_iload dX1_shuffle_54 rfl (q := 56) rfl ?_
      refine ps_iast dX1_shuffle_56 hn (fun _ => h64 _ _ _ _ _ _ _) rfl (by omega) (by decide) (q := 57) rfl ?_
      refine pp_iinc dX1_shuffle_57 rfl (nI_m1 _) (ls1_6 nl0) (q := 60) rfl ?_
      refine pp_goto (tgt := 13) dX1_shuffle_60 (by decide) ?_
      rw [sA_sA, sA_sA]
      simp only [gA_sA, if_true]
      exact ih i (sh1 (i + 1) s) (by omega) (by omega) _ _
set_option maxRecDepth 20000 in
set_option maxHeartbeats 4000000 in
theorem c_shuffle {ad : Nm → Nat} {g : Sg} {n : Nm} {k : Nat} {by0 : Int64} (hn : al g n) (h64 : is64 n) (hk1 : 1 ≤ k) (hk : k ≤ 64) : PS mX1_shuffle 0 (ent mX1_shuffle [.ref (ad n), .int (nI k), .long by0]) [] ad g (Rj (fun v g' => v = (shl (k - 1) (gA g n, by0)).2 ∧ g' = sA g n (shl (k - 1) (gA g n, by0)).1)) := by
  show PP mX1_shuffle 0 [some (.ref (ad n)), some (.int (nI k)), some (.long by0), none, none, none, none, none, none] [] (Rel ad g) _
  refine pp_lload_n dX1_shuffle_0 rfl (q := 1) rfl ?_
  refine pp_lstore dX1_shuffle_1 (by decide) (ls2_4 nl0) (q := 3) rfl ?_
  refine pp_iload_n dX1_shuffle_3 rfl (q := 4) rfl ?_
  refine pp_aload_n dX1_shuffle_4 rfl isRf_r (q := 5) rfl ?_
  refine ps_alen dX1_shuffle_5 hn (h64 _ _ _ _ _ _ _) (by decide) (q := 6) rfl ?_
  refine pp_mmin dX1_shuffle_6 lm_X1_113 (by decide) (by exact Nat.le_of_ble_eq_true rfl) (q := 9) rfl ?_
  rw [if_neg (nI_nlt hk (by decide))]
  refine pp_iconst dX1_shuffle_9 ci_1 (q := 10) rfl ?_
  refine pp_isub dX1_shuffle_10 (q := 11) rfl ?_
  rw [pk_sub hk1]
  refine pp_istore dX1_shuffle_11 (by decide) (ls1_6 nl0) (q := 13) rfl ?_
  have hg : g = sA g n (gA g n) := sA_id.symm
  refine PP.pre (I := Rel ad (sA g n (gA g n))) ?_ (fun G hG => by rw [← hg]; exact hG)
  exact l_shuffle hn h64 (k - 1 + 1) (k - 1) (gA g n, by0) (by omega) (by omega) _ _
set_option maxRecDepth 20000 in
set_option maxHeartbeats 4000000 in
theorem c_shuffle0 {ad : Nm → Nat} {g : Sg} {n : Nm} {by0 : Int64} (hn : al g n) (h64 : is64 n) : PS mX1_shuffle 0 (ent mX1_shuffle [.ref (ad n), .int (nI 0), .long by0]) [] ad g (Rj (fun v g' => v = by0 ∧ g' = g)) := by
  show PP mX1_shuffle 0 [some (.ref (ad n)), some (.int (nI 0)), some (.long by0), none, none, none, none, none, none] [] (Rel ad g) _
  refine pp_lload_n dX1_shuffle_0 rfl (q := 1) rfl ?_
  refine pp_lstore dX1_shuffle_1 (by decide) (ls2_4 nl0) (q := 3) rfl ?_
  refine pp_iload_n dX1_shuffle_3 rfl (q := 4) rfl ?_
  refine pp_aload_n dX1_shuffle_4 rfl isRf_r (q := 5) rfl ?_
  refine ps_alen dX1_shuffle_5 hn (h64 _ _ _ _ _ _ _) (by decide) (q := 6) rfl ?_
  refine pp_mmin dX1_shuffle_6 lm_X1_113 (by decide) (by exact Nat.le_of_ble_eq_true rfl) (q := 9) rfl ?_
  rw [if_neg (by decide)]
  refine pp_iconst dX1_shuffle_9 ci_1 (q := 10) rfl ?_
  refine pp_isub dX1_shuffle_10 (q := 11) rfl ?_
  rw [show nI 0 - nI 1 = -1 from by decide]
  refine pp_istore dX1_shuffle_11 (by decide) (ls1_6 nl0) (q := 13) rfl ?_
  refine pp_iload dX1_shuffle_13 rfl (q := 15) rfl ?_
  refine pp_iconst dX1_shuffle_15 ci_1 (q := 16) rfl ?_
  refine pp_icmp_lt (tgt := 63) dX1_shuffle_16 (by decide) (q := 19) rfl (fun c16 => ?_) (fun c16 => absurd (by decide) c16)
  refine pp_lload dX1_shuffle_63 rfl (q := 65) rfl ?_
  refine rj_ret dX1_shuffle_65 rfl ?_
  exact ⟨rfl, rfl⟩
theorem shl_0 (s : (Nat → Int32) × Int64) : shl (0 - 1) s = s := rfl
theorem c_shuffleA {ad : Nm → Nat} {g : Sg} {n : Nm} {k : Nat} {by0 : Int64} (hn : al g n) (h64 : is64 n) (hk : k ≤ 64) : PS mX1_shuffle 0 (ent mX1_shuffle [.ref (ad n), .int (nI k), .long by0]) [] ad g (Rj (fun v g' => v = (shl (k - 1) (gA g n, by0)).2 ∧ g' = sA g n (shl (k - 1) (gA g n, by0)).1)) := by
  by_cases h : 1 ≤ k
  · exact c_shuffle hn h64 h hk
  · have e : k = 0 := by omega
    subst e
    refine (c_shuffle0 hn h64).weak (fun v G hG => ?_)
    obtain ⟨g', h1, r, h2, h3, h4⟩ := hG
    exact ⟨g', h1, r, h2, h3, by rw [h4]; exact sA_id.symm⟩
/-- the round that is made: who, in which order; the seed behind it -/
def mkR (K R : Nat → Int32) (m : Nat) (sd : Int64) : (Nat → Int32) × Int64 := shl ((sel (gsel K m (-1)) 64).length - 1) (wl R (sel (gsel K m (-1)) 64), sd)
def mrG (g : Sg) (w m : Nat) : Sg := sI (sJ (sA (sI g (30, w, m) 14 (nI (sel (gsel (gA g (31, w, m)) m (-1)) 64).length)) (36, w, m) (mkR (gA g (31, w, m)) (gA g (36, w, m)) m (gJ g (30, w, m))).1) (30, w, m) (mkR (gA g (31, w, m)) (gA g (36, w, m)) m (gJ g (30, w, m))).2) (30, w, m) 15 (nI 0)
theorem sI_sA {g : Sg} {n n' : Nm} {k : Nat} {x : Int32} {f : Nat → Int32} : sI (sA g n f) n' k x = sA (sI g n' k x) n f := rfl
set_option maxRecDepth 20000 in
set_option maxHeartbeats 4000000 in
theorem c_makeRound {ad : Nm → Nat} {g : Sg} {w m : Nat}  (hm : al g (30, w, m)) (hmb : m < 64) : PS mX1_makeRound 0 (ent mX1_makeRound [.ref (ad (30, w, m))]) [] ad g (Rv (fun g' => g' = mrG g w m)) := by
  show PP mX1_makeRound 0 [some (.ref (ad (30, w, m)))] [] (Rel ad g) _
  refine pp_aload_n dX1_makeRound_0 rfl isRf_r (q := 1) rfl ?_
  refine pp_aload_n dX1_makeRound_1 rfl isRf_r (q := 2) rfl ?_
  refine pp_aload_n dX1_makeRound_2 rfl isRf_r (q := 3) rfl ?_
  refine ps_get dX1_makeRound_3 fl_X1_35 hm rfl rfl (q := 6) rfl ?_
  refine pp_iconst dX1_makeRound_6 ci_m1 (q := 7) rfl ?_
  refine ps_callVi dX1_makeRound_7 lk_X1_119 hm rfl rfl (by rfl) (c_gather (n := (36, w, m)) hm hmb hm (fun _ _ _ _ _ _ _ => rfl) (fun h => by cases h)) (by rfl) (by exact Nat.le_of_ble_eq_true rfl) (by decide) (by decide) (by exact Nat.le_of_ble_eq_true rfl) (q := 10) rfl (fun r7 g7 h7 => ?_)
  obtain ⟨rfl, rfl⟩ := And.intro h7.1.symm h7.2.symm
  refine ps_puti dX1_makeRound_10 fl_X1_73 hm rfl (by exact Nat.le_of_ble_eq_true rfl) rfl rfl rfl (q := 13) rfl ?_
  refine pp_aload_n dX1_makeRound_13 rfl isRf_r (q := 14) rfl ?_
  refine pp_aload_n dX1_makeRound_14 rfl isRf_r (q := 15) rfl ?_
  refine ps_get dX1_makeRound_15 fl_X1_35 hm rfl rfl (q := 18) rfl ?_
  refine pp_aload_n dX1_makeRound_18 rfl isRf_r (q := 19) rfl ?_
  refine ps_get dX1_makeRound_19 fl_X1_73 hm rfl rfl (q := 22) rfl ?_
  rw [gI_sI, if_pos ⟨rfl, rfl⟩]
  refine pp_aload_n dX1_makeRound_22 rfl isRf_r (q := 23) rfl ?_
  refine ps_get dX1_makeRound_23 fl_X1_41 hm rfl rfl (q := 26) rfl ?_
  refine ps_callSj dX1_makeRound_26 lk_X1_123 (by rfl) (c_shuffleA (n := (36, w, m)) hm (fun _ _ _ _ _ _ _ => rfl) (sel_le _ 64)) (by rfl) (by exact Nat.le_of_ble_eq_true rfl) (by decide) (by decide) (by exact Nat.le_of_ble_eq_true rfl) (q := 29) rfl (fun r26 g26 h26 => ?_)
  obtain ⟨rfl, rfl⟩ := And.intro h26.1.symm h26.2.symm
  refine ps_putl dX1_makeRound_29 fl_X1_41 hm rfl (by exact Nat.le_of_ble_eq_true rfl) rfl rfl rfl (q := 32) rfl ?_
  refine pp_aload_n dX1_makeRound_32 rfl isRf_r (q := 33) rfl ?_
  refine pp_iconst dX1_makeRound_33 ci_0 (q := 34) rfl ?_
  refine ps_puti dX1_makeRound_34 fl_X1_76 hm rfl (by exact Nat.le_of_ble_eq_true rfl) rfl rfl rfl (q := 37) rfl ?_
  refine rv_ret dX1_makeRound_37 rfl ?_
  have e : gA (sI (sA g (36, w, m) (wl (gA g (36, w, m)) (sel (gsel (gA g (31, w, m)) m (-1)) 64))) (30, w, m) 14 (nI (sel (gsel (gA g (31, w, m)) m (-1)) 64).length)) (36, w, m) = wl (gA g (36, w, m)) (sel (gsel (gA g (31, w, m)) m (-1)) 64) := by show gA (sA g _ _) _ = _; rw [gA_sA, if_pos rfl]
  rw [e, sI_sA, sA_sA]
  rfl
/-- the first number from p on, of k, that has c -/
def fnd (c : Nat → Bool) : Nat → Nat → Option Nat
  | _, 0 => none
  | p, k + 1 => if c p then some p else fnd c (p + 1) k
def oI (o : Option Nat) : Int32 := match o with
  | some i => nI i
  | none => -1
theorem fnd_some {c : Nat → Bool} : ∀ {k p i : Nat}, fnd c p k = some i → p ≤ i ∧ i < p + k ∧ c i = true ∧ ∀ j, p ≤ j → j < i → c j = false
  | 0, p, i, h => by cases h
  | k + 1, p, i, h => by
    unfold fnd at h
    by_cases hc : c p = true
    · rw [if_pos hc] at h; cases h; exact ⟨Nat.le_refl _, by omega, hc, fun j h1 h2 => by omega⟩
    · rw [if_neg hc] at h
      obtain ⟨h1, h2, h3, h4⟩ := fnd_some h
      refine ⟨by omega, by omega, h3, fun j h5 h6 => ?_⟩
      by_cases hj : j = p
      · subst hj; simpa using hc
      · exact h4 j (by omega) h6
theorem fnd_none {c : Nat → Bool} : ∀ {k p : Nat}, fnd c p k = none → ∀ j, p ≤ j → j < p + k → c j = false
  | 0, p, _ => fun j h1 h2 => by omega
  | k + 1, p, h => fun j h1 h2 => by
    unfold fnd at h
    by_cases hc : c p = true
    · rw [if_pos hc] at h; cases h
    · rw [if_neg hc] at h
      by_cases hj : j = p
      · subst hj; simpa using hc
      · exact fnd_none h j (by omega) (by omega)
def livR (K R : Nat → Int32) : Nat → Bool := fun i => decide (K (R i).toNatClampNeg = nI 1 ∨ K (R i).toNatClampNeg = nI 2)
set_option maxRecDepth 20000 in
set_option maxHeartbeats 4000000 in
theorem l_nextPlace {ad : Nm → Nat} {g : Sg} {w m n : Nat} (hm : al g (30, w, m)) (hn : gI g (30, w, m) 14 = nI n) (hnb : n ≤ 64) (hR : ∀ i, i < n → ∃ x, x < 64 ∧ gA g (36, w, m) i = nI x) : ∀ (j i : Nat), 64 - i < j → i ≤ 64 → PS mX1_nextPlace 5 [some (.ref (ad (30, w, m))), some (.int (nI i))] [] ad g (Ri (fun v g' => v = oI (fnd (livR (gA g (31, w, m)) (gA g (36, w, m))) i (n - i)) ∧ g' = g)) := by
  intro j
  induction j with
  | zero => intro i h; omega
  | succ j ih =>
    intro i hij hik
    refine pp_iload_n dX1_nextPlace_5 rfl (q := 6) rfl ?_
    refine pp_aload_n dX1_nextPlace_6 rfl isRf_r (q := 7) rfl ?_
    refine ps_get dX1_nextPlace_7 fl_X1_73 hm rfl rfl (q := 10) rfl ?_
    refine pp_icmp_ge (tgt := 40) dX1_nextPlace_10 (by decide) (q := 13) rfl (fun c10 => ?_) (fun c10 => ?_)
    · rw [hn] at c10
      have e : n - i = 0 := by have := leT c10 (by omega) (by omega); omega
      refine pp_iconst dX1_nextPlace_40 ci_m1 (q := 41) rfl ?_
      refine ri_ret dX1_nextPlace_41 rfl rfl ⟨?_, rfl⟩
      rw [e]; rfl
    · rw [hn] at c10
      have hlt := leF c10 (by omega) (by omega)
      obtain ⟨x, hx, hxe⟩ := hR i hlt
      have e : n - i = (n - (i + 1)) + 1 := by omega
      refine pp_iload_n dX1_nextPlace_13 rfl (q := 14) rfl ?_
      refine pp_bipush dX1_nextPlace_14 cb_64 (q := 16) rfl ?_
      refine pp_icmp_ge (tgt := 40) dX1_nextPlace_16 (by decide) (q := 19) rfl (fun c16 => absurd c16 (nI_ge (by omega) (by decide))) (fun c16 => ?_)
      refine pp_aload_n dX1_nextPlace_19 rfl isRf_r (q := 20) rfl ?_
      refine pp_aload_n dX1_nextPlace_20 rfl isRf_r (q := 21) rfl ?_
      refine ps_get dX1_nextPlace_21 fl_X1_35 hm rfl rfl (q := 24) rfl ?_
      refine pp_iload_n dX1_nextPlace_24 rfl (q := 25) rfl ?_
      refine ps_iald dX1_nextPlace_25 hm rfl rfl (by omega) (by decide) (q := 26) rfl ?_
      rw [hxe]
      refine ps_callVi dX1_nextPlace_26 lk_X1_110 hm rfl rfl (by rfl) (c_thinksLiving hm hx) (by rfl) (by exact Nat.le_of_ble_eq_true rfl) (by decide) (by decide) (by exact Nat.le_of_ble_eq_true rfl) (q := 29) rfl (fun r26 g26 h26 => ?_)
      obtain ⟨hb26, rfl⟩ := And.intro h26.1 h26.2.symm
      have hlv : (livR (gA g (31, w, m)) (gA g (36, w, m)) i = true) ↔ living (gA g (31, w, m)) x := by unfold livR living; rw [hxe, nI_clamp (by omega)]; simp
      refine pp_if_eq (tgt := 34) dX1_nextPlace_29 (by decide) (q := 32) rfl (fun c29 => ?_) (fun c29 => ?_)
      · have hf := fun h => isB_f hb26 c29 (hlv.mp h)
        refine pp_iinc dX1_nextPlace_34 rfl (nI_1 _) (ls1_1 (nl1 rfl)) (q := 37) rfl ?_
        refine pp_goto (tgt := 5) dX1_nextPlace_37 (by decide) ?_
        have hh := ih (i + 1) (by omega) (by omega)
        rw [e]
        unfold fnd
        rw [if_neg hf]
        exact hh
      · have ht := hlv.mpr (isB_t hb26 c29)
        refine pp_iload_n dX1_nextPlace_32 rfl (q := 33) rfl ?_
        refine ri_ret dX1_nextPlace_33 rfl rfl ?_
        refine ⟨?_, rfl⟩
        rw [e]
        unfold fnd
        rw [if_pos ht]
        rfl
set_option maxRecDepth 20000 in
set_option maxHeartbeats 4000000 in
theorem c_nextPlace {ad : Nm → Nat} {g : Sg} {w m : Nat} {n q : Nat} (hm : al g (30, w, m)) (hn : gI g (30, w, m) 14 = nI n) (hnb : n ≤ 64) (hq : gI g (30, w, m) 15 = nI q) (hqb : q ≤ 64) (hR : ∀ i, i < n → ∃ x, x < 64 ∧ gA g (36, w, m) i = nI x) : PS mX1_nextPlace 0 (ent mX1_nextPlace [.ref (ad (30, w, m))]) [] ad g (Ri (fun v g' => v = oI (fnd (livR (gA g (31, w, m)) (gA g (36, w, m))) q (n - q)) ∧ g' = g)) := by
  show PP mX1_nextPlace 0 [some (.ref (ad (30, w, m))), none] [] (Rel ad g) _
  refine pp_aload_n dX1_nextPlace_0 rfl isRf_r (q := 1) rfl ?_
  refine ps_get dX1_nextPlace_1 fl_X1_76 hm rfl rfl (q := 4) rfl ?_
  rw [hq]
  refine pp_istore_n dX1_nextPlace_4 (by decide) (ls1_1 (nl1 rfl)) (q := 5) rfl ?_
  exact l_nextPlace hm hn hnb hR 65 q (by omega) hqb
/-- what the step of a round answers, by the place found -/
def atR (R : Nat → Int32) (o : Option Nat) : Int32 := match o with
  | some i => R i
  | none => -1
def srG (g : Sg) (w m : Nat) (o : Option Nat) : Sg := match o with
  | some i => sI g (30, w, m) 15 (nI (i + 1))
  | none => g
theorem oI_some_ne {i : Nat} (h : i < 2 ^ 31) : ¬ nI i = -1 := by
  intro e
  have h1 := congrArg Int32.toInt e
  rw [nI_toInt h] at h1
  have h2 : (-1 : Int32).toInt = -1 := by decide
  rw [h2] at h1
  omega
set_option maxRecDepth 20000 in
set_option maxHeartbeats 4000000 in
theorem c_stepRound {ad : Nm → Nat} {g : Sg} {w m : Nat} {n q : Nat} (hm : al g (30, w, m)) (hn : gI g (30, w, m) 14 = nI n) (hnb : n ≤ 64) (hq : gI g (30, w, m) 15 = nI q) (hqb : q ≤ 64) (hR : ∀ i, i < n → ∃ x, x < 64 ∧ gA g (36, w, m) i = nI x) : PS mX1_stepRound 0 (ent mX1_stepRound [.ref (ad (30, w, m))]) [] ad g (Ri (fun v g' => v = atR (gA g (36, w, m)) (fnd (livR (gA g (31, w, m)) (gA g (36, w, m))) q (n - q)) ∧ g' = srG g w m (fnd (livR (gA g (31, w, m)) (gA g (36, w, m))) q (n - q)))) := by
  show PP mX1_stepRound 0 [some (.ref (ad (30, w, m))), none] [] (Rel ad g) _
  refine pp_aload_n dX1_stepRound_0 rfl isRf_r (q := 1) rfl ?_
  refine ps_callVi dX1_stepRound_1 lk_X1_127 hm rfl rfl (by rfl) (c_nextPlace hm hn hnb hq hqb hR) (by rfl) (by exact Nat.le_of_ble_eq_true rfl) (by decide) (by decide) (by exact Nat.le_of_ble_eq_true rfl) (q := 4) rfl (fun r1 g1 h1 => ?_)
  obtain ⟨rfl, rfl⟩ := And.intro h1.1.symm h1.2.symm
  have hfs := @fnd_some (livR (gA g (31, w, m)) (gA g (36, w, m))) (n - q) q
  rcases hf : fnd (livR (gA g (31, w, m)) (gA g (36, w, m))) q (n - q) with _ | i
  · show PP mX1_stepRound 4 [some (.ref (ad (30, w, m))), none] [.int (-1)] (Rel ad g) _
    refine pp_istore_n dX1_stepRound_4 (by decide) (ls1_1 (nl1 rfl)) (q := 5) rfl ?_
    refine pp_iload_n dX1_stepRound_5 rfl (q := 6) rfl ?_
    refine pp_iconst dX1_stepRound_6 ci_m1 (q := 7) rfl ?_
    refine pp_icmp_ne (tgt := 12) dX1_stepRound_7 (by decide) (q := 10) rfl (fun c => absurd rfl c) (fun _ => ?_)
    refine pp_iconst dX1_stepRound_10 ci_m1 (q := 11) rfl ?_
    exact ri_ret dX1_stepRound_11 rfl rfl ⟨rfl, rfl⟩
  obtain ⟨f1, f2, f3, f4⟩ := hfs hf
  show PP mX1_stepRound 4 [some (.ref (ad (30, w, m))), none] [.int (nI i)] (Rel ad g) _
  refine pp_istore_n dX1_stepRound_4 (by decide) (ls1_1 (nl1 rfl)) (q := 5) rfl ?_
  refine pp_iload_n dX1_stepRound_5 rfl (q := 6) rfl ?_
  refine pp_iconst dX1_stepRound_6 ci_m1 (q := 7) rfl ?_
  refine pp_icmp_ne (tgt := 12) dX1_stepRound_7 (by decide) (q := 10) rfl (fun c7 => ?_) (fun c7 => absurd c7 (oI_some_ne (by omega)))
  refine pp_aload_n dX1_stepRound_12 rfl isRf_r (q := 13) rfl ?_
  refine pp_iload_n dX1_stepRound_13 rfl (q := 14) rfl ?_
  refine pp_iconst dX1_stepRound_14 ci_1 (q := 15) rfl ?_
  refine pp_iadd dX1_stepRound_15 (q := 16) rfl ?_
  rw [nI_add]
  refine ps_puti dX1_stepRound_16 fl_X1_76 hm rfl (by exact Nat.le_of_ble_eq_true rfl) rfl rfl rfl (q := 19) rfl ?_
  refine pp_aload_n dX1_stepRound_19 rfl isRf_r (q := 20) rfl ?_
  refine ps_get dX1_stepRound_20 fl_X1_35 hm rfl rfl (q := 23) rfl ?_
  refine pp_iload_n dX1_stepRound_23 rfl (q := 24) rfl ?_
  refine ps_iald dX1_stepRound_24 hm rfl rfl (by omega) (by decide) (q := 25) rfl ?_
  refine ri_ret dX1_stepRound_25 rfl rfl ?_
  exact ⟨rfl, rfl⟩
