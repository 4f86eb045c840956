set_option maxRecDepth 20000 in
set_option maxHeartbeats 4000000 in
theorem c_takeSelf {ad : Nm → Nat} {g : Sg} {w m : Nat} {kind pt l : Int32} (hm : al g (30, w, m)) (hx : m < 64) : PS mX1_takePiece 0 (ent mX1_takePiece [.ref (ad (30, w, m)), .int (nI m), .int kind, .int pt, .int l]) [] ad g (Ri (fun v g' => isB v (¬ kind = nI 1 ∧ ¬ pt < gI g (30, w, m) 4) ∧ (((¬ kind = nI 1 ∧ ¬ pt < gI g (30, w, m) 4) ∧ g' = enG (sI g (30, w, m) 4 (pt + nI 1)) w m m (nI 1) (pt + nI 1) (-1)) ∨ (¬ (¬ kind = nI 1 ∧ ¬ pt < gI g (30, w, m) 4) ∧ g' = g)))) := by
  show PP mX1_takePiece 0 [some (.ref (ad (30, w, m))), some (.int (nI m)), some (.int kind), some (.int pt), some (.int l), none] [] (Rel ad g) _
  refine pp_iload_n dX1_takePiece_0 rfl (q := 1) rfl ?_
  refine pp_aload_n dX1_takePiece_1 rfl isRf_r (q := 2) rfl ?_
  refine ps_get dX1_takePiece_2 fl_X1_9 hm rfl rfl (q := 5) rfl ?_
  refine pp_icmp_ne (tgt := 43) dX1_takePiece_5 (by decide) (q := 8) rfl (fun c5 => absurd rfl c5) (fun c5 => ?_)
  refine pp_iload_n dX1_takePiece_8 rfl (q := 9) rfl ?_
  refine pp_iconst dX1_takePiece_9 ci_1 (q := 10) rfl ?_
  refine pp_icmp_eq (tgt := 25) dX1_takePiece_10 (by decide) (q := 13) rfl (fun c10 => ?_) (fun c10 => ?_)
  · refine pp_iconst dX1_takePiece_25 ci_0 (q := 26) rfl ?_
    refine pp_istore dX1_takePiece_26 (by decide) (ls1_5 (nl1 rfl)) (q := 28) rfl ?_
    refine pp_iload dX1_takePiece_28 rfl (q := 30) rfl ?_
    refine pp_if_eq (tgt := 40) dX1_takePiece_30 (by decide) (q := 33) rfl (fun c30 => ?_) (fun c30 => absurd rfl c30)
    refine pp_iload dX1_takePiece_40 rfl (q := 42) rfl ?_
    refine ri_ret dX1_takePiece_42 rfl (by decide) ?_
    first
      | exact ⟨isB_0 (fun h => h.1 c10), Or.inr ⟨fun h => h.1 c10, rfl⟩⟩
      | exact ⟨isB_0 (fun h => h.2 c18), Or.inr ⟨fun h => h.2 c18, rfl⟩⟩
      | exact ⟨isB_1 ⟨c10, c18⟩, Or.inl ⟨⟨c10, c18⟩, rfl⟩⟩
  · refine pp_iload_n dX1_takePiece_13 rfl (q := 14) rfl ?_
    refine pp_aload_n dX1_takePiece_14 rfl isRf_r (q := 15) rfl ?_
    refine ps_get dX1_takePiece_15 fl_X1_45 hm rfl rfl (q := 18) rfl ?_
    refine pp_icmp_lt (tgt := 25) dX1_takePiece_18 (by decide) (q := 21) rfl (fun c18 => ?_) (fun c18 => ?_)
    · refine pp_iconst dX1_takePiece_25 ci_0 (q := 26) rfl ?_
      refine pp_istore dX1_takePiece_26 (by decide) (ls1_5 (nl1 rfl)) (q := 28) rfl ?_
      refine pp_iload dX1_takePiece_28 rfl (q := 30) rfl ?_
      refine pp_if_eq (tgt := 40) dX1_takePiece_30 (by decide) (q := 33) rfl (fun c30 => ?_) (fun c30 => absurd rfl c30)
      refine pp_iload dX1_takePiece_40 rfl (q := 42) rfl ?_
      refine ri_ret dX1_takePiece_42 rfl (by decide) ?_
      first
        | exact ⟨isB_0 (fun h => h.1 c10), Or.inr ⟨fun h => h.1 c10, rfl⟩⟩
        | exact ⟨isB_0 (fun h => h.2 c18), Or.inr ⟨fun h => h.2 c18, rfl⟩⟩
        | exact ⟨isB_1 ⟨c10, c18⟩, Or.inl ⟨⟨c10, c18⟩, rfl⟩⟩
    · refine pp_iconst dX1_takePiece_21 ci_1 (q := 22) rfl ?_
      refine pp_goto (tgt := 26) dX1_takePiece_22 (by decide) ?_
      refine pp_istore dX1_takePiece_26 (by decide) (ls1_5 (nl1 rfl)) (q := 28) rfl ?_
      refine pp_iload dX1_takePiece_28 rfl (q := 30) rfl ?_
      refine pp_if_eq (tgt := 40) dX1_takePiece_30 (by decide) (q := 33) rfl (fun c30 => absurd c30 nI1_ne) (fun c30 => ?_)
      refine pp_aload_n dX1_takePiece_33 rfl isRf_r (q := 34) rfl ?_
      refine pp_iload_n dX1_takePiece_34 rfl (q := 35) rfl ?_
      refine pp_iconst dX1_takePiece_35 ci_1 (q := 36) rfl ?_
      refine pp_iadd dX1_takePiece_36 (q := 37) rfl ?_
      refine ps_callVv dX1_takePiece_37 lk_X1_83 hm rfl rfl (by rfl) (c_raiseTerm hm hx) (by rfl) (by exact Nat.le_of_ble_eq_true rfl) (by decide) (by decide) (by exact Nat.le_of_ble_eq_true rfl) (q := 40) rfl (fun g37 h37 => ?_)
      have h37 := h37.symm
      subst h37
      refine pp_iload dX1_takePiece_40 rfl (q := 42) rfl ?_
      refine ri_ret dX1_takePiece_42 rfl (by decide) ?_
      first
        | exact ⟨isB_0 (fun h => h.1 c10), Or.inr ⟨fun h => h.1 c10, rfl⟩⟩
        | exact ⟨isB_0 (fun h => h.2 c18), Or.inr ⟨fun h => h.2 c18, rfl⟩⟩
        | exact ⟨isB_1 ⟨c10, c18⟩, Or.inl ⟨⟨c10, c18⟩, rfl⟩⟩
set_option maxRecDepth 20000 in
set_option maxHeartbeats 4000000 in
theorem c_takeOther {ad : Nm → Nat} {g : Sg} {w m : Nat} {x : Nat} {kind pt l : Int32} (hm : al g (30, w, m)) (hmb : m < 64) (hx : x < 64) (hne : x ≠ m) : PS mX1_takePiece 0 (ent mX1_takePiece [.ref (ad (30, w, m)), .int (nI x), .int kind, .int pt, .int l]) [] ad g (Ri (fun v g' => v = nI 0 ∧ ((beats (gA g (31, w, m)) (gA g (32, w, m)) x kind pt ∧ g' = enG g w m x kind pt l) ∨ (¬ beats (gA g (31, w, m)) (gA g (32, w, m)) x kind pt ∧ g' = g)))) := by
  show PP mX1_takePiece 0 [some (.ref (ad (30, w, m))), some (.int (nI x)), some (.int kind), some (.int pt), some (.int l), none] [] (Rel ad g) _
  refine pp_iload_n dX1_takePiece_0 rfl (q := 1) rfl ?_
  refine pp_aload_n dX1_takePiece_1 rfl isRf_r (q := 2) rfl ?_
  refine ps_get dX1_takePiece_2 fl_X1_9 hm rfl rfl (q := 5) rfl ?_
  refine pp_icmp_ne (tgt := 43) dX1_takePiece_5 (by decide) (q := 8) rfl (fun c5 => ?_) (fun c5 => absurd c5 (fun h => hne (eqT h (by omega) (by omega))))
  refine pp_iload_n dX1_takePiece_43 rfl (q := 44) rfl ?_
  refine ps_callNi dX1_takePiece_44 lk_X1_87 (by rfl) (c_isMem hx) (by rfl) (by exact Nat.le_of_ble_eq_true rfl) (by decide) (by decide) (by exact Nat.le_of_ble_eq_true rfl) (q := 47) rfl (fun r44 g44 h44 => ?_)
  obtain ⟨rfl, rfl⟩ := And.intro h44.1.symm h44.2.symm
  refine pp_if_eq (tgt := 69) dX1_takePiece_47 (by decide) (q := 50) rfl (fun c47 => absurd c47 nI1_ne) (fun c47 => ?_)
  refine pp_aload_n dX1_takePiece_50 rfl isRf_r (q := 51) rfl ?_
  refine pp_iload_n dX1_takePiece_51 rfl (q := 52) rfl ?_
  refine pp_iload_n dX1_takePiece_52 rfl (q := 53) rfl ?_
  refine pp_iload_n dX1_takePiece_53 rfl (q := 54) rfl ?_
  refine ps_callVi dX1_takePiece_54 lk_X1_91 hm rfl rfl (by rfl) (c_isBeaten hm hx) (by rfl) (by exact Nat.le_of_ble_eq_true rfl) (by decide) (by decide) (by exact Nat.le_of_ble_eq_true rfl) (q := 57) rfl (fun r54 g54 h54 => ?_)
  obtain ⟨hb54, rfl⟩ := And.intro h54.1 h54.2.symm
  refine pp_if_eq (tgt := 69) dX1_takePiece_57 (by decide) (q := 60) rfl (fun c57 => ?_) (fun c57 => ?_)
  · have hbt := isB_f hb54 c57
    refine pp_iconst dX1_takePiece_69 ci_0 (q := 70) rfl ?_
    refine ri_ret dX1_takePiece_70 rfl (by decide) ?_
    first | exact ⟨rfl, Or.inr ⟨hbt, rfl⟩⟩ | exact ⟨rfl, Or.inl ⟨hbt, rfl⟩⟩
  · have hbt := isB_t hb54 c57
    refine pp_aload_n dX1_takePiece_60 rfl isRf_r (q := 61) rfl ?_
    refine pp_iload_n dX1_takePiece_61 rfl (q := 62) rfl ?_
    refine pp_iload_n dX1_takePiece_62 rfl (q := 63) rfl ?_
    refine pp_iload_n dX1_takePiece_63 rfl (q := 64) rfl ?_
    refine pp_iload dX1_takePiece_64 rfl (q := 66) rfl ?_
    refine ps_callVv dX1_takePiece_66 lk_X1_79 hm rfl rfl (by rfl) (c_enter hm hx) (by rfl) (by exact Nat.le_of_ble_eq_true rfl) (by decide) (by decide) (by exact Nat.le_of_ble_eq_true rfl) (q := 69) rfl (fun g66 h66 => ?_)
    have h66 := h66.symm
    subst h66
    refine pp_iconst dX1_takePiece_69 ci_0 (q := 70) rfl ?_
    refine ri_ret dX1_takePiece_70 rfl (by decide) ?_
    first | exact ⟨rfl, Or.inr ⟨hbt, rfl⟩⟩ | exact ⟨rfl, Or.inl ⟨hbt, rfl⟩⟩
def asel (K : Nat → Int32) : Nat → Bool := fun x => decide (¬ K x = 0)
set_option maxRecDepth 20000 in
set_option maxHeartbeats 4000000 in
theorem l_pickAll {ad : Nm → Nat} {g : Sg} {w m : Nat} {n : Nm} (hm : al g (30, w, m)) (hn : al g n) (h64 : is64 n) (hne : (31, w, m) ≠ n) : ∀ (j i : Nat), 64 - i < j → i ≤ 64 → PP mX1_pickAll 4 [some (.ref (ad (30, w, m))), some (.ref (ad n)), some (.int (nI (sel (asel (gA g (31, w, m))) i).length)), some (.int (nI i))] [] (Rel ad (sA g n (wl (gA g n) (sel (asel (gA g (31, w, m))) i)))) (fun v G => ∃ g', Rel ad g' G ∧ Ri (fun v g' => v = nI (sel (asel (gA g (31, w, m))) 64).length ∧ g' = sA g n (wl (gA g n) (sel (asel (gA g (31, w, m))) 64))) v g') := by
  intro j
  induction j with
  | zero => intro i h; omega
  | succ j ih =>
    intro i hij hik
    refine pp_iload_n dX1_pickAll_4 rfl (q := 5) rfl ?_
    refine pp_bipush dX1_pickAll_5 cb_64 (q := 7) rfl ?_
    refine pp_icmp_ge (tgt := 38) dX1_pickAll_7 (by decide) (q := 10) rfl (fun c7 => ?_) (fun c7 => ?_)
    · have e : i = 64 := by have := leT c7 (by decide) (by omega); omega
      subst e
      refine pp_iload_n dX1_pickAll_38 rfl (q := 39) rfl ?_
      exact ri_ret dX1_pickAll_39 rfl rfl ⟨rfl, rfl⟩
    · have hlt := leF c7 (by decide) (by omega)
      have hsl := sel_le (asel (gA g (31, w, m))) i
      refine pp_aload_n dX1_pickAll_10 rfl isRf_r (q := 11) rfl ?_
      refine ps_get dX1_pickAll_11 fl_X1_19 hm rfl rfl (q := 14) rfl ?_
      refine pp_iload_n dX1_pickAll_14 rfl (q := 15) rfl ?_
      refine ps_iald dX1_pickAll_15 hm rfl rfl (by omega) (by decide) (q := 16) rfl ?_
      rw [show gA (sA g n (wl (gA g n) (sel (asel (gA g (31, w, m))) i))) (31, w, m) i = gA g (31, w, m) i from by rw [gA_sA, if_neg hne]]
      refine pp_if_eq (tgt := 32) dX1_pickAll_16 (by decide) (q := 19) rfl (fun c16 => ?_) (fun c16 => ?_)
      · have hsel : asel (gA g (31, w, m)) i = false := by unfold asel; simp [c16]
        refine pp_iinc dX1_pickAll_32 rfl (nI_1 _) (ls1_3 (nl1 rfl)) (q := 35) rfl ?_
        refine pp_goto (tgt := 4) dX1_pickAll_35 (by decide) ?_
        have hh := ih (i + 1) (by omega) (by omega)
        rw [sel_s, hsel] at hh
        first
          | exact hh
          | (rw [sA_sA, gA_sA, if_pos rfl, wl_push]; rw [if_pos rfl, List.length_append] at hh; exact hh)
      · have hsel : asel (gA g (31, w, m)) i = true := by unfold asel; simp [c16]
        refine pp_iload_n dX1_pickAll_19 rfl (q := 20) rfl ?_
        refine pp_aload_n dX1_pickAll_20 rfl isRf_r (q := 21) rfl ?_
        refine ps_alen dX1_pickAll_21 hn (h64 _ _ _ _ _ _ _) (by decide) (q := 22) rfl ?_
        refine pp_icmp_ge (tgt := 32) dX1_pickAll_22 (by decide) (q := 25) rfl (fun c22 => absurd c22 (nI_ge (by omega) (by decide))) (fun c22 => ?_)
        refine pp_aload_n dX1_pickAll_25 rfl isRf_r (q := 26) rfl ?_
        refine pp_iload_n dX1_pickAll_26 rfl (q := 27) rfl ?_
        refine pp_iload_n dX1_pickAll_27 rfl (q := 28) rfl ?_
        refine ps_iast dX1_pickAll_28 hn (fun _ => h64 _ _ _ _ _ _ _) rfl (by omega) (by decide) (q := 29) rfl ?_
        refine pp_iinc dX1_pickAll_29 rfl (nI_1 _) (ls1_2 (nl1 rfl)) (q := 32) rfl ?_
        refine pp_iinc dX1_pickAll_32 rfl (nI_1 _) (ls1_3 (nl1 rfl)) (q := 35) rfl ?_
        refine pp_goto (tgt := 4) dX1_pickAll_35 (by decide) ?_
        have hh := ih (i + 1) (by omega) (by omega)
        rw [sel_s, hsel] at hh
        first
          | exact hh
          | (rw [sA_sA, gA_sA, if_pos rfl, wl_push]; rw [if_pos rfl, List.length_append] at hh; exact hh)
set_option maxRecDepth 20000 in
set_option maxHeartbeats 4000000 in
theorem c_pickAll {ad : Nm → Nat} {g : Sg} {w m : Nat} {n : Nm} (hm : al g (30, w, m)) (hn : al g n) (h64 : is64 n) (hne : (31, w, m) ≠ n) : PS mX1_pickAll 0 (ent mX1_pickAll [.ref (ad (30, w, m)), .ref (ad n)]) [] ad g (Ri (fun v g' => v = nI (sel (asel (gA g (31, w, m))) 64).length ∧ g' = sA g n (wl (gA g n) (sel (asel (gA g (31, w, m))) 64)))) := by
  show PP mX1_pickAll 0 [some (.ref (ad (30, w, m))), some (.ref (ad n)), none, none] [] (Rel ad g) _
  refine pp_iconst dX1_pickAll_0 ci_0 (q := 1) rfl ?_
  refine pp_istore_n dX1_pickAll_1 (by decide) (ls1_2 (nl1 rfl)) (q := 2) rfl ?_
  refine pp_iconst dX1_pickAll_2 ci_0 (q := 3) rfl ?_
  refine pp_istore_n dX1_pickAll_3 (by decide) (ls1_3 (nl1 rfl)) (q := 4) rfl ?_
  have hg : g = sA g n (wl (gA g n) (sel (asel (gA g (31, w, m))) 0)) := by show g = sA g n (wl (gA g n) []); rw [wl_nil, sA_id]
  refine PP.pre (I := Rel ad (sA g n (wl (gA g n) (sel (asel (gA g (31, w, m))) 0)))) ?_ (fun G hG => by rw [← hg]; exact hG)
  exact l_pickAll hm hn h64 hne 65 0 (by decide) (by decide)
/-- the place behind all that were told as often or less, sought from place j down -/
def atp (T : Nat → Int32) (x : Nat) (l : List Nat) : Nat → Nat
  | 0 => 0
  | j + 1 => if T x < T (l.getD j 0) then atp T x l j else j + 1
theorem atp_le (T : Nat → Int32) (x : Nat) (l : List Nat) : ∀ j, atp T x l j ≤ j
  | 0 => Nat.le_refl 0
  | j + 1 => by unfold atp; have := atp_le T x l j; split <;> omega
def insL (T : Nat → Int32) (x : Nat) (l : List Nat) : List Nat := (l.take (atp T x l l.length) ++ x :: l.drop (atp T x l l.length)).take 6
def sh2 (P : Nat → Int32) (z i : Nat) : Nat → Int32 := fun k => if i < k ∧ k ≤ z then P (k - 1) else P k
theorem sh2_0 (P : Nat → Int32) (z : Nat) : sh2 P z z = P := by funext k; unfold sh2; rw [if_neg]; omega
theorem sh2_s (P : Nat → Int32) {z i : Nat} (h : i + 1 ≤ z) : upd (sh2 P z (i + 1)) (i + 1) (sh2 P z (i + 1) i) = sh2 P z i := by
  funext k
  unfold upd sh2
  by_cases h1 : k = i + 1
  · subst h1; rw [if_pos rfl, if_neg (by omega), if_pos (by omega)]; rfl
  · rw [if_neg h1]
    by_cases h2 : i + 1 < k ∧ k ≤ z
    · rw [if_pos h2, if_pos (by omega)]
    · rw [if_neg h2, if_neg (by omega)]
theorem insL_arr (f : Nat → Int32) (l : List Nat) (x a : Nat) (ha : a ≤ l.length) (hl : l.length ≤ 6) (ha6 : a < 6) : upd (sh2 (wl f l) (if l.length < 6 then l.length else 5) a) a (nI x) = wl f ((l.take a ++ x :: l.drop a).take 6) := by
  funext k
  unfold upd
  have hta : (l.take a).length = a := by rw [List.length_take]; omega
  have hlen : (l.take a ++ x :: l.drop a).length = l.length + 1 := by simp; omega
  by_cases h1 : k = a
  · subst h1
    rw [if_pos rfl]
    unfold wl
    rw [List.getElem?_take, if_pos ha6, List.getElem?_append_right (by omega), hta]
    simp
  · rw [if_neg h1]
    unfold sh2
    by_cases h2 : k < a
    · rw [if_neg (by omega)]
      unfold wl
      rw [List.getElem?_take, if_pos (by omega), List.getElem?_append_left (by omega), List.getElem?_take, if_pos h2]
    · obtain ⟨d, rfl⟩ : ∃ d, k = a + 1 + d := ⟨k - a - 1, by omega⟩
      have e1 : (l.take a ++ x :: l.drop a)[a + 1 + d]? = l[a + d]? := by
        rw [List.getElem?_append_right (by omega), hta, show a + 1 + d - a = d + 1 by omega, List.getElem?_cons_succ, List.getElem?_drop]
      by_cases h3 : a + 1 + d ≤ (if l.length < 6 then l.length else 5)
      · rw [if_pos ⟨by omega, h3⟩, show a + 1 + d - 1 = a + d by omega]
        unfold wl
        rw [List.getElem?_take, e1]
        have h6 : a + 1 + d < 6 := by split at h3 <;> omega
        rw [if_pos h6]
        have hs : a + d < l.length := by split at h3 <;> omega
        rw [List.getElem?_eq_getElem hs]
      · rw [if_neg (by omega)]
        unfold wl
        rw [List.getElem?_take]
        by_cases h6 : a + 1 + d < 6
        · rw [if_pos h6, e1]
          have : ¬ (a + d < l.length) := by split at h3 <;> omega
          rw [List.getElem?_eq_none (by omega), List.getElem?_eq_none (by omega)]
        · rw [if_neg h6]
          rw [List.getElem?_eq_none (by omega)]
theorem insL_len (l : List Nat) (x a : Nat) (ha : a ≤ l.length) (hl : l.length ≤ 6) : ((l.take a ++ x :: l.drop a).take 6).length = (if l.length < 6 then l.length else 5) + 1 := by
  simp only [List.length_take, List.length_append, List.length_cons, List.length_drop]
  split <;> omega
theorem insL_end (l : List Nat) (x : Nat) (hl : l.length = 6) : (l.take 6 ++ x :: l.drop 6).take 6 = l := by
  have e : l.take 6 = l := List.take_of_length_le (by omega)
  rw [e, List.take_append_of_le_length (by omega), e]
set_option maxRecDepth 20000 in
set_option maxHeartbeats 4000000 in
theorem l_pick1 {ad : Nm → Nat} {g : Sg} {w m x a : Nat} {n : Nm} {l : List Nat} {f : Nat → Int32} {Q : Option Value → PH → Prop} (hm : al g (30, w, m)) (hn : al g n) (h64 : is64 n) (hgn : gA g n = wl f l) (hl : l.length ≤ 6) (hlm : ∀ y ∈ l, y < 64) (hx : x < 64) (hk : PP mX1_pickInOrder 34 [some (.ref (ad (30, w, m))), some (.ref (ad n)), some (.int (nI l.length)), some (.int (nI x)), some (.int (nI a)), none, none] [] (Rel ad g) Q) : ∀ (j i : Nat), i < j → i ≤ l.length → atp (gA g (33, w, m)) x l i = a → PP mX1_pickInOrder 3 [some (.ref (ad (30, w, m))), some (.ref (ad n)), some (.int (nI l.length)), some (.int (nI x)), some (.int (nI i)), none, none] [] (Rel ad g) Q := by
  intro j
  induction j with
  | zero => intro i h; omega
  | succ j ih =>
    intro i hij hil hia
    refine pp_iload dX1_pickInOrder_3 rfl (q := 5) rfl ?_
    refine pp_if_le (tgt := 34) dX1_pickInOrder_5 (by decide) (q := 8) rfl (fun c5 => ?_) (fun c5 => ?_)
    · have e : i = 0 := by have := (show nI i ≤ nI 0 from c5); have := leT this (by omega) (by decide); omega
      subst e
      have e0 : 0 = a := hia
      subst e0
      exact hk
    · obtain ⟨i, rfl⟩ : ∃ k, i = k + 1 := ⟨i - 1, by have : ¬ nI i ≤ nI 0 := c5; have := leF this (by omega) (by decide); omega⟩
      obtain ⟨y, hy⟩ : ∃ y, l[i]? = some y := ⟨_, List.getElem?_eq_getElem (by omega)⟩
      have hyb := hlm y (List.mem_of_getElem? hy)
      have hyd : l.getD i 0 = y := by rw [List.getD_eq_getElem?_getD, hy]; rfl
      refine pp_aload_n dX1_pickInOrder_8 rfl isRf_r (q := 9) rfl ?_
      refine ps_get dX1_pickInOrder_9 fl_X1_26 hm rfl rfl (q := 12) rfl ?_
      refine pp_aload_n dX1_pickInOrder_12 rfl isRf_r (q := 13) rfl ?_
      refine pp_iload dX1_pickInOrder_13 rfl (q := 15) rfl ?_
      refine pp_iconst dX1_pickInOrder_15 ci_1 (q := 16) rfl ?_
      refine pp_isub dX1_pickInOrder_16 (q := 17) rfl ?_
      rw [pk_sub (by omega), show i + 1 - 1 = i by omega]
      refine ps_iald dX1_pickInOrder_17 hn (h64 _ _ _ _ _ _ _) rfl (by omega) (by decide) (q := 18) rfl ?_
      rw [hgn, wl_at hy]
      refine ps_iald dX1_pickInOrder_18 hm rfl rfl (by omega) (by decide) (q := 19) rfl ?_
      refine pp_aload_n dX1_pickInOrder_19 rfl isRf_r (q := 20) rfl ?_
      refine ps_get dX1_pickInOrder_20 fl_X1_26 hm rfl rfl (q := 23) rfl ?_
      refine pp_iload_n dX1_pickInOrder_23 rfl (q := 24) rfl ?_
      refine ps_iald dX1_pickInOrder_24 hm rfl rfl (by omega) (by decide) (q := 25) rfl ?_
      refine pp_icmp_le (tgt := 34) dX1_pickInOrder_25 (by decide) (q := 28) rfl (fun c25 => ?_) (fun c25 => ?_)
      · have e : i + 1 = a := by rw [← hia]; unfold atp; rw [if_neg (by rw [hyd]; exact Int32.not_lt.mpr c25)]
        subst e
        exact hk
      · have c26 := Int32.not_le.mp c25
        refine pp_iinc dX1_pickInOrder_28 rfl (nI_m1 _) (ls1_4 (nl1 rfl)) (q := 31) rfl ?_
        refine pp_goto (tgt := 3) dX1_pickInOrder_31 (by decide) ?_
        refine ih i (by omega) (by omega) ?_
        rw [← hia]
        conv => rhs; unfold atp
        rw [if_pos (by rw [hyd]; exact c26)]
set_option maxRecDepth 20000 in
set_option maxHeartbeats 4000000 in
theorem l_pick2 {ad : Nm → Nat} {g : Sg} {w m x a z : Nat} {n : Nm} {l : List Nat} {P : Nat → Int32} {Q : Option Value → PH → Prop} (hn : al g n) (h64 : is64 n) (hz : z < 64) (hk : PP mX1_pickInOrder 83 [some (.ref (ad (30, w, m))), some (.ref (ad n)), some (.int (nI l.length)), some (.int (nI x)), some (.int (nI a)), some (.int (nI z)), some (.int (nI a))] [] (Rel ad (sA g n (sh2 P z a))) Q) : ∀ (j i : Nat), i < j → i ≤ z → a ≤ i → PP mX1_pickInOrder 60 [some (.ref (ad (30, w, m))), some (.ref (ad n)), some (.int (nI l.length)), some (.int (nI x)), some (.int (nI a)), some (.int (nI z)), some (.int (nI i))] [] (Rel ad (sA g n (sh2 P z i))) Q := by
  intro j
  induction j with
  | zero => intro i h; omega
  | succ j ih =>
    intro i hij hil hai0
    refine pp_iload dX1_pickInOrder_60 rfl (q := 62) rfl ?_
    refine pp_iload dX1_pickInOrder_62 rfl (q := 64) rfl ?_
    refine pp_icmp_le (tgt := 83) dX1_pickInOrder_64 (by decide) (q := 67) rfl (fun c64 => ?_) (fun c64 => ?_)
    · have e : i = a := by have := leT c64 (by omega) (by omega); omega
      subst e
      exact hk
    · obtain ⟨i, rfl⟩ : ∃ k, i = k + 1 := ⟨i - 1, by have := leF c64 (by omega) (by omega); omega⟩
      have hai : a ≤ i := by have := leF c64 (by omega) (by omega); omega
      refine pp_aload_n dX1_pickInOrder_67 rfl isRf_r (q := 68) rfl ?_
      refine pp_iload dX1_pickInOrder_68 rfl (q := 70) rfl ?_
      refine pp_aload_n dX1_pickInOrder_70 rfl isRf_r (q := 71) rfl ?_
      refine pp_iload dX1_pickInOrder_71 rfl (q := 73) rfl ?_
      refine pp_iconst dX1_pickInOrder_73 ci_1 (q := 74) rfl ?_
      refine pp_isub dX1_pickInOrder_74 (q := 75) rfl ?_
      rw [pk_sub (by omega), show i + 1 - 1 = i by omega]
      refine ps_iald dX1_pickInOrder_75 hn (h64 _ _ _ _ _ _ _) rfl (by omega) (by decide) (q := 76) rfl ?_
      refine ps_iast dX1_pickInOrder_76 hn (fun _ => h64 _ _ _ _ _ _ _) rfl (by omega) (by decide) (q := 77) rfl ?_
      refine pp_iinc dX1_pickInOrder_77 rfl (nI_m1 _) (ls1_6 (nl1 rfl)) (q := 80) rfl ?_
      refine pp_goto (tgt := 60) dX1_pickInOrder_80 (by decide) ?_
      rw [sA_sA, gA_sA, if_pos rfl, sh2_s _ (by omega)]
      exact ih i (by omega) (by omega) hai
set_option maxRecDepth 20000 in
set_option maxHeartbeats 4000000 in
theorem c_pickInOrder {ad : Nm → Nat} {g : Sg} {w m x : Nat} {n : Nm} {l : List Nat} {f : Nat → Int32} (hm : al g (30, w, m)) (hn : al g n) (h64 : is64 n) (hgn : gA g n = wl f l) (hl : l.length ≤ 6) (hlm : ∀ y ∈ l, y < 64) (hx : x < 64) : PS mX1_pickInOrder 0 (ent mX1_pickInOrder [.ref (ad (30, w, m)), .ref (ad n), .int (nI l.length), .int (nI x)]) [] ad g (Ri (fun v g' => v = nI (insL (gA g (33, w, m)) x l).length ∧ g' = sA g n (wl f (insL (gA g (33, w, m)) x l)))) := by
  show PP mX1_pickInOrder 0 [some (.ref (ad (30, w, m))), some (.ref (ad n)), some (.int (nI l.length)), some (.int (nI x)), none, none, none] [] (Rel ad g) _
  refine pp_iload_n dX1_pickInOrder_0 rfl (q := 1) rfl ?_
  refine pp_istore dX1_pickInOrder_1 (by decide) (ls1_4 (nl1 rfl)) (q := 3) rfl ?_
  have hal := atp_le (gA g (33, w, m)) x l l.length
  refine l_pick1 hm hn h64 hgn hl hlm hx ?_ (l.length + 1) l.length (by omega) (Nat.le_refl _) rfl
  skip
  refine pp_iload dX1_pickInOrder_34 rfl (q := 36) rfl ?_
  refine pp_bipush dX1_pickInOrder_36 cb_6 (q := 38) rfl ?_
  refine pp_icmp_lt (tgt := 43) dX1_pickInOrder_38 (by decide) (q := 41) rfl (fun c38 => ?_) (fun c38 => ?_)
  · have ha6 := ltT c38 (by omega) (by decide)
    refine pp_iload_n dX1_pickInOrder_43 rfl (q := 44) rfl ?_
    refine pp_bipush dX1_pickInOrder_44 cb_6 (q := 46) rfl ?_
    refine pp_icmp_ge (tgt := 53) dX1_pickInOrder_46 (by decide) (q := 49) rfl (fun c46 => ?_) (fun c46 => ?_)
    · have hk6 : ¬ l.length < 6 := by have := leT c46 (by decide) (by omega); omega
      refine pp_iconst dX1_pickInOrder_53 ci_5 (q := 54) rfl ?_
      refine pp_istore dX1_pickInOrder_54 (by decide) (ls1_5 (nl1 rfl)) (q := 56) rfl ?_
      refine pp_iload dX1_pickInOrder_56 rfl (q := 58) rfl ?_
      refine pp_istore dX1_pickInOrder_58 (by decide) (ls1_6 (nl1 rfl)) (q := 60) rfl ?_
      have hgs : g = sA g n (sh2 (gA g n) 5 5) := by rw [sh2_0, sA_id]
      refine PP.pre (I := Rel ad (sA g n (sh2 (gA g n) 5 5))) ?_ (fun G hG => by rw [← hgs]; exact hG)
      have harr := insL_arr f l x _ hal hl ha6
      have hll := insL_len l x _ hal hl
      rw [if_neg hk6] at harr hll
      refine l_pick2 (P := gA g n) hn h64 (by omega) ?_ (5 + 1) (5) (by omega) (Nat.le_refl _) (by omega)
      refine pp_aload_n dX1_pickInOrder_83 rfl isRf_r (q := 84) rfl ?_
      refine pp_iload dX1_pickInOrder_84 rfl (q := 86) rfl ?_
      refine pp_iload_n dX1_pickInOrder_86 rfl (q := 87) rfl ?_
      refine ps_iast dX1_pickInOrder_87 hn (fun _ => h64 _ _ _ _ _ _ _) rfl (by omega) (by decide) (q := 88) rfl ?_
      refine pp_iload dX1_pickInOrder_88 rfl (q := 90) rfl ?_
      refine pp_iconst dX1_pickInOrder_90 ci_1 (q := 91) rfl ?_
      refine pp_iadd dX1_pickInOrder_91 (q := 92) rfl ?_
      refine ri_ret dX1_pickInOrder_92 rfl rfl ⟨?_, ?_⟩
      · rw [nI_add]; unfold insL; rw [hll]
      · rw [sA_sA, gA_sA, if_pos rfl, hgn, harr]; rfl
    · have hk6 : l.length < 6 := leF c46 (by decide) (by omega)
      refine pp_iload_n dX1_pickInOrder_49 rfl (q := 50) rfl ?_
      refine pp_goto (tgt := 54) dX1_pickInOrder_50 (by decide) ?_
      refine pp_istore dX1_pickInOrder_54 (by decide) (ls1_5 (nl1 rfl)) (q := 56) rfl ?_
      refine pp_iload dX1_pickInOrder_56 rfl (q := 58) rfl ?_
      refine pp_istore dX1_pickInOrder_58 (by decide) (ls1_6 (nl1 rfl)) (q := 60) rfl ?_
      have hgs : g = sA g n (sh2 (gA g n) l.length l.length) := by rw [sh2_0, sA_id]
      refine PP.pre (I := Rel ad (sA g n (sh2 (gA g n) l.length l.length))) ?_ (fun G hG => by rw [← hgs]; exact hG)
      have harr := insL_arr f l x _ hal hl ha6
      have hll := insL_len l x _ hal hl
      rw [if_pos hk6] at harr hll
      refine l_pick2 (P := gA g n) hn h64 (by omega) ?_ (l.length + 1) (l.length) (by omega) (Nat.le_refl _) (by omega)
      refine pp_aload_n dX1_pickInOrder_83 rfl isRf_r (q := 84) rfl ?_
      refine pp_iload dX1_pickInOrder_84 rfl (q := 86) rfl ?_
      refine pp_iload_n dX1_pickInOrder_86 rfl (q := 87) rfl ?_
      refine ps_iast dX1_pickInOrder_87 hn (fun _ => h64 _ _ _ _ _ _ _) rfl (by omega) (by decide) (q := 88) rfl ?_
      refine pp_iload dX1_pickInOrder_88 rfl (q := 90) rfl ?_
      refine pp_iconst dX1_pickInOrder_90 ci_1 (q := 91) rfl ?_
      refine pp_iadd dX1_pickInOrder_91 (q := 92) rfl ?_
      refine ri_ret dX1_pickInOrder_92 rfl rfl ⟨?_, ?_⟩
      · rw [nI_add]; unfold insL; rw [hll]
      · rw [sA_sA, gA_sA, if_pos rfl, hgn, harr]; rfl
  · have ha6 := ltF c38 (by omega) (by decide)
    have hl6 : l.length = 6 := by omega
    have ha7 : atp (gA g (33, w, m)) x l l.length = 6 := by omega
    refine pp_iload_n dX1_pickInOrder_41 rfl (q := 42) rfl ?_
    refine ri_ret dX1_pickInOrder_42 rfl rfl ?_
    exact ⟨by unfold insL; rw [ha7, insL_end l x hl6], by unfold insL; rw [ha7, insL_end l x hl6, ← hgn, sA_id]⟩
def esel (K T : Nat → Int32) : Nat → Bool := fun x => decide (¬ K x = 0) && decide (T x < nI 8)
/-- those told least, the least first, of the numbers below i -/
def frs (K T : Nat → Int32) : Nat → List Nat
  | 0 => []
  | i + 1 => if esel K T i then insL T i (frs K T i) else frs K T i
theorem insL_mem {T : Nat → Int32} {x y : Nat} {l : List Nat} (h : y ∈ insL T x l) : y = x ∨ y ∈ l := by
  have h1 := List.mem_of_mem_take h
  rcases List.mem_append.mp h1 with h2 | h2
  · exact Or.inr (List.mem_of_mem_take h2)
  · rcases List.mem_cons.mp h2 with h3 | h3
    · exact Or.inl h3
    · exact Or.inr (List.mem_of_mem_drop h3)
theorem insL_le (T : Nat → Int32) (x : Nat) (l : List Nat) : (insL T x l).length ≤ 6 := by unfold insL; rw [List.length_take]; omega
theorem frs_le (K T : Nat → Int32) : ∀ i, (frs K T i).length ≤ 6
  | 0 => by simp [frs]
  | i + 1 => by unfold frs; split; exact insL_le _ _ _; exact frs_le K T i
theorem frs_mem {K T : Nat → Int32} : ∀ {i y : Nat}, y ∈ frs K T i → y < i ∧ esel K T y = true
  | 0, y, h => by simp [frs] at h
  | i + 1, y, h => by
    unfold frs at h
    by_cases hc : esel K T i = true
    · rw [if_pos hc] at h
      rcases insL_mem h with rfl | h
      · exact ⟨Nat.lt_succ_self _, hc⟩
      · obtain ⟨h1, h2⟩ := frs_mem h
        exact ⟨by omega, h2⟩
    · rw [if_neg hc] at h
      obtain ⟨h1, h2⟩ := frs_mem h
      exact ⟨by omega, h2⟩
set_option maxRecDepth 20000 in
set_option maxHeartbeats 4000000 in
theorem l_pickFreshest {ad : Nm → Nat} {g : Sg} {w m : Nat} {n : Nm} (hm : al g (30, w, m)) (hn : al g n) (h64 : is64 n) (hne : (31, w, m) ≠ n) (hne2 : (33, w, m) ≠ n) : ∀ (j i : Nat), 64 - i < j → i ≤ 64 → PP mX1_pickFreshest 4 [some (.ref (ad (30, w, m))), some (.ref (ad n)), some (.int (nI (frs (gA g (31, w, m)) (gA g (33, w, m)) i).length)), some (.int (nI i))] [] (Rel ad (sA g n (wl (gA g n) (frs (gA g (31, w, m)) (gA g (33, w, m)) i)))) (fun v G => ∃ g', Rel ad g' G ∧ Ri (fun v g' => v = nI (frs (gA g (31, w, m)) (gA g (33, w, m)) 64).length ∧ g' = sA g n (wl (gA g n) (frs (gA g (31, w, m)) (gA g (33, w, m)) 64))) v g') := by
  intro j
  induction j with
  | zero => intro i h; omega
  | succ j ih =>
    intro i hij hik
    refine pp_iload_n dX1_pickFreshest_4 rfl (q := 5) rfl ?_
    refine pp_bipush dX1_pickFreshest_5 cb_64 (q := 7) rfl ?_
    refine pp_icmp_ge (tgt := 44) dX1_pickFreshest_7 (by decide) (q := 10) rfl (fun c7 => ?_) (fun c7 => ?_)
    · have e : i = 64 := by have := leT c7 (by decide) (by omega); omega
      subst e
      refine pp_iload_n dX1_pickFreshest_44 rfl (q := 45) rfl ?_
      exact ri_ret dX1_pickFreshest_45 rfl rfl ⟨rfl, rfl⟩
    · have hlt := leF c7 (by decide) (by omega)
      have e31 : ∀ f, gA (sA g n f) (31, w, m) = gA g (31, w, m) := fun f => by rw [gA_sA, if_neg hne]
      have e33 : ∀ f, gA (sA g n f) (33, w, m) = gA g (33, w, m) := fun f => by rw [gA_sA, if_neg hne2]
      refine pp_aload_n dX1_pickFreshest_10 rfl isRf_r (q := 11) rfl ?_
      refine ps_get dX1_pickFreshest_11 fl_X1_19 hm rfl rfl (q := 14) rfl ?_
      refine pp_iload_n dX1_pickFreshest_14 rfl (q := 15) rfl ?_
      refine ps_iald dX1_pickFreshest_15 hm rfl rfl (by omega) (by decide) (q := 16) rfl ?_
      rw [e31]
      refine pp_if_eq (tgt := 38) dX1_pickFreshest_16 (by decide) (q := 19) rfl (fun c16 => ?_) (fun c16 => ?_)
      · have hsel : esel (gA g (31, w, m)) (gA g (33, w, m)) i = false := by unfold esel; simp [c16]
        refine pp_iinc dX1_pickFreshest_38 rfl (nI_1 _) (ls1_3 (nl1 rfl)) (q := 41) rfl ?_
        refine pp_goto (tgt := 4) dX1_pickFreshest_41 (by decide) ?_
        have hh := ih (i + 1) (by omega) (by omega)
        simp only [frs, hsel, if_true, if_false, Bool.false_eq_true] at hh
        exact hh
      · refine pp_aload_n dX1_pickFreshest_19 rfl isRf_r (q := 20) rfl ?_
        refine ps_get dX1_pickFreshest_20 fl_X1_26 hm rfl rfl (q := 23) rfl ?_
        refine pp_iload_n dX1_pickFreshest_23 rfl (q := 24) rfl ?_
        refine ps_iald dX1_pickFreshest_24 hm rfl rfl (by omega) (by decide) (q := 25) rfl ?_
        rw [e33]
        refine pp_bipush dX1_pickFreshest_25 cb_8 (q := 27) rfl ?_
        refine pp_icmp_ge (tgt := 38) dX1_pickFreshest_27 (by decide) (q := 30) rfl (fun c27 => ?_) (fun c27 => ?_)
        · have hsel : esel (gA g (31, w, m)) (gA g (33, w, m)) i = false := by unfold esel; simp [Int32.not_lt.mpr c27]
          refine pp_iinc dX1_pickFreshest_38 rfl (nI_1 _) (ls1_3 (nl1 rfl)) (q := 41) rfl ?_
          refine pp_goto (tgt := 4) dX1_pickFreshest_41 (by decide) ?_
          have hh := ih (i + 1) (by omega) (by omega)
          simp only [frs, hsel, if_true, if_false, Bool.false_eq_true] at hh
          exact hh
        · have hsel : esel (gA g (31, w, m)) (gA g (33, w, m)) i = true := by unfold esel; simp [c16, Int32.not_le.mp c27]
          refine pp_aload_n dX1_pickFreshest_30 rfl isRf_r (q := 31) rfl ?_
          refine pp_aload_n dX1_pickFreshest_31 rfl isRf_r (q := 32) rfl ?_
          refine pp_iload_n dX1_pickFreshest_32 rfl (q := 33) rfl ?_
          refine pp_iload_n dX1_pickFreshest_33 rfl (q := 34) rfl ?_
          refine ps_callVi dX1_pickFreshest_34 lk_X1_131 hm rfl rfl (by rfl) (c_pickInOrder (f := gA g n) (l := (frs (gA g (31, w, m)) (gA g (33, w, m)) i)) hm hn h64 (by rw [gA_sA, if_pos rfl]) (frs_le _ _ i) (fun y hy => by have := (frs_mem hy).1; omega) hlt) (by rfl) (by exact Nat.le_of_ble_eq_true rfl) (by decide) (by decide) (by exact Nat.le_of_ble_eq_true rfl) (q := 37) rfl (fun r34 g34 h34 => ?_)
          rw [e33, sA_sA] at h34
          obtain ⟨rfl, rfl⟩ := And.intro h34.1.symm h34.2.symm
          refine pp_istore_n dX1_pickFreshest_37 (by decide) (ls1_2 (nl1 rfl)) (q := 38) rfl ?_
          refine pp_iinc dX1_pickFreshest_38 rfl (nI_1 _) (ls1_3 (nl1 rfl)) (q := 41) rfl ?_
          refine pp_goto (tgt := 4) dX1_pickFreshest_41 (by decide) ?_
          have hh := ih (i + 1) (by omega) (by omega)
          simp only [frs, hsel, if_true, if_false, Bool.false_eq_true] at hh
          exact hh
set_option maxRecDepth 20000 in
set_option maxHeartbeats 4000000 in
theorem c_pickFreshest {ad : Nm → Nat} {g : Sg} {w m : Nat} {n : Nm} (hm : al g (30, w, m)) (hn : al g n) (h64 : is64 n) (hne : (31, w, m) ≠ n) (hne2 : (33, w, m) ≠ n) : PS mX1_pickFreshest 0 (ent mX1_pickFreshest [.ref (ad (30, w, m)), .ref (ad n)]) [] ad g (Ri (fun v g' => v = nI (frs (gA g (31, w, m)) (gA g (33, w, m)) 64).length ∧ g' = sA g n (wl (gA g n) (frs (gA g (31, w, m)) (gA g (33, w, m)) 64)))) := by
  show PP mX1_pickFreshest 0 [some (.ref (ad (30, w, m))), some (.ref (ad n)), none, none] [] (Rel ad g) _
  refine pp_iconst dX1_pickFreshest_0 ci_0 (q := 1) rfl ?_
  refine pp_istore_n dX1_pickFreshest_1 (by decide) (ls1_2 (nl1 rfl)) (q := 2) rfl ?_
  refine pp_iconst dX1_pickFreshest_2 ci_0 (q := 3) rfl ?_
  refine pp_istore_n dX1_pickFreshest_3 (by decide) (ls1_3 (nl1 rfl)) (q := 4) rfl ?_
  have hg : g = sA g n (wl (gA g n) (frs (gA g (31, w, m)) (gA g (33, w, m)) 0)) := by show g = sA g n (wl (gA g n) []); rw [wl_nil, sA_id]
  refine PP.pre (I := Rel ad (sA g n (wl (gA g n) (frs (gA g (31, w, m)) (gA g (33, w, m)) 0)))) ?_ (fun G hG => by rw [← hg]; exact hG)
  exact l_pickFreshest hm hn h64 hne hne2 65 0 (by decide) (by decide)
