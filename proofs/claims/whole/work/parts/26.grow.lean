/-- the store, and beside it a new array of k ints without a name -/
def RelN (ad : Nm → Nat) (g : Sg) (k : Nat) (f : Nat → Int32) (G : PH) : Prop := G.1 = gZ g + 1 ∧ G.2.1 = gU g + k ∧ G.2.2 (gZ g) = some (.inl (0, k, .inl f)) ∧ (∀ n, al g n → G.2.2 (ad n) = some (cell ad g n) ∧ ad n < gZ g) ∧ ∀ n n', al g n → al g n' → ad n = ad n' → n = n'
theorem RelN.mk {ad : Nm → Nat} {g : Sg} {G : PH} {k : Nat} {f : Nat → Int32} (h : Rel ad g G) : RelN ad g k f (phNew G k (.inl (0, k, .inl f))) := by
  obtain ⟨h1, h2, h3, h4⟩ := h
  refine ⟨by show G.1 + 1 = _; rw [h1], by show G.2.1 + k = _; rw [h2], by show (if gZ g = G.1 then _ else _) = _; rw [if_pos h1.symm], fun n hn => ?_, h4⟩
  obtain ⟨a, b⟩ := h3 n hn
  refine ⟨?_, b⟩
  show (if ad n = G.1 then _ else _) = _
  rw [if_neg (by rw [h1]; omega)]
  exact a
theorem RelN.up {ad : Nm → Nat} {g : Sg} {G : PH} {k : Nat} {f f' : Nat → Int32} (h : RelN ad g k f G) : RelN ad g k f' (phUp G (gZ g) (.inl (0, k, .inl f'))) := by
  obtain ⟨h1, h2, h3, h4, h5⟩ := h
  refine ⟨h1, h2, by show (if gZ g = gZ g then _ else _) = _; rw [if_pos rfl], fun n hn => ?_, h5⟩
  obtain ⟨a, b⟩ := h4 n hn
  refine ⟨?_, b⟩
  show (if ad n = gZ g then _ else _) = _
  rw [if_neg (by omega)]
  exact a
set_option maxHeartbeats 4000000 in
theorem c_copyOf {ad : Nm → Nat} {g : Sg} {n : Nm} {len k : Nat} (hn : al g n) (hc : cell ad g n = .inl (0, len, .inl (gA g n))) (hlt : len < k) (hk : k ≤ 1000000) : PP mJ7_copyOf_59c91 0 (ent mJ7_copyOf_59c91 [.ref (ad n), .int (nI k)]) [] (Rel ad g) (fun v G => v = some (.ref (gZ g)) ∧ RelN ad g k (va_cpy (gA g n) (fun _ => 0) 0 0 len) G) := by
  show PP mJ7_copyOf_59c91 0 [some (.ref (ad n)), some (.int (nI k)), none] [] (Rel ad g) _
  refine pp_iload_n dJ7_copyOf_59c91_0 rfl (q := 1) rfl ?_
  refine pp_aload_n dJ7_copyOf_59c91_1 rfl isRf_r (q := 2) rfl ?_
  refine ps_alen dJ7_copyOf_59c91_2 hn hc (by decide) (q := 3) rfl ?_
  refine pp_icmp_ne (tgt := 14) dJ7_copyOf_59c91_3 (by decide) (q := 6) rfl (fun _ => ?_) (fun c => absurd (eqT c (by omega) (by omega)) (by omega))
  refine pp_iload_n dJ7_copyOf_59c91_14 rfl (q := 15) rfl ?_
  refine pp_newi (a := gZ g) (n := k) (I' := RelN ad g k (fun _ => 0)) dJ7_copyOf_59c91_15 (nI_pos (by omega)) (nI_clamp (by omega)) hk (fun G hG => hG.1) (fun G hG => RelN.mk hG) (q := 17) rfl ?_
  refine pp_astore_n dJ7_copyOf_59c91_17 isRf_r (by decide) (ls1_2 (nl1 rfl)) (q := 18) rfl ?_
  refine pp_aload_n dJ7_copyOf_59c91_18 rfl isRf_r (q := 19) rfl ?_
  refine pp_iconst dJ7_copyOf_59c91_19 ci_0 (q := 20) rfl ?_
  refine pp_aload_n dJ7_copyOf_59c91_20 rfl isRf_r (q := 21) rfl ?_
  refine pp_iconst dJ7_copyOf_59c91_21 ci_0 (q := 22) rfl ?_
  refine pp_aload_n dJ7_copyOf_59c91_22 rfl isRf_r (q := 23) rfl ?_
  refine pp_alen (t := 0) (x := (len, .inl (gA g n))) (v := nI len) dJ7_copyOf_59c91_23 (fun G hG => by rw [(hG.2.2.2.1 n hn).1, hc]) (by decide) rfl (q := 24) rfl ?_
  refine pp_iload_n dJ7_copyOf_59c91_24 rfl (q := 25) rfl ?_
  refine pp_mmin dJ7_copyOf_59c91_25 lm_J7_304 (by decide) (by exact Nat.le_of_ble_eq_true rfl) (q := 28) rfl ?_
  rw [if_neg (nI_nlt (by omega) (by omega))]
  have el : (nI len).toNatClampNeg = len := nI_clamp (by omega)
  have e0 : (nI 0).toNatClampNeg = 0 := by decide
  refine pp_copyi (f := gA g n) (g := fun _ => 0) (n1 := len) (n2 := k) (I' := RelN ad g k (va_cpy (gA g n) (fun _ => 0) 0 0 len)) dJ7_copyOf_59c91_28 lc_J7_150 (fun G hG => by rw [(hG.2.2.2.1 n hn).1, hc]) (fun G hG => hG.2.2.1) (by decide) (by decide) (nI_pos (by omega)) (by rw [e0, el]; omega) (by rw [e0, el]; omega) (by decide) (by exact Nat.le_of_ble_eq_true rfl) (fun G hG => by rw [e0, el]; exact hG.up) (q := 31) rfl ?_
  refine pp_aload_n dJ7_copyOf_59c91_31 rfl isRf_r (q := 32) rfl ?_
  exact pp_aret dJ7_copyOf_59c91_32 rfl (Or.inr ⟨_, rfl⟩) isRf_r (fun G hG => ⟨rfl, hG⟩)
set_option maxHeartbeats 4000000 in
theorem cellOf_ad {ad : Nm → Nat} {F : Nm → Bool} {n : Nm} {w0 r0 : Nat} {I : Nat → Int32} {J : Int64} {A : Nat → Int32} {B : Nat → Int64} {N a : Nat} (hne : n ≠ (20, w0, r0)) : cellOf (up3 ad (21, w0, r0) a) F n I J A B N = cellOf ad F n I J A B N := by
  have e1 : ∀ w m, up3 ad (21, w0, r0) a (1, w, m) = ad (1, w, m) := fun w m => up3_ne (fun h => by cases h)
  have e2 : ∀ w m, up3 ad (21, w0, r0) a (2, w, m) = ad (2, w, m) := fun w m => up3_ne (fun h => by cases h)
  have e3 : ∀ w m, up3 ad (21, w0, r0) a (3, w, m) = ad (3, w, m) := fun w m => up3_ne (fun h => by cases h)
  have e4 : ∀ w m, up3 ad (21, w0, r0) a (4, w, m) = ad (4, w, m) := fun w m => up3_ne (fun h => by cases h)
  have e5 : ∀ w m, up3 ad (21, w0, r0) a (5, w, m) = ad (5, w, m) := fun w m => up3_ne (fun h => by cases h)
  have e6 : ∀ w m, up3 ad (21, w0, r0) a (6, w, m) = ad (6, w, m) := fun w m => up3_ne (fun h => by cases h)
  have e10 : ∀ w m, up3 ad (21, w0, r0) a (10, w, m) = ad (10, w, m) := fun w m => up3_ne (fun h => by cases h)
  have e11 : ∀ w m, up3 ad (21, w0, r0) a (11, w, m) = ad (11, w, m) := fun w m => up3_ne (fun h => by cases h)
  have e12 : ∀ w m, up3 ad (21, w0, r0) a (12, w, m) = ad (12, w, m) := fun w m => up3_ne (fun h => by cases h)
  have e13 : ∀ w m, up3 ad (21, w0, r0) a (13, w, m) = ad (13, w, m) := fun w m => up3_ne (fun h => by cases h)
  have e14 : ∀ w m, up3 ad (21, w0, r0) a (14, w, m) = ad (14, w, m) := fun w m => up3_ne (fun h => by cases h)
  have e15 : ∀ w m, up3 ad (21, w0, r0) a (15, w, m) = ad (15, w, m) := fun w m => up3_ne (fun h => by cases h)
  have e16 : ∀ w m, up3 ad (21, w0, r0) a (16, w, m) = ad (16, w, m) := fun w m => up3_ne (fun h => by cases h)
  have e20 : ∀ w m, up3 ad (21, w0, r0) a (20, w, m) = ad (20, w, m) := fun w m => up3_ne (fun h => by cases h)
  have e30 : ∀ w m, up3 ad (21, w0, r0) a (30, w, m) = ad (30, w, m) := fun w m => up3_ne (fun h => by cases h)
  have e31 : ∀ w m, up3 ad (21, w0, r0) a (31, w, m) = ad (31, w, m) := fun w m => up3_ne (fun h => by cases h)
  have e32 : ∀ w m, up3 ad (21, w0, r0) a (32, w, m) = ad (32, w, m) := fun w m => up3_ne (fun h => by cases h)
  have e33 : ∀ w m, up3 ad (21, w0, r0) a (33, w, m) = ad (33, w, m) := fun w m => up3_ne (fun h => by cases h)
  have e34 : ∀ w m, up3 ad (21, w0, r0) a (34, w, m) = ad (34, w, m) := fun w m => up3_ne (fun h => by cases h)
  have e35 : ∀ w m, up3 ad (21, w0, r0) a (35, w, m) = ad (35, w, m) := fun w m => up3_ne (fun h => by cases h)
  have e36 : ∀ w m, up3 ad (21, w0, r0) a (36, w, m) = ad (36, w, m) := fun w m => up3_ne (fun h => by cases h)
  have e41 : ∀ w m, up3 ad (21, w0, r0) a (41, w, m) = ad (41, w, m) := fun w m => up3_ne (fun h => by cases h)
  have e42 : ∀ w m, up3 ad (21, w0, r0) a (42, w, m) = ad (42, w, m) := fun w m => up3_ne (fun h => by cases h)
  have e43 : ∀ w m, up3 ad (21, w0, r0) a (43, w, m) = ad (43, w, m) := fun w m => up3_ne (fun h => by cases h)
  have e44 : ∀ w m, up3 ad (21, w0, r0) a (44, w, m) = ad (44, w, m) := fun w m => up3_ne (fun h => by cases h)
  have e45 : ∀ w m, up3 ad (21, w0, r0) a (45, w, m) = ad (45, w, m) := fun w m => up3_ne (fun h => by cases h)
  have e46 : ∀ w m, up3 ad (21, w0, r0) a (46, w, m) = ad (46, w, m) := fun w m => up3_ne (fun h => by cases h)
  have e47 : ∀ w m, up3 ad (21, w0, r0) a (47, w, m) = ad (47, w, m) := fun w m => up3_ne (fun h => by cases h)
  have e48 : ∀ w m, up3 ad (21, w0, r0) a (48, w, m) = ad (48, w, m) := fun w m => up3_ne (fun h => by cases h)
  have e49 : ∀ w m, up3 ad (21, w0, r0) a (49, w, m) = ad (49, w, m) := fun w m => up3_ne (fun h => by cases h)
  obtain ⟨k, w, m⟩ := n
  by_cases h : k ≤ 50
  · have hk : k = 0 ∨ k = 1 ∨ k = 2 ∨ k = 3 ∨ k = 4 ∨ k = 5 ∨ k = 6 ∨ k = 7 ∨ k = 8 ∨ k = 9 ∨ k = 10 ∨ k = 11 ∨ k = 12 ∨ k = 13 ∨ k = 14 ∨ k = 15 ∨ k = 16 ∨ k = 17 ∨ k = 18 ∨ k = 19 ∨ k = 20 ∨ k = 21 ∨ k = 22 ∨ k = 23 ∨ k = 24 ∨ k = 25 ∨ k = 26 ∨ k = 27 ∨ k = 28 ∨ k = 29 ∨ k = 30 ∨ k = 31 ∨ k = 32 ∨ k = 33 ∨ k = 34 ∨ k = 35 ∨ k = 36 ∨ k = 37 ∨ k = 38 ∨ k = 39 ∨ k = 40 ∨ k = 41 ∨ k = 42 ∨ k = 43 ∨ k = 44 ∨ k = 45 ∨ k = 46 ∨ k = 47 ∨ k = 48 ∨ k = 49 ∨ k = 50 := by omega
    rcases hk with rfl | rfl | rfl | rfl | rfl | rfl | rfl | rfl | rfl | rfl | rfl | rfl | rfl | rfl | rfl | rfl | rfl | rfl | rfl | rfl | rfl | rfl | rfl | rfl | rfl | rfl | rfl | rfl | rfl | rfl | rfl | rfl | rfl | rfl | rfl | rfl | rfl | rfl | rfl | rfl | rfl | rfl | rfl | rfl | rfl | rfl | rfl | rfl | rfl | rfl | rfl
    · first | rfl | simp only [cellOf, e1, e2, e3, e4, e5, e6, e10, e11, e12, e13, e14, e15, e16, e20, e30, e31, e32, e33, e34, e35, e36, e41, e42, e43, e44, e45, e46, e47, e48, e49]
    · first | rfl | simp only [cellOf, e1, e2, e3, e4, e5, e6, e10, e11, e12, e13, e14, e15, e16, e20, e30, e31, e32, e33, e34, e35, e36, e41, e42, e43, e44, e45, e46, e47, e48, e49]
    · first | rfl | simp only [cellOf, e1, e2, e3, e4, e5, e6, e10, e11, e12, e13, e14, e15, e16, e20, e30, e31, e32, e33, e34, e35, e36, e41, e42, e43, e44, e45, e46, e47, e48, e49]
    · first | rfl | simp only [cellOf, e1, e2, e3, e4, e5, e6, e10, e11, e12, e13, e14, e15, e16, e20, e30, e31, e32, e33, e34, e35, e36, e41, e42, e43, e44, e45, e46, e47, e48, e49]
    · first | rfl | simp only [cellOf, e1, e2, e3, e4, e5, e6, e10, e11, e12, e13, e14, e15, e16, e20, e30, e31, e32, e33, e34, e35, e36, e41, e42, e43, e44, e45, e46, e47, e48, e49]
    · first | rfl | simp only [cellOf, e1, e2, e3, e4, e5, e6, e10, e11, e12, e13, e14, e15, e16, e20, e30, e31, e32, e33, e34, e35, e36, e41, e42, e43, e44, e45, e46, e47, e48, e49]
    · first | rfl | simp only [cellOf, e1, e2, e3, e4, e5, e6, e10, e11, e12, e13, e14, e15, e16, e20, e30, e31, e32, e33, e34, e35, e36, e41, e42, e43, e44, e45, e46, e47, e48, e49]
    · first | rfl | simp only [cellOf, e1, e2, e3, e4, e5, e6, e10, e11, e12, e13, e14, e15, e16, e20, e30, e31, e32, e33, e34, e35, e36, e41, e42, e43, e44, e45, e46, e47, e48, e49]
    · first | rfl | simp only [cellOf, e1, e2, e3, e4, e5, e6, e10, e11, e12, e13, e14, e15, e16, e20, e30, e31, e32, e33, e34, e35, e36, e41, e42, e43, e44, e45, e46, e47, e48, e49]
    · first | rfl | simp only [cellOf, e1, e2, e3, e4, e5, e6, e10, e11, e12, e13, e14, e15, e16, e20, e30, e31, e32, e33, e34, e35, e36, e41, e42, e43, e44, e45, e46, e47, e48, e49]
    · first | rfl | simp only [cellOf, e1, e2, e3, e4, e5, e6, e10, e11, e12, e13, e14, e15, e16, e20, e30, e31, e32, e33, e34, e35, e36, e41, e42, e43, e44, e45, e46, e47, e48, e49]
    · first | rfl | simp only [cellOf, e1, e2, e3, e4, e5, e6, e10, e11, e12, e13, e14, e15, e16, e20, e30, e31, e32, e33, e34, e35, e36, e41, e42, e43, e44, e45, e46, e47, e48, e49]
    · first | rfl | simp only [cellOf, e1, e2, e3, e4, e5, e6, e10, e11, e12, e13, e14, e15, e16, e20, e30, e31, e32, e33, e34, e35, e36, e41, e42, e43, e44, e45, e46, e47, e48, e49]
    · first | rfl | simp only [cellOf, e1, e2, e3, e4, e5, e6, e10, e11, e12, e13, e14, e15, e16, e20, e30, e31, e32, e33, e34, e35, e36, e41, e42, e43, e44, e45, e46, e47, e48, e49]
    · first | rfl | simp only [cellOf, e1, e2, e3, e4, e5, e6, e10, e11, e12, e13, e14, e15, e16, e20, e30, e31, e32, e33, e34, e35, e36, e41, e42, e43, e44, e45, e46, e47, e48, e49]
    · first | rfl | simp only [cellOf, e1, e2, e3, e4, e5, e6, e10, e11, e12, e13, e14, e15, e16, e20, e30, e31, e32, e33, e34, e35, e36, e41, e42, e43, e44, e45, e46, e47, e48, e49]
    · first | rfl | simp only [cellOf, e1, e2, e3, e4, e5, e6, e10, e11, e12, e13, e14, e15, e16, e20, e30, e31, e32, e33, e34, e35, e36, e41, e42, e43, e44, e45, e46, e47, e48, e49]
    · first | rfl | simp only [cellOf, e1, e2, e3, e4, e5, e6, e10, e11, e12, e13, e14, e15, e16, e20, e30, e31, e32, e33, e34, e35, e36, e41, e42, e43, e44, e45, e46, e47, e48, e49]
    · first | rfl | simp only [cellOf, e1, e2, e3, e4, e5, e6, e10, e11, e12, e13, e14, e15, e16, e20, e30, e31, e32, e33, e34, e35, e36, e41, e42, e43, e44, e45, e46, e47, e48, e49]
    · first | rfl | simp only [cellOf, e1, e2, e3, e4, e5, e6, e10, e11, e12, e13, e14, e15, e16, e20, e30, e31, e32, e33, e34, e35, e36, e41, e42, e43, e44, e45, e46, e47, e48, e49]
    · have e : up3 ad (21, w0, r0) a (21, w, m) = ad (21, w, m) := up3_ne (fun h => hne (by cases h; rfl))
      simp only [cellOf, e]
    · first | rfl | simp only [cellOf, e1, e2, e3, e4, e5, e6, e10, e11, e12, e13, e14, e15, e16, e20, e30, e31, e32, e33, e34, e35, e36, e41, e42, e43, e44, e45, e46, e47, e48, e49]
    · first | rfl | simp only [cellOf, e1, e2, e3, e4, e5, e6, e10, e11, e12, e13, e14, e15, e16, e20, e30, e31, e32, e33, e34, e35, e36, e41, e42, e43, e44, e45, e46, e47, e48, e49]
    · first | rfl | simp only [cellOf, e1, e2, e3, e4, e5, e6, e10, e11, e12, e13, e14, e15, e16, e20, e30, e31, e32, e33, e34, e35, e36, e41, e42, e43, e44, e45, e46, e47, e48, e49]
    · first | rfl | simp only [cellOf, e1, e2, e3, e4, e5, e6, e10, e11, e12, e13, e14, e15, e16, e20, e30, e31, e32, e33, e34, e35, e36, e41, e42, e43, e44, e45, e46, e47, e48, e49]
    · first | rfl | simp only [cellOf, e1, e2, e3, e4, e5, e6, e10, e11, e12, e13, e14, e15, e16, e20, e30, e31, e32, e33, e34, e35, e36, e41, e42, e43, e44, e45, e46, e47, e48, e49]
    · first | rfl | simp only [cellOf, e1, e2, e3, e4, e5, e6, e10, e11, e12, e13, e14, e15, e16, e20, e30, e31, e32, e33, e34, e35, e36, e41, e42, e43, e44, e45, e46, e47, e48, e49]
    · first | rfl | simp only [cellOf, e1, e2, e3, e4, e5, e6, e10, e11, e12, e13, e14, e15, e16, e20, e30, e31, e32, e33, e34, e35, e36, e41, e42, e43, e44, e45, e46, e47, e48, e49]
    · first | rfl | simp only [cellOf, e1, e2, e3, e4, e5, e6, e10, e11, e12, e13, e14, e15, e16, e20, e30, e31, e32, e33, e34, e35, e36, e41, e42, e43, e44, e45, e46, e47, e48, e49]
    · first | rfl | simp only [cellOf, e1, e2, e3, e4, e5, e6, e10, e11, e12, e13, e14, e15, e16, e20, e30, e31, e32, e33, e34, e35, e36, e41, e42, e43, e44, e45, e46, e47, e48, e49]
    · first | rfl | simp only [cellOf, e1, e2, e3, e4, e5, e6, e10, e11, e12, e13, e14, e15, e16, e20, e30, e31, e32, e33, e34, e35, e36, e41, e42, e43, e44, e45, e46, e47, e48, e49]
    · first | rfl | simp only [cellOf, e1, e2, e3, e4, e5, e6, e10, e11, e12, e13, e14, e15, e16, e20, e30, e31, e32, e33, e34, e35, e36, e41, e42, e43, e44, e45, e46, e47, e48, e49]
    · first | rfl | simp only [cellOf, e1, e2, e3, e4, e5, e6, e10, e11, e12, e13, e14, e15, e16, e20, e30, e31, e32, e33, e34, e35, e36, e41, e42, e43, e44, e45, e46, e47, e48, e49]
    · first | rfl | simp only [cellOf, e1, e2, e3, e4, e5, e6, e10, e11, e12, e13, e14, e15, e16, e20, e30, e31, e32, e33, e34, e35, e36, e41, e42, e43, e44, e45, e46, e47, e48, e49]
    · first | rfl | simp only [cellOf, e1, e2, e3, e4, e5, e6, e10, e11, e12, e13, e14, e15, e16, e20, e30, e31, e32, e33, e34, e35, e36, e41, e42, e43, e44, e45, e46, e47, e48, e49]
    · first | rfl | simp only [cellOf, e1, e2, e3, e4, e5, e6, e10, e11, e12, e13, e14, e15, e16, e20, e30, e31, e32, e33, e34, e35, e36, e41, e42, e43, e44, e45, e46, e47, e48, e49]
    · first | rfl | simp only [cellOf, e1, e2, e3, e4, e5, e6, e10, e11, e12, e13, e14, e15, e16, e20, e30, e31, e32, e33, e34, e35, e36, e41, e42, e43, e44, e45, e46, e47, e48, e49]
    · first | rfl | simp only [cellOf, e1, e2, e3, e4, e5, e6, e10, e11, e12, e13, e14, e15, e16, e20, e30, e31, e32, e33, e34, e35, e36, e41, e42, e43, e44, e45, e46, e47, e48, e49]
    · first | rfl | simp only [cellOf, e1, e2, e3, e4, e5, e6, e10, e11, e12, e13, e14, e15, e16, e20, e30, e31, e32, e33, e34, e35, e36, e41, e42, e43, e44, e45, e46, e47, e48, e49]
    · first | rfl | simp only [cellOf, e1, e2, e3, e4, e5, e6, e10, e11, e12, e13, e14, e15, e16, e20, e30, e31, e32, e33, e34, e35, e36, e41, e42, e43, e44, e45, e46, e47, e48, e49]
    · first | rfl | simp only [cellOf, e1, e2, e3, e4, e5, e6, e10, e11, e12, e13, e14, e15, e16, e20, e30, e31, e32, e33, e34, e35, e36, e41, e42, e43, e44, e45, e46, e47, e48, e49]
    · first | rfl | simp only [cellOf, e1, e2, e3, e4, e5, e6, e10, e11, e12, e13, e14, e15, e16, e20, e30, e31, e32, e33, e34, e35, e36, e41, e42, e43, e44, e45, e46, e47, e48, e49]
    · first | rfl | simp only [cellOf, e1, e2, e3, e4, e5, e6, e10, e11, e12, e13, e14, e15, e16, e20, e30, e31, e32, e33, e34, e35, e36, e41, e42, e43, e44, e45, e46, e47, e48, e49]
    · first | rfl | simp only [cellOf, e1, e2, e3, e4, e5, e6, e10, e11, e12, e13, e14, e15, e16, e20, e30, e31, e32, e33, e34, e35, e36, e41, e42, e43, e44, e45, e46, e47, e48, e49]
    · first | rfl | simp only [cellOf, e1, e2, e3, e4, e5, e6, e10, e11, e12, e13, e14, e15, e16, e20, e30, e31, e32, e33, e34, e35, e36, e41, e42, e43, e44, e45, e46, e47, e48, e49]
    · first | rfl | simp only [cellOf, e1, e2, e3, e4, e5, e6, e10, e11, e12, e13, e14, e15, e16, e20, e30, e31, e32, e33, e34, e35, e36, e41, e42, e43, e44, e45, e46, e47, e48, e49]
    · first | rfl | simp only [cellOf, e1, e2, e3, e4, e5, e6, e10, e11, e12, e13, e14, e15, e16, e20, e30, e31, e32, e33, e34, e35, e36, e41, e42, e43, e44, e45, e46, e47, e48, e49]
    · first | rfl | simp only [cellOf, e1, e2, e3, e4, e5, e6, e10, e11, e12, e13, e14, e15, e16, e20, e30, e31, e32, e33, e34, e35, e36, e41, e42, e43, e44, e45, e46, e47, e48, e49]
    · first | rfl | simp only [cellOf, e1, e2, e3, e4, e5, e6, e10, e11, e12, e13, e14, e15, e16, e20, e30, e31, e32, e33, e34, e35, e36, e41, e42, e43, e44, e45, e46, e47, e48, e49]
    · first | rfl | simp only [cellOf, e1, e2, e3, e4, e5, e6, e10, e11, e12, e13, e14, e15, e16, e20, e30, e31, e32, e33, e34, e35, e36, e41, e42, e43, e44, e45, e46, e47, e48, e49]
    · first | rfl | simp only [cellOf, e1, e2, e3, e4, e5, e6, e10, e11, e12, e13, e14, e15, e16, e20, e30, e31, e32, e33, e34, e35, e36, e41, e42, e43, e44, e45, e46, e47, e48, e49]
  · unfold cellOf
    split <;> first | rfl | (rename_i he; cases he; omega)
set_option maxHeartbeats 4000000 in
theorem cellOf_ad4 {ad : Nm → Nat} {F : Nm → Bool} {n : Nm} {w0 r0 : Nat} {I : Nat → Int32} {J : Int64} {A : Nat → Int32} {B : Nat → Int64} {N a : Nat} (hne : n.1 ≠ 3) : cellOf (up3 ad (4, 0, 0) a) F n I J A B N = cellOf ad F n I J A B N := by
  have e1 : ∀ w m, up3 ad (4, 0, 0) a (1, w, m) = ad (1, w, m) := fun w m => up3_ne (fun h => by cases h)
  have e2 : ∀ w m, up3 ad (4, 0, 0) a (2, w, m) = ad (2, w, m) := fun w m => up3_ne (fun h => by cases h)
  have e3 : ∀ w m, up3 ad (4, 0, 0) a (3, w, m) = ad (3, w, m) := fun w m => up3_ne (fun h => by cases h)
  have e5 : ∀ w m, up3 ad (4, 0, 0) a (5, w, m) = ad (5, w, m) := fun w m => up3_ne (fun h => by cases h)
  have e6 : ∀ w m, up3 ad (4, 0, 0) a (6, w, m) = ad (6, w, m) := fun w m => up3_ne (fun h => by cases h)
  have e10 : ∀ w m, up3 ad (4, 0, 0) a (10, w, m) = ad (10, w, m) := fun w m => up3_ne (fun h => by cases h)
  have e11 : ∀ w m, up3 ad (4, 0, 0) a (11, w, m) = ad (11, w, m) := fun w m => up3_ne (fun h => by cases h)
  have e12 : ∀ w m, up3 ad (4, 0, 0) a (12, w, m) = ad (12, w, m) := fun w m => up3_ne (fun h => by cases h)
  have e13 : ∀ w m, up3 ad (4, 0, 0) a (13, w, m) = ad (13, w, m) := fun w m => up3_ne (fun h => by cases h)
  have e14 : ∀ w m, up3 ad (4, 0, 0) a (14, w, m) = ad (14, w, m) := fun w m => up3_ne (fun h => by cases h)
  have e15 : ∀ w m, up3 ad (4, 0, 0) a (15, w, m) = ad (15, w, m) := fun w m => up3_ne (fun h => by cases h)
  have e16 : ∀ w m, up3 ad (4, 0, 0) a (16, w, m) = ad (16, w, m) := fun w m => up3_ne (fun h => by cases h)
  have e20 : ∀ w m, up3 ad (4, 0, 0) a (20, w, m) = ad (20, w, m) := fun w m => up3_ne (fun h => by cases h)
  have e21 : ∀ w m, up3 ad (4, 0, 0) a (21, w, m) = ad (21, w, m) := fun w m => up3_ne (fun h => by cases h)
  have e30 : ∀ w m, up3 ad (4, 0, 0) a (30, w, m) = ad (30, w, m) := fun w m => up3_ne (fun h => by cases h)
  have e31 : ∀ w m, up3 ad (4, 0, 0) a (31, w, m) = ad (31, w, m) := fun w m => up3_ne (fun h => by cases h)
  have e32 : ∀ w m, up3 ad (4, 0, 0) a (32, w, m) = ad (32, w, m) := fun w m => up3_ne (fun h => by cases h)
  have e33 : ∀ w m, up3 ad (4, 0, 0) a (33, w, m) = ad (33, w, m) := fun w m => up3_ne (fun h => by cases h)
  have e34 : ∀ w m, up3 ad (4, 0, 0) a (34, w, m) = ad (34, w, m) := fun w m => up3_ne (fun h => by cases h)
  have e35 : ∀ w m, up3 ad (4, 0, 0) a (35, w, m) = ad (35, w, m) := fun w m => up3_ne (fun h => by cases h)
  have e36 : ∀ w m, up3 ad (4, 0, 0) a (36, w, m) = ad (36, w, m) := fun w m => up3_ne (fun h => by cases h)
  have e41 : ∀ w m, up3 ad (4, 0, 0) a (41, w, m) = ad (41, w, m) := fun w m => up3_ne (fun h => by cases h)
  have e42 : ∀ w m, up3 ad (4, 0, 0) a (42, w, m) = ad (42, w, m) := fun w m => up3_ne (fun h => by cases h)
  have e43 : ∀ w m, up3 ad (4, 0, 0) a (43, w, m) = ad (43, w, m) := fun w m => up3_ne (fun h => by cases h)
  have e44 : ∀ w m, up3 ad (4, 0, 0) a (44, w, m) = ad (44, w, m) := fun w m => up3_ne (fun h => by cases h)
  have e45 : ∀ w m, up3 ad (4, 0, 0) a (45, w, m) = ad (45, w, m) := fun w m => up3_ne (fun h => by cases h)
  have e46 : ∀ w m, up3 ad (4, 0, 0) a (46, w, m) = ad (46, w, m) := fun w m => up3_ne (fun h => by cases h)
  have e47 : ∀ w m, up3 ad (4, 0, 0) a (47, w, m) = ad (47, w, m) := fun w m => up3_ne (fun h => by cases h)
  have e48 : ∀ w m, up3 ad (4, 0, 0) a (48, w, m) = ad (48, w, m) := fun w m => up3_ne (fun h => by cases h)
  have e49 : ∀ w m, up3 ad (4, 0, 0) a (49, w, m) = ad (49, w, m) := fun w m => up3_ne (fun h => by cases h)
  obtain ⟨k, w, m⟩ := n
  by_cases h : k ≤ 50
  · have hk : k = 0 ∨ k = 1 ∨ k = 2 ∨ k = 3 ∨ k = 4 ∨ k = 5 ∨ k = 6 ∨ k = 7 ∨ k = 8 ∨ k = 9 ∨ k = 10 ∨ k = 11 ∨ k = 12 ∨ k = 13 ∨ k = 14 ∨ k = 15 ∨ k = 16 ∨ k = 17 ∨ k = 18 ∨ k = 19 ∨ k = 20 ∨ k = 21 ∨ k = 22 ∨ k = 23 ∨ k = 24 ∨ k = 25 ∨ k = 26 ∨ k = 27 ∨ k = 28 ∨ k = 29 ∨ k = 30 ∨ k = 31 ∨ k = 32 ∨ k = 33 ∨ k = 34 ∨ k = 35 ∨ k = 36 ∨ k = 37 ∨ k = 38 ∨ k = 39 ∨ k = 40 ∨ k = 41 ∨ k = 42 ∨ k = 43 ∨ k = 44 ∨ k = 45 ∨ k = 46 ∨ k = 47 ∨ k = 48 ∨ k = 49 ∨ k = 50 := by omega
    rcases hk with rfl | rfl | rfl | rfl | rfl | rfl | rfl | rfl | rfl | rfl | rfl | rfl | rfl | rfl | rfl | rfl | rfl | rfl | rfl | rfl | rfl | rfl | rfl | rfl | rfl | rfl | rfl | rfl | rfl | rfl | rfl | rfl | rfl | rfl | rfl | rfl | rfl | rfl | rfl | rfl | rfl | rfl | rfl | rfl | rfl | rfl | rfl | rfl | rfl | rfl | rfl
    · first | rfl | simp only [cellOf, e1, e2, e3, e5, e6, e10, e11, e12, e13, e14, e15, e16, e20, e21, e30, e31, e32, e33, e34, e35, e36, e41, e42, e43, e44, e45, e46, e47, e48, e49]
    · first | rfl | simp only [cellOf, e1, e2, e3, e5, e6, e10, e11, e12, e13, e14, e15, e16, e20, e21, e30, e31, e32, e33, e34, e35, e36, e41, e42, e43, e44, e45, e46, e47, e48, e49]
    · first | rfl | simp only [cellOf, e1, e2, e3, e5, e6, e10, e11, e12, e13, e14, e15, e16, e20, e21, e30, e31, e32, e33, e34, e35, e36, e41, e42, e43, e44, e45, e46, e47, e48, e49]
    · exact absurd rfl hne
    · first | rfl | simp only [cellOf, e1, e2, e3, e5, e6, e10, e11, e12, e13, e14, e15, e16, e20, e21, e30, e31, e32, e33, e34, e35, e36, e41, e42, e43, e44, e45, e46, e47, e48, e49]
    · first | rfl | simp only [cellOf, e1, e2, e3, e5, e6, e10, e11, e12, e13, e14, e15, e16, e20, e21, e30, e31, e32, e33, e34, e35, e36, e41, e42, e43, e44, e45, e46, e47, e48, e49]
    · first | rfl | simp only [cellOf, e1, e2, e3, e5, e6, e10, e11, e12, e13, e14, e15, e16, e20, e21, e30, e31, e32, e33, e34, e35, e36, e41, e42, e43, e44, e45, e46, e47, e48, e49]
    · first | rfl | simp only [cellOf, e1, e2, e3, e5, e6, e10, e11, e12, e13, e14, e15, e16, e20, e21, e30, e31, e32, e33, e34, e35, e36, e41, e42, e43, e44, e45, e46, e47, e48, e49]
    · first | rfl | simp only [cellOf, e1, e2, e3, e5, e6, e10, e11, e12, e13, e14, e15, e16, e20, e21, e30, e31, e32, e33, e34, e35, e36, e41, e42, e43, e44, e45, e46, e47, e48, e49]
    · first | rfl | simp only [cellOf, e1, e2, e3, e5, e6, e10, e11, e12, e13, e14, e15, e16, e20, e21, e30, e31, e32, e33, e34, e35, e36, e41, e42, e43, e44, e45, e46, e47, e48, e49]
    · first | rfl | simp only [cellOf, e1, e2, e3, e5, e6, e10, e11, e12, e13, e14, e15, e16, e20, e21, e30, e31, e32, e33, e34, e35, e36, e41, e42, e43, e44, e45, e46, e47, e48, e49]
    · first | rfl | simp only [cellOf, e1, e2, e3, e5, e6, e10, e11, e12, e13, e14, e15, e16, e20, e21, e30, e31, e32, e33, e34, e35, e36, e41, e42, e43, e44, e45, e46, e47, e48, e49]
    · first | rfl | simp only [cellOf, e1, e2, e3, e5, e6, e10, e11, e12, e13, e14, e15, e16, e20, e21, e30, e31, e32, e33, e34, e35, e36, e41, e42, e43, e44, e45, e46, e47, e48, e49]
    · first | rfl | simp only [cellOf, e1, e2, e3, e5, e6, e10, e11, e12, e13, e14, e15, e16, e20, e21, e30, e31, e32, e33, e34, e35, e36, e41, e42, e43, e44, e45, e46, e47, e48, e49]
    · first | rfl | simp only [cellOf, e1, e2, e3, e5, e6, e10, e11, e12, e13, e14, e15, e16, e20, e21, e30, e31, e32, e33, e34, e35, e36, e41, e42, e43, e44, e45, e46, e47, e48, e49]
    · first | rfl | simp only [cellOf, e1, e2, e3, e5, e6, e10, e11, e12, e13, e14, e15, e16, e20, e21, e30, e31, e32, e33, e34, e35, e36, e41, e42, e43, e44, e45, e46, e47, e48, e49]
    · first | rfl | simp only [cellOf, e1, e2, e3, e5, e6, e10, e11, e12, e13, e14, e15, e16, e20, e21, e30, e31, e32, e33, e34, e35, e36, e41, e42, e43, e44, e45, e46, e47, e48, e49]
    · first | rfl | simp only [cellOf, e1, e2, e3, e5, e6, e10, e11, e12, e13, e14, e15, e16, e20, e21, e30, e31, e32, e33, e34, e35, e36, e41, e42, e43, e44, e45, e46, e47, e48, e49]
    · first | rfl | simp only [cellOf, e1, e2, e3, e5, e6, e10, e11, e12, e13, e14, e15, e16, e20, e21, e30, e31, e32, e33, e34, e35, e36, e41, e42, e43, e44, e45, e46, e47, e48, e49]
    · first | rfl | simp only [cellOf, e1, e2, e3, e5, e6, e10, e11, e12, e13, e14, e15, e16, e20, e21, e30, e31, e32, e33, e34, e35, e36, e41, e42, e43, e44, e45, e46, e47, e48, e49]
    · first | rfl | simp only [cellOf, e1, e2, e3, e5, e6, e10, e11, e12, e13, e14, e15, e16, e20, e21, e30, e31, e32, e33, e34, e35, e36, e41, e42, e43, e44, e45, e46, e47, e48, e49]
    · first | rfl | simp only [cellOf, e1, e2, e3, e5, e6, e10, e11, e12, e13, e14, e15, e16, e20, e21, e30, e31, e32, e33, e34, e35, e36, e41, e42, e43, e44, e45, e46, e47, e48, e49]
    · first | rfl | simp only [cellOf, e1, e2, e3, e5, e6, e10, e11, e12, e13, e14, e15, e16, e20, e21, e30, e31, e32, e33, e34, e35, e36, e41, e42, e43, e44, e45, e46, e47, e48, e49]
    · first | rfl | simp only [cellOf, e1, e2, e3, e5, e6, e10, e11, e12, e13, e14, e15, e16, e20, e21, e30, e31, e32, e33, e34, e35, e36, e41, e42, e43, e44, e45, e46, e47, e48, e49]
    · first | rfl | simp only [cellOf, e1, e2, e3, e5, e6, e10, e11, e12, e13, e14, e15, e16, e20, e21, e30, e31, e32, e33, e34, e35, e36, e41, e42, e43, e44, e45, e46, e47, e48, e49]
    · first | rfl | simp only [cellOf, e1, e2, e3, e5, e6, e10, e11, e12, e13, e14, e15, e16, e20, e21, e30, e31, e32, e33, e34, e35, e36, e41, e42, e43, e44, e45, e46, e47, e48, e49]
    · first | rfl | simp only [cellOf, e1, e2, e3, e5, e6, e10, e11, e12, e13, e14, e15, e16, e20, e21, e30, e31, e32, e33, e34, e35, e36, e41, e42, e43, e44, e45, e46, e47, e48, e49]
    · first | rfl | simp only [cellOf, e1, e2, e3, e5, e6, e10, e11, e12, e13, e14, e15, e16, e20, e21, e30, e31, e32, e33, e34, e35, e36, e41, e42, e43, e44, e45, e46, e47, e48, e49]
    · first | rfl | simp only [cellOf, e1, e2, e3, e5, e6, e10, e11, e12, e13, e14, e15, e16, e20, e21, e30, e31, e32, e33, e34, e35, e36, e41, e42, e43, e44, e45, e46, e47, e48, e49]
    · first | rfl | simp only [cellOf, e1, e2, e3, e5, e6, e10, e11, e12, e13, e14, e15, e16, e20, e21, e30, e31, e32, e33, e34, e35, e36, e41, e42, e43, e44, e45, e46, e47, e48, e49]
    · first | rfl | simp only [cellOf, e1, e2, e3, e5, e6, e10, e11, e12, e13, e14, e15, e16, e20, e21, e30, e31, e32, e33, e34, e35, e36, e41, e42, e43, e44, e45, e46, e47, e48, e49]
    · first | rfl | simp only [cellOf, e1, e2, e3, e5, e6, e10, e11, e12, e13, e14, e15, e16, e20, e21, e30, e31, e32, e33, e34, e35, e36, e41, e42, e43, e44, e45, e46, e47, e48, e49]
    · first | rfl | simp only [cellOf, e1, e2, e3, e5, e6, e10, e11, e12, e13, e14, e15, e16, e20, e21, e30, e31, e32, e33, e34, e35, e36, e41, e42, e43, e44, e45, e46, e47, e48, e49]
    · first | rfl | simp only [cellOf, e1, e2, e3, e5, e6, e10, e11, e12, e13, e14, e15, e16, e20, e21, e30, e31, e32, e33, e34, e35, e36, e41, e42, e43, e44, e45, e46, e47, e48, e49]
    · first | rfl | simp only [cellOf, e1, e2, e3, e5, e6, e10, e11, e12, e13, e14, e15, e16, e20, e21, e30, e31, e32, e33, e34, e35, e36, e41, e42, e43, e44, e45, e46, e47, e48, e49]
    · first | rfl | simp only [cellOf, e1, e2, e3, e5, e6, e10, e11, e12, e13, e14, e15, e16, e20, e21, e30, e31, e32, e33, e34, e35, e36, e41, e42, e43, e44, e45, e46, e47, e48, e49]
    · first | rfl | simp only [cellOf, e1, e2, e3, e5, e6, e10, e11, e12, e13, e14, e15, e16, e20, e21, e30, e31, e32, e33, e34, e35, e36, e41, e42, e43, e44, e45, e46, e47, e48, e49]
    · first | rfl | simp only [cellOf, e1, e2, e3, e5, e6, e10, e11, e12, e13, e14, e15, e16, e20, e21, e30, e31, e32, e33, e34, e35, e36, e41, e42, e43, e44, e45, e46, e47, e48, e49]
    · first | rfl | simp only [cellOf, e1, e2, e3, e5, e6, e10, e11, e12, e13, e14, e15, e16, e20, e21, e30, e31, e32, e33, e34, e35, e36, e41, e42, e43, e44, e45, e46, e47, e48, e49]
    · first | rfl | simp only [cellOf, e1, e2, e3, e5, e6, e10, e11, e12, e13, e14, e15, e16, e20, e21, e30, e31, e32, e33, e34, e35, e36, e41, e42, e43, e44, e45, e46, e47, e48, e49]
    · first | rfl | simp only [cellOf, e1, e2, e3, e5, e6, e10, e11, e12, e13, e14, e15, e16, e20, e21, e30, e31, e32, e33, e34, e35, e36, e41, e42, e43, e44, e45, e46, e47, e48, e49]
    · first | rfl | simp only [cellOf, e1, e2, e3, e5, e6, e10, e11, e12, e13, e14, e15, e16, e20, e21, e30, e31, e32, e33, e34, e35, e36, e41, e42, e43, e44, e45, e46, e47, e48, e49]
    · first | rfl | simp only [cellOf, e1, e2, e3, e5, e6, e10, e11, e12, e13, e14, e15, e16, e20, e21, e30, e31, e32, e33, e34, e35, e36, e41, e42, e43, e44, e45, e46, e47, e48, e49]
    · first | rfl | simp only [cellOf, e1, e2, e3, e5, e6, e10, e11, e12, e13, e14, e15, e16, e20, e21, e30, e31, e32, e33, e34, e35, e36, e41, e42, e43, e44, e45, e46, e47, e48, e49]
    · first | rfl | simp only [cellOf, e1, e2, e3, e5, e6, e10, e11, e12, e13, e14, e15, e16, e20, e21, e30, e31, e32, e33, e34, e35, e36, e41, e42, e43, e44, e45, e46, e47, e48, e49]
    · first | rfl | simp only [cellOf, e1, e2, e3, e5, e6, e10, e11, e12, e13, e14, e15, e16, e20, e21, e30, e31, e32, e33, e34, e35, e36, e41, e42, e43, e44, e45, e46, e47, e48, e49]
    · first | rfl | simp only [cellOf, e1, e2, e3, e5, e6, e10, e11, e12, e13, e14, e15, e16, e20, e21, e30, e31, e32, e33, e34, e35, e36, e41, e42, e43, e44, e45, e46, e47, e48, e49]
    · first | rfl | simp only [cellOf, e1, e2, e3, e5, e6, e10, e11, e12, e13, e14, e15, e16, e20, e21, e30, e31, e32, e33, e34, e35, e36, e41, e42, e43, e44, e45, e46, e47, e48, e49]
    · first | rfl | simp only [cellOf, e1, e2, e3, e5, e6, e10, e11, e12, e13, e14, e15, e16, e20, e21, e30, e31, e32, e33, e34, e35, e36, e41, e42, e43, e44, e45, e46, e47, e48, e49]
    · first | rfl | simp only [cellOf, e1, e2, e3, e5, e6, e10, e11, e12, e13, e14, e15, e16, e20, e21, e30, e31, e32, e33, e34, e35, e36, e41, e42, e43, e44, e45, e46, e47, e48, e49]
    · first | rfl | simp only [cellOf, e1, e2, e3, e5, e6, e10, e11, e12, e13, e14, e15, e16, e20, e21, e30, e31, e32, e33, e34, e35, e36, e41, e42, e43, e44, e45, e46, e47, e48, e49]
  · unfold cellOf
    split <;> first | rfl | (rename_i he; cases he; omega)
def mstN (r : Nat) : Nat := match r with
  | 0 => 1200
  | 1 => 20000
  | _ => 4000
theorem mst_eq (r : Nat) : mst r = nI (mstN r) := match r with
  | 0 => rfl
  | 1 => rfl
  | _ + 2 => rfl
theorem mstN_b (r : Nat) : 1200 ≤ mstN r ∧ mstN r * wdN r ≤ 80000 ∧ mstN r ≤ 20000 := match r with
  | 0 => by decide
  | 1 => by decide
  | _ + 2 => by simp [mstN, wdN]
def grG (g : Sg) (w r k : Nat) (f : Nat → Int32) : Sg := sZ (sN (sA g (21, w, r) f) (21, w, r) k) (gZ g + 1) (gU g + k)
theorem Rel.grow {ad : Nm → Nat} {g : Sg} {G : PH} {w r k : Nat} {f : Nat → Int32} (hr : al g (20, w, r)) (h : RelN ad g k f G) : Rel (up3 ad (21, w, r) (gZ g)) (grG g w r k f) (phUp G (ad (20, w, r)) (.inr (3, [.int (wid r), .int (mst r), .ref (gZ g), .int (gI g (20, w, r) 3)]))) := by
  obtain ⟨h1, h2, h3, h4, h5⟩ := h
  have hal : ∀ n, al (grG g w r k f) n ↔ al g n := fun n => Iff.rfl
  have hcell : ∀ n, n ≠ (20, w, r) → n ≠ (21, w, r) → cell (up3 ad (21, w, r) (gZ g)) (grG g w r k f) n = cell ad g n := by
    intro n hn1 hn2
    unfold cell
    rw [cellOf_ad hn1]
    have e1 : gA (grG g w r k f) n = gA g n := up3_ne hn2
    have e2 : gN (grG g w r k f) n = gN g n := up3_ne hn2
    rw [e1, e2]
    rfl
  refine ⟨h1, h2, fun n hn => ?_, fun n n' hn hn' e => ?_⟩
  · have hn' := (hal n).mp hn
    by_cases e1 : n = (21, w, r)
    · subst e1
      refine ⟨?_, by rw [up3_eq]; show gZ g < gZ g + 1; omega⟩
      rw [up3_eq]
      show (if gZ g = ad (20, w, r) then _ else _) = _
      rw [if_neg (by have := (h4 _ hr).2; omega), h3]
      show _ = some (Sum.inl (0, up3 _ (21, w, r) k (21, w, r), Sum.inl (up3 _ (21, w, r) f (21, w, r))))
      rw [up3_eq, up3_eq]
    · rw [up3_ne e1]
      refine ⟨?_, by have := (h4 n hn').2; show ad n < gZ g + 1; omega⟩
      by_cases e2 : n = (20, w, r)
      · subst e2
        show (if ad (20, w, r) = ad (20, w, r) then _ else _) = _
        rw [if_pos rfl]
        show _ = some (Sum.inr (3, [Value.int (wid r), Value.int (mst r), Value.ref (up3 ad (21, w, r) (gZ g) (21, w, r)), Value.int (gI g (20, w, r) 3)]))
        rw [up3_eq]
      · rw [hcell n e2 e1]
        show (if ad n = ad (20, w, r) then _ else _) = _
        rw [if_neg (fun e => e2 (h5 _ _ hn' hr e))]
        exact (h4 n hn').1
  · have b1 := (hal n).mp hn
    have b2 := (hal n').mp hn'
    by_cases e1 : n = (21, w, r) <;> by_cases e2 : n' = (21, w, r)
    · rw [e1, e2]
    · rw [e1, up3_eq, up3_ne e2] at e
      have := (h4 n' b2).2
      omega
    · rw [e2, up3_eq, up3_ne e1] at e
      have := (h4 n b1).2
      omega
    · rw [up3_ne e1, up3_ne e2] at e
      exact h5 n n' b1 b2 e
/-- what reserving does: nothing, or a longer array -/
def Grew (ad : Nm → Nat) (g : Sg) (ad' : Nm → Nat) (g' : Sg) (w r nd : Nat) : Prop := (ad' = ad ∧ g' = g ∧ nd ≤ gN g (21, w, r)) ∨ ∃ (k : Nat) (f : Nat → Int32), gN g (21, w, r) < nd ∧ nd ≤ k ∧ k ≤ mstN r * wdN r ∧ (2 * gN g (21, w, r) ≤ k ∨ k = mstN r * wdN r) ∧ (∀ j, j < gN g (21, w, r) → f j = gA g (21, w, r) j) ∧ ad' = up3 ad (21, w, r) (gZ g) ∧ g' = grG g w r k f
/-- answers of a method that may make cells -/
def PQ (Q : Option Value → (Nm → Nat) → Sg → Prop) : Option Value → PH → Prop := fun v G => ∃ ad' g', Rel ad' g' G ∧ Q v ad' g'
theorem minI {a b : Nat} (ha : a < 2 ^ 31) (hb : b < 2 ^ 31) : (if nI b < nI a then nI b else nI a) = nI (min a b) := by
  by_cases h : b < a
  · rw [if_pos (nI_lt h ha), Nat.min_eq_right (by omega)]
  · rw [if_neg (nI_nlt (by omega) hb), Nat.min_eq_left (by omega)]
theorem maxI {a b : Nat} (ha : a < 2 ^ 31) (hb : b < 2 ^ 31) : (if nI a < nI b then nI b else nI a) = nI (max a b) := by
  by_cases h : a < b
  · rw [if_pos (nI_lt h hb), Nat.max_eq_right (by omega)]
  · rw [if_neg (nI_nlt (by omega) ha), Nat.max_eq_left (by omega)]
set_option maxRecDepth 20000 in
set_option maxHeartbeats 4000000 in
theorem c_reserve {ad : Nm → Nat} {g : Sg} {w r n rows : Nat} (hr : al g (20, w, r)) (hR : rOk g w r n) (hrw : rows ≤ 25000) (hcp : gN g (21, w, r) ≤ mstN r * wdN r) : PP mX3_reserve 0 (ent mX3_reserve [.ref (ad (20, w, r)), .int (nI rows)]) [] (Rel ad g) (PQ (fun v ad' g' => v = none ∧ Grew ad g ad' g' w r (min rows (mstN r) * wdN r))) := by
  have hbd := hR.bd
  have hwd := wdN_b r
  have hmb := mstN_b r
  obtain ⟨hr3, hsz, hcap, hmax⟩ := hR
  obtain ⟨nd, hnd⟩ : ∃ nd, min rows (mstN r) * wdN r = nd := ⟨_, rfl⟩
  have hndb : nd ≤ mstN r * wdN r := by rw [← hnd]; exact Nat.mul_le_mul_right _ (Nat.min_le_right _ _)
  rw [hnd]
  show PP mX3_reserve 0 [some (.ref (ad (20, w, r))), some (.int (nI rows)), none, none] [] (Rel ad g) _
  refine pp_iload_n dX3_reserve_0 rfl (q := 1) rfl ?_
  refine pp_aload_n dX3_reserve_1 rfl isRf_r (q := 2) rfl ?_
  refine ps_get dX3_reserve_2 fl_X3_21 hr rfl rfl (q := 5) rfl ?_
  refine pp_mmin dX3_reserve_5 lm_X3_31 (by decide) (by exact Nat.le_of_ble_eq_true rfl) (q := 8) rfl ?_
  rw [mst_eq, minI (by omega) (by omega)]
  refine pp_aload_n dX3_reserve_8 rfl isRf_r (q := 9) rfl ?_
  refine ps_get dX3_reserve_9 fl_X3_15 hr rfl rfl (q := 12) rfl ?_
  refine pp_imul dX3_reserve_12 (q := 13) rfl ?_
  rw [wid_eq, pk_mul, hnd]
  refine pp_istore_n dX3_reserve_13 (by decide) (ls1_2 (nl1 rfl)) (q := 14) rfl ?_
  refine pp_iload_n dX3_reserve_14 rfl (q := 15) rfl ?_
  refine pp_aload_n dX3_reserve_15 rfl isRf_r (q := 16) rfl ?_
  refine ps_get dX3_reserve_16 fl_X3_24 hr rfl rfl (q := 19) rfl ?_
  refine ps_alen dX3_reserve_19 (al21 hr) rfl (by decide) (q := 20) rfl ?_
  refine pp_icmp_le (tgt := 59) dX3_reserve_20 (by decide) (q := 23) rfl (fun c20 => ?_) (fun c20 => ?_)
  · have hle := leT c20 (by omega) (by omega)
    exact pp_vret dX3_reserve_59 rfl (fun G hG => ⟨_, _, hG, rfl, Or.inl ⟨rfl, rfl, hle⟩⟩)
  · replace c20 := leF c20 (by omega) (by omega)
    refine pp_iconst dX3_reserve_23 ci_2 (q := 24) rfl ?_
    refine pp_aload_n dX3_reserve_24 rfl isRf_r (q := 25) rfl ?_
    refine ps_get dX3_reserve_25 fl_X3_24 hr rfl rfl (q := 28) rfl ?_
    refine ps_alen dX3_reserve_28 (al21 hr) rfl (by decide) (q := 29) rfl ?_
    refine pp_imul dX3_reserve_29 (q := 30) rfl ?_
    rw [pk_mul]
    refine pp_aload_n dX3_reserve_30 rfl isRf_r (q := 31) rfl ?_
    refine ps_get dX3_reserve_31 fl_X3_21 hr rfl rfl (q := 34) rfl ?_
    refine pp_aload_n dX3_reserve_34 rfl isRf_r (q := 35) rfl ?_
    refine ps_get dX3_reserve_35 fl_X3_15 hr rfl rfl (q := 38) rfl ?_
    refine pp_imul dX3_reserve_38 (q := 39) rfl ?_
    rw [mst_eq, wid_eq, pk_mul]
    refine pp_mmin dX3_reserve_39 lm_X3_31 (by decide) (by exact Nat.le_of_ble_eq_true rfl) (q := 42) rfl ?_
    rw [minI (by omega) (by omega)]
    refine pp_istore_n dX3_reserve_42 (by decide) (ls1_3 (nl1 rfl)) (q := 43) rfl ?_
    refine pp_aload_n dX3_reserve_43 rfl isRf_r (q := 44) rfl ?_
    refine pp_aload_n dX3_reserve_44 rfl isRf_r (q := 45) rfl ?_
    refine ps_get dX3_reserve_45 fl_X3_24 hr rfl rfl (q := 48) rfl ?_
    refine pp_iload_n dX3_reserve_48 rfl (q := 49) rfl ?_
    refine pp_iload_n dX3_reserve_49 rfl (q := 50) rfl ?_
    refine pp_mmax dX3_reserve_50 lm_X3_9 (by decide) (by exact Nat.le_of_ble_eq_true rfl) (q := 53) rfl ?_
    rw [maxI (by omega) (by omega)]
    refine pp_callS (As := [.ref (ad (21, w, r)), .int (nI (max nd (min (2 * gN g (21, w, r)) (mstN r * wdN r))))]) (st := [.ref (ad (20, w, r))]) dX3_reserve_53 lk_X3_34 rfl (Nat.le_of_ble_eq_true rfl) (by decide) (by decide) (Nat.le_of_ble_eq_true rfl) rfl (c_copyOf (len := gN g (21, w, r)) (al21 hr) rfl (by omega) (by omega)) (q := 56) rfl (fun v => ?_)
    intro G hG
    obtain ⟨rfl, hN⟩ := hG
    refine pp_put (I := RelN ad g (max nd (min (2 * gN g (21, w, r)) (mstN r * wdN r))) (va_cpy (gA g (21, w, r)) (fun _ => 0) 0 0 (gN g (21, w, r)))) (I' := Rel (up3 ad (21, w, r) (gZ g)) (grG g w r (max nd (min (2 * gN g (21, w, r)) (mstN r * wdN r))) (va_cpy (gA g (21, w, r)) (fun _ => 0) 0 0 (gN g (21, w, r))))) (k := 2) (v := .ref (gZ g)) dX3_reserve_56 fl_X3_24 (fun G hG => (hG.2.2.2.1 _ hr).1) (Nat.le_of_ble_eq_true rfl) rfl rfl (fun G hG => Rel.grow hr hG) (q := 59) rfl ?_ G hN
    refine pp_vret dX3_reserve_59 rfl (fun G hG => ⟨_, _, hG, rfl, Or.inr ⟨_, _, c20, by omega, by omega, by omega, fun j hj => ?_, rfl, rfl⟩⟩)
    rw [pk_cpy_in (by omega) (by omega)]
    show gA g (21, w, r) (0 + (j - 0)) = _
    congr 1
    omega
