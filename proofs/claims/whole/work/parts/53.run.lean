/-! runs of acts -/
noncomputable def actF (A : AW) (h : Act) : AW := (stA A (cl h.1) h.2.1 h.2.2.1 h.2.2.2).1
noncomputable def runA (H : List Act) : AW := H.foldl actF A0
def okH (H : List Act) : Prop := ∀ i h, H[i]? = some h → ∃ v, (1 ≤ v ∧ v ≤ 11) ∧ h.1 = nI v ∧ whyA (runA (H.take i)) i v h.2.1 h.2.2.1 = nI 0
theorem runA_snoc {H : List Act} {h : Act} : runA (H ++ [h]) = actF (runA H) h := by
  unfold runA
  rw [List.foldl_append]
  rfl
theorem actF_v {A : AW} {v : Nat} {a b : Int32} {sd : Int64} (hv : v ≤ 11) : actF A (nI v, a, b, sd) = (stA A v a b sd).1 := by
  unfold actF
  dsimp only
  rw [cl_nI (by omega)]
theorem okH_nil : okH [] := fun i h hh => by simp at hh
theorem okH_take {H : List Act} (h : okH H) (n : Nat) : okH (H.take n) := by
  intro i x hx
  have hi := lt_of_getE hx
  rw [List.length_take] at hi
  rw [List.getElem?_take, if_pos (by omega)] at hx
  obtain ⟨v, h1, h2, h3⟩ := h i x hx
  refine ⟨v, h1, h2, ?_⟩
  rw [List.take_take, Nat.min_eq_left (by omega)]
  exact h3
theorem okH_snoc {H : List Act} {v : Nat} {a b : Int32} {sd : Int64} (h : okH H) (hv : 1 ≤ v ∧ v ≤ 11) (hw : whyA (runA H) H.length v a b = nI 0) : okH (H ++ [(nI v, a, b, sd)]) := by
  intro i x hx
  by_cases hi : i < H.length
  · rw [List.getElem?_append_left hi] at hx
    obtain ⟨v, h1, h2, h3⟩ := h i x hx
    refine ⟨v, h1, h2, ?_⟩
    rw [List.take_append_of_le_length (by omega)]
    exact h3
  · have hlt := lt_of_getE hx
    rw [List.length_append] at hlt
    have hlt2 : i < H.length + 1 := hlt
    obtain rfl : i = H.length := by omega
    rw [List.getElem?_append_right (by omega), Nat.sub_self] at hx
    obtain rfl := Option.some.inj hx
    refine ⟨v, hv, rfl, ?_⟩
    rw [List.take_append_of_le_length (by omega), List.take_length]
    exact hw
theorem INV_0 : INV 1 1 A0 := by
  refine ⟨⟨by show 0 ≤ 1200; omega, by show 0 ≤ 20000; omega, fun l hl => absurd hl (Nat.not_lt_zero l), rfl, rfl⟩, fun m _ hd => absurd hd (A0_md m), ?_, fun i j hi hj => ?_⟩
  · show 0 = cntM A0.1
    unfold cntM
    have : sel (fun m => decide ((A0.1 m).1 1 = nI 1)) 64 = [] := by
      have e : (fun m => decide ((A0.1 m).1 1 = nI 1)) = fun _ => false := by
        funext m
        exact decide_eq_false (A0_md m)
      rw [e]
      unfold sel
      simp
    rw [this]
    rfl
  · exact ⟨fun q => absurd q (tb_0 hj), fun q => absurd q (tb_0 hi)⟩
theorem take_s {H : List Act} {n : Nat} (hn : n < H.length) : H.take (n + 1) = H.take n ++ [H[n]] := (List.take_append_getElem hn).symm
theorem inv_take {H : List Act} (h : okH H) : ∀ n, n ≤ H.length → INV (n + 1) (n + 1) (runA (H.take n))
  | 0, _ => INV_0
  | n + 1, hn => by
    have ih := inv_take h n (by omega)
    obtain ⟨v, h1, h2, h3⟩ := h n H[n] (List.getElem?_eq_getElem (by omega))
    rw [take_s (by omega), runA_snoc]
    unfold actF
    rw [h2, cl_nI (by omega)]
    exact stA_INV ih (by omega) h1 h3
theorem inv_run {H : List Act} (h : okH H) : INV (H.length + 1) (H.length + 1) (runA H) := by
  have := inv_take h H.length (Nat.le_refl _)
  rw [List.take_length] at this
  exact this
theorem okH_len {H : List Act} (h : okH H) : H.length ≤ 4000 := by
  rcases Nat.eq_zero_or_pos H.length with e | e
  · omega
  · obtain ⟨v, -, -, h3⟩ := h (H.length - 1) H[H.length - 1] (List.getElem?_eq_getElem (by omega))
    have := (whyA_0 h3).2.2.2.2.2
    omega
theorem INV.x {N P : Nat} {A : AW} (h : INV N P A) : okX A := by
  refine ⟨fun l hl => ?_, fun m hm hd => (h.m hm hd).2.2.2.2.1⟩
  obtain ⟨k, s, a1, ⟨f, hf, ef⟩, ⟨t, ht, et⟩, -, -, -, a7⟩ := h.1.2.2.1 l hl
  refine ⟨k, s, f, t, a1, ef, hf, et, ht, fun i hi => ?_⟩
  obtain ⟨x, kd, h1, h2, -⟩ := a7 i hi
  exact ⟨x, h1, h2⟩
theorem okB.lt {N : Nat} {B : Bk} (h : okB N B) : okLt B := fun l hl => by
  obtain ⟨k, s, a1, -⟩ := h.2.2.1 l hl
  exact ⟨k, s, a1⟩
theorem hasQ_P {N : Nat} {B : Bk} {l x : Nat} (h : okB N B) (hq : hasQ B l x) : hasP B l x := by
  obtain ⟨k, s, i, h1, h2, h3⟩ := hq
  have hb := h.2.1
  unfold hasP
  rw [pcO_k (by omega) h1]
  cases e : fnd (fun i => decide (bp B (s + i) 0 = nI x)) 0 k with
  | some j => exact ⟨j, rfl⟩
  | none =>
    have := fnd_none e i (by omega) (by omega)
    rw [h3] at this
    simp at this
theorem okB.c {N : Nat} {B : Bk} (h : okB N B) {x : Nat} (hx : x < 64) : okC B x := by
  intro l hl ⟨i, hi⟩
  obtain ⟨k, s, a1, -, -, -, -, -, a7⟩ := h.2.2.1 l hl
  have hb := h.2.1
  have hf := hi
  rw [pcO_k (by omega) a1] at hf
  obtain ⟨-, f2, f3, -⟩ := fnd_some hf
  obtain ⟨x', kd, h1, h2, -, -, -, -, h7⟩ := a7 i (by omega)
  have e : x' = x := by
    have := of_decide_eq_true f3
    rw [h2] at this
    exact eqT this (by omega) (by omega)
  subst e
  have hn : nxW B (nI x') l = bp B (s + i) 3 := by
    unfold nxW
    rw [hi]
    show bp B (cl (bl B l 7) + i) 3 = _
    rw [a1.2.2.1, cl_nI (by have := a1.2.2.2.1; omega)]
  rw [hn]
  exact h7.imp id (fun ⟨l', a, b, c⟩ => ⟨l', a, b, hasQ_P h c⟩)
theorem sel_dis {c c' : Nat → Bool} (h : ∀ i, ¬ (c i = true ∧ c' i = true)) : ∀ n, (sel c n).length + (sel c' n).length ≤ n
  | 0 => Nat.le_refl 0
  | n + 1 => by
    have ih := sel_dis h n
    rw [sel_s, sel_s]
    have := h n
    split
    · split
      · exact absurd ⟨by assumption, by assumption⟩ this
      · rw [List.length_append]; show _ + 1 + _ ≤ n + 1; omega
    · split
      · rw [List.length_append]; show _ + (_ + 1) ≤ n + 1; omega
      · omega
theorem okB.dx {N : Nat} {B : Bk} (h : okB N B) : bD B + bX B ≤ bL B := by
  rw [h.2.2.2.1, h.2.2.2.2]
  refine sel_dis (fun i q => ?_) (bL B)
  have h1 := of_decide_eq_true q.1
  have h2 := of_decide_eq_true q.2
  rw [h1] at h2
  exact absurd h2 (by decide)
theorem nI_sb {a b : Nat} (h : b ≤ a) : nI a - nI b = nI (a - b) := by
  have e : nI a = nI (a - b) + nI b := by rw [nI_add]; congr 1; omega
  rw [e, Int32.add_sub_cancel]
theorem ge_m1 {n : Nat} (h : n < 2 ^ 31) : (-1 : Int32) ≤ nI n := by
  rw [Int32.le_iff_toInt_le, nI_toInt h]
  have : (-1 : Int32).toInt = -1 := by decide
  omega
theorem askT_2 {A : AW} {m : Nat} : (askT A m).2 = nI 0 ∨ (askT A m).2 = nI 1 := by
  unfold askT
  split
  · exact Or.inl rfl
  · exact Or.inr rfl
theorem anA_2 {A : AW} {m : Nat} : (anA A m).2 = nI 0 ∨ (anA A m).2 = nI 1 := by
  unfold anA
  split <;> exact askT_2
theorem rspA_2 {A : AW} {m l : Nat} : (rspA A m l).2 = nI 0 ∨ (rspA A m l).2 = nI 1 := by
  unfold rspA
  split
  · exact Or.inr rfl
  · split
    · exact Or.inr rfl
    · split
      · split
        · exact Or.inl rfl
        · exact Or.inr rfl
      · split
        · exact Or.inl rfl
        · split
          · exact Or.inr rfl
          · exact Or.inl rfl
/-- an act that was done answers no refusal -/
theorem stA_ge {N n v : Nat} {A : AW} {a b : Int32} {sd : Int64} (h : INV N N A) (hN : N ≤ 100000) (hv : 1 ≤ v ∧ v ≤ 11) (hw : whyA A n v a b = nI 0) : (-1 : Int32) ≤ (stA A v a b sd).2 := by
  obtain ⟨hb, hm, hdn, ha, hr, hn⟩ := whyA_0 hw
  obtain ⟨h1, h2⟩ := hv
  have hmem : ∀ {x : Int32}, isM x → cl x < 64 ∧ x = nI (cl x) := fun q => cl_of q (by decide)
  have hmd : ∀ {x : Int32}, mdX A x → mdA A (cl x) := fun ⟨i, hi, e, hd⟩ => by rw [e, cl_nI (by omega)]; exact hd
  have hlt : ∀ {x : Int32}, isLt A x → cl x < bL (aB A) ∧ x = nI (cl x) := fun q => cl_of q (by omega)
  obtain rfl | rfl | rfl | rfl | rfl | rfl | rfl | rfl | rfl | rfl | rfl : v = 1 ∨ v = 2 ∨ v = 3 ∨ v = 4 ∨ v = 5 ∨ v = 6 ∨ v = 7 ∨ v = 8 ∨ v = 9 ∨ v = 10 ∨ v = 11 := by omega
  · refine ge_m1 ?_
    rw [h.2.2.1]
    have := sel_le (fun m => decide ((A.1 m).1 1 = nI 1)) 64
    unfold cntM
    omega
  · exact ge_m1 (by have := hr.1; omega)
  · exact ge_m1 (by have := (sdA_k (A := gwB A (cl a)) (m := cl a) (kind := nI 6) (ab := -1)).2.2.2.2; omega)
  · show (-1 : Int32) ≤ (ttA A (cl a)).2
    unfold ttA
    split
    · dsimp only
      rcases anA_2 (A := ttC A (cl a)) (m := cl a) with e | e <;> rw [e] <;> decide
    · dsimp only
      have hk := (sdA_k (A := ttD (ttC A (cl a)) (cl a)) (m := cl a) (kind := nI 2) (ab := ((ttC A (cl a)).1 (cl a)).1 6)).2.2.2.2
      rcases anA_2 (A := (sdA (ttD (ttC A (cl a)) (cl a)) (cl a) (nI 2) (((ttC A (cl a)).1 (cl a)).1 6)).1) (m := cl a) with e | e <;> rw [e, nI_add] <;> exact ge_m1 (by omega)
  · have hM := h.m (hmem (Classical.not_not.mp hb : isM a)).1 (hmd (Classical.not_not.mp hm))
    obtain ⟨t, ht, et⟩ := hM.2.1
    show (-1 : Int32) ≤ (A.1 (cl a)).1 4
    rw [et]
    exact ge_m1 (by omega)
  · have hM := h.m (hmem (Classical.not_not.mp hb : isM a)).1 (hmd (Classical.not_not.mp hm))
    obtain ⟨t, ht, et⟩ := hM.2.1
    show (-1 : Int32) ≤ (A.1 (cl a)).1 4 + nI 1
    rw [et, nI_add]
    exact ge_m1 (by omega)
  · show (-1 : Int32) ≤ (brA A (cl a) _ _ _ _).2
    unfold brA
    unfold cIf
    split
    · rcases rspA_2 (A := tkR (cl (bl (aB A) (cl a) 2)) (nI (cl a)) (cl (bl (aB A) (cl a) 7)) 0 (cl (bl (aB A) (cl a) 4)) (aBk A (edB (aB A) (cl a)))) (m := cl (bl (aB A) (cl a) 2)) (l := cl a) with e | e <;> rw [e] <;> decide
    · exact Int32.le_refl _
  · have q := hlt (Classical.not_not.mp hb : isLt A a)
    have h0 : bl (aB A) (cl a) 5 = nI 0 := Classical.byContradiction (fun z => hm ⟨cl a, q.1, q.2, z⟩)
    have hd := (okB_ex h.1 q.1 h0).dx
    show (-1 : Int32) ≤ nI (bL (exB (aB A) (cl a))) - nI (bD (exB (aB A) (cl a))) - nI (bX (exB (aB A) (cl a)))
    rw [nI_sb (by omega), nI_sb (by omega)]
    refine ge_m1 ?_
    have : bL (exB (aB A) (cl a)) = bL (aB A) := rfl
    omega
  · exact ge_m1 (by have := hr.1; omega)
  all_goals
    show (-1 : Int32) ≤ (liA A (cl a) (cl b) _).2
    unfold liA cIf
    split <;> exact ge_m1 (by omega)
theorem whyA_k {A : AW} {n v : Nat} {a b : Int32} (h : ¬ whyA A n v a b = nI 0) : ∃ k, (isW k ∧ k ≠ 7) ∧ whyA A n v a b = - nI k := by
  unfold whyA at h ⊢
  by_cases h1 : beyP A v a b
  · rw [cIf_t h1]; exact ⟨3, ⟨⟨by omega, by omega⟩, by omega⟩, by decide⟩
  rw [cIf_f h1] at h ⊢
  by_cases h2 : misP A v a b
  · rw [cIf_t h2]; exact ⟨2, ⟨⟨by omega, by omega⟩, by omega⟩, by decide⟩
  rw [cIf_f h2] at h ⊢
  by_cases h3 : dwnP A v a
  · rw [cIf_t h3]; exact ⟨8, ⟨⟨by omega, by omega⟩, by omega⟩, by decide⟩
  rw [cIf_f h3] at h ⊢
  by_cases h4 : natP A v a b
  · rw [cIf_t h4]; exact ⟨9, ⟨⟨by omega, by omega⟩, by omega⟩, by decide⟩
  rw [cIf_f h4] at h ⊢
  by_cases h5 : (bL (aB A) ≤ 1196 ∧ bP (aB A) ≤ 19800) ∧ n < 4000
  · rw [cIf_t h5] at h; exact absurd rfl h
  rw [cIf_f h5]
  exact ⟨10, ⟨⟨by omega, by omega⟩, by omega⟩, by decide⟩
