theorem okMm.cg {P m : Nat} {B : Bk} {M M' : Me} (h : okMm P B m M) (e2 : M'.1 2 = M.1 2) (e4 : M'.1 4 = M.1 4) (e6 : isN (M'.1 6)) (e7 : isN (M'.1 7)) (hw : wfR m M') (h31 : M'.2.2 31 = M.2.2 31) (h32 : M'.2.2 32 = M.2.2 32) (h35 : M'.2.2 35 = M.2.2 35) : okMm P B m M' := by
  obtain ⟨a1, a2, a3, a4, a5, a6⟩ := h
  refine ⟨by rw [e2]; exact a1, by rw [e4]; exact a2, e6, e7, hw, fun x hx => ?_⟩
  have := a6 x hx
  unfold okR at this ⊢
  rw [h31, h32, h35]
  exact this
theorem okMm_en {P m x : Nat} {B : Bk} {M : Me} {kind t l : Int32} (h : okMm P B m M) (hk : ∃ kd, 1 ≤ kd ∧ kd ≤ 4 ∧ kind = nI kd) (ht : tmB P t) (hl : l = -1 ∨ ∃ l0, l0 < bL B ∧ l = nI l0 ∧ hasQ B l0 x) : okMm P B m (meEn M x kind t l) := by
  obtain ⟨a1, a2, a3, a4, a5, a6⟩ := h
  refine ⟨a1, a2, a3, a4, wfR_cg a5 rfl rfl rfl, fun y hy => ?_⟩
  obtain ⟨kd, k1, k2, rfl⟩ := hk
  have e31 : (meEn M x (nI kd) t l).2.2 31 y = if y = x then nI kd else M.2.2 31 y := rfl
  have e32 : (meEn M x (nI kd) t l).2.2 32 y = if y = x then t else M.2.2 32 y := rfl
  have e35 : (meEn M x (nI kd) t l).2.2 35 y = if y = x then l else M.2.2 35 y := rfl
  unfold okR
  rw [e31, e32, e35]
  by_cases e : y = x
  · subst e
    rw [if_pos rfl, if_pos rfl, if_pos rfl]
    refine ⟨⟨kd, k2, rfl⟩, fun q => ?_, ht, ?_⟩
    · have := eqT q (by omega) (by omega)
      omega
    · exact hl.imp id Or.inr
  · rw [if_neg e, if_neg e, if_neg e]
    exact a6 y hy
theorem isN_m1 : isN (-1) := Or.inl rfl
theorem wfR_0 {m : Nat} {M : Me} (h1 : M.1 14 = nI 0) (h2 : M.1 15 = nI 0) : wfR m M := ⟨0, 0, h1, by omega, h2, by omega, fun j hj => absurd hj (Nat.not_lt_zero j)⟩
theorem okMm_stop {P m : Nat} {B : Bk} {M : Me} (h : okMm P B m M) : okMm P B m (meStop M) := h.cg rfl rfl isN_m1 isN_m1 (wfR_0 rfl rfl) rfl rfl rfl
theorem tmB_0 {P : Nat} : tmB P (0 : Int32) := ⟨0, by omega, rfl⟩
theorem okMm_z {P m : Nat} {B : Bk} {M : Me} (h : (∃ st, st ≤ 2 ∧ M.1 2 = nI st) ∧ tmB P (M.1 4)) : okMm P B m (meStop (meZ M)) := by
  refine ⟨h.1, h.2, isN_m1, isN_m1, wfR_0 rfl rfl, fun x hx => ⟨⟨0, by omega, rfl⟩, fun _ => rfl, tmB_0, Or.inr (Or.inl rfl)⟩⟩
theorem okMm_fgt {P m : Nat} {B : Bk} {M : Me} (h : (∃ st, st ≤ 2 ∧ M.1 2 = nI st) ∧ tmB P (M.1 4)) : okMm P B m (meFgt m M) := okMm_en (okMm_z h) ⟨1, by omega, by omega, rfl⟩ h.2 (Or.inl rfl)
theorem okMm_rai {P m : Nat} {B : Bk} {M : Me} {t : Int32} (h : okMm P B m M) (ht : tmB P t) : okMm P B m (meRai m t M) := by
  refine okMm_en ?_ ⟨1, by omega, by omega, rfl⟩ ht (Or.inl rfl)
  obtain ⟨a1, a2, a3, a4, a5, a6⟩ := h
  exact ⟨a1, ht, a3, a4, wfR_cg a5 rfl rfl rfl, a6⟩
theorem okMm_s {P m k : Nat} {B : Bk} {M : Me} {v : Int32} (h : okMm P B m M) (hk : k = 6 ∨ k = 7 ∨ k = 5) (hv : isN v ∨ k = 5) : okMm P B m (meSI M k v) := by
  obtain ⟨a1, a2, a3, a4, a5, a6⟩ := h
  have e : ∀ j, (meSI M k v).1 j = if j = k then v else M.1 j := fun _ => rfl
  refine ⟨?_, ?_, ?_, ?_, wfR_cg a5 ?_ ?_ rfl, a6⟩
  · rw [e, if_neg (by omega)]; exact a1
  · rw [e, if_neg (by omega)]; exact a2
  · rw [e]
    split
    · rcases hv with h | h
      · exact h
      · omega
    · exact a3
  · rw [e]
    split
    · rcases hv with h | h
      · exact h
      · omega
    · exact a4
  · rw [e, if_neg (by omega)]
  · rw [e, if_neg (by omega)]
theorem okMm_ans {P m : Nat} {B : Bk} {M : Me} {x : Int32} (h : okMm P B m M) : okMm P B m (meAns x M) := by
  have s6 : ∀ M', okMm P B m M' → okMm P B m (meSI M' 6 (-1)) := fun M' q => okMm_s q (Or.inl rfl) (Or.inl isN_m1)
  have s7 : ∀ M', okMm P B m M' → okMm P B m (meSI M' 7 (-1)) := fun M' q => okMm_s q (Or.inr (Or.inl rfl)) (Or.inl isN_m1)
  unfold meAns
  split
  · split
    · exact s7 _ (s6 _ h)
    · exact s6 _ h
  · split
    · exact s7 _ h
    · exact h
theorem okMm_sj {P m : Nat} {B : Bk} {M : Me} {v : Int64} (h : okMm P B m M) : okMm P B m (meSJ M v) := h.cg rfl rfl h.2.2.1 h.2.2.2.1 (wfR_cg h.2.2.2.2.1 rfl rfl rfl) rfl rfl rfl
theorem okMm_mkR {P m : Nat} {B : Bk} {M : Me} (h : okMm P B m M) : okMm P B m (meMkR m M) := h.cg rfl rfl h.2.2.1 h.2.2.2.1 wfR_mkR rfl rfl rfl
theorem okMm_15 {P m i n : Nat} {B : Bk} {M : Me} (h : okMm P B m M) (hn : M.1 14 = nI n) (hi : i < n) (hn2 : n ≤ 64) : okMm P B m (meSI M 15 (nI (i + 1))) := by
  refine h.cg rfl rfl h.2.2.1 h.2.2.2.1 ?_ rfl rfl rfl
  obtain ⟨n', q, h1, h2, h3, h4, h5⟩ := h.2.2.2.2.1
  exact ⟨n', i + 1, h1, h2, rfl, by omega, h5⟩
theorem okMm_to {P m x : Nat} {B : Bk} {M : Me} (h : okMm P B m M) : okMm P B m (meTo M x) := h.cg rfl rfl h.2.2.1 h.2.2.2.1 (wfR_cg h.2.2.2.2.1 rfl rfl rfl) rfl rfl rfl
theorem okMm_dbt {P m : Nat} {B : Bk} {M : Me} (h : okMm P B m M) : okMm P B m (meDbt M) := by
  have s7 := okMm_s (k := 7) (v := -1) h (Or.inr (Or.inl rfl)) (Or.inl isN_m1)
  unfold meDbt
  split
  · rename_i c
    obtain ⟨i, hi, e⟩ := nI_ex c.1 c.2.1 (by decide)
    rw [e, nI_clamp (by omega)]
    exact okMm_en s7 ⟨2, by omega, by omega, rfl⟩ (h.2.2.2.2.2 i hi).2.2.1 (Or.inl rfl)
  · exact s7
/-! sending -/
def brO (B : Bk) (M : Me) : Prop := ∀ x, x < 64 → ¬ M.2.2 31 x = nI 0 → M.2.2 35 x = -1 ∨ ∃ l, l + 1 < bL B ∧ M.2.2 35 x = nI l ∧ hasQ B l x
theorem snd1_INV {N m x k0 : Nat} {wh : Bool} {A : AW} (h : INV N N A) (hmb : m < 64) (hd : mdA A m) (ho : opK (aB A) k0) (hk : k0 < 64) (hb : bP (aB A) + 1 ≤ 20000) (hx : x < 64) (hx0 : ¬ (A.1 m).2.2 31 x = nI 0) (hbr : brO (aB A) (A.1 m)) : INV N N (snd1 m wh A x) ∧ opK (aB (snd1 m wh A x)) (k0 + 1) ∧ brO (aB (snd1 m wh A x)) ((snd1 m wh A x).1 m) := by
  have hM := h.m hmb hd
  obtain ⟨⟨kd, c1, c2⟩, -, c3, -⟩ := hM.2.2.2.2.2 x hx
  have hkd : 1 ≤ kd := by
    rcases Nat.eq_zero_or_pos kd with e | e
    · subst e; exact absurd c2 hx0
    · exact e
  have hp := okB_pu (x := x) (kd := kd) (term := (A.1 m).2.2 32 x) (br := (A.1 m).2.2 35 x) h.1 ho hk hb hx ⟨hkd, c1⟩ c3 (hbr x hx hx0)
  rw [← c2] at hp
  have hq : ∀ l y, hasQ (aB A) l y → hasQ (puB (aB A) (nI x) ((A.1 m).2.2 31 x) ((A.1 m).2.2 32 x) ((A.1 m).2.2 35 x)) l y := fun l y q => hasQ_pu h.1.2.1 ho hk q
  have h1 : INV N N (tlA (aBk A (puB (aB A) (nI x) ((A.1 m).2.2 31 x) ((A.1 m).2.2 32 x) ((A.1 m).2.2 35 x))) (nI 4 + (A.1 m).2.2 31 x - nI 1)) := (h.bk hp.1 (Nat.le_refl _) (fun l y _ q => hq l y q)).tl
  have hbr1 : brO (puB (aB A) (nI x) ((A.1 m).2.2 31 x) ((A.1 m).2.2 32 x) ((A.1 m).2.2 35 x)) (A.1 m) := fun y hy hy0 => (hbr y hy hy0).imp id (fun ⟨l, a, b, c⟩ => ⟨l, a, b, hq _ _ c⟩)
  unfold snd1
  cases wh with
  | true => exact ⟨h1, hp.2, hbr1⟩
  | false =>
    refine ⟨h1.set hd (okMm_to (h1.m hmb hd)) hd, hp.2, ?_⟩
    rw [if_neg (by decide), aSet_m]
    exact hbr1
theorem fold_INV {N m : Nat} {wh : Bool} (hmb : m < 64) : ∀ (l : List Nat) (A : AW) (k0 : Nat), INV N N A → mdA A m → opK (aB A) k0 → k0 + l.length ≤ 64 → bP (aB A) + l.length ≤ 20000 → (∀ x ∈ l, x < 64 ∧ ¬ (A.1 m).2.2 31 x = nI 0) → brO (aB A) (A.1 m) → INV N N (l.foldl (snd1 m wh) A)
  | [], A, k0, h, _, _, _, _, _, _ => h
  | x :: l, A, k0, h, hd, ho, hk, hb, hx, hbr => by
    rw [List.length_cons] at hk hb
    obtain ⟨h1, h2, h3⟩ := snd1_INV (wh := wh) h hmb hd ho (by omega) (by omega) (hx x List.mem_cons_self).1 (hx x List.mem_cons_self).2 hbr
    refine fold_INV hmb l (snd1 m wh A x) (k0 + 1) h1 ?_ h2 (by omega) ?_ (fun y hy => ?_) h3
    · show ((snd1 m wh A x).1 m).1 1 = nI 1
      rw [snd1_md]
      exact hd
    · rw [snd1_bk.2]; omega
    · have := hx y (List.mem_cons_of_mem _ hy)
      refine ⟨this.1, ?_⟩
      rw [snd1_keep.2 31 (by omega)]
      exact this.2
theorem pkL_k {A : AW} {m : Nat} {wh : Bool} {y : Nat} (h : y ∈ pkL A m wh) : ¬ (A.1 m).2.2 31 y = nI 0 := by
  unfold pkL at h
  split at h
  · have := (sel_lt h).2
    unfold asel at this
    exact of_decide_eq_true this
  · have := (frs_mem h).2
    unfold esel at this
    rw [Bool.and_eq_true] at this
    exact of_decide_eq_true this.1
theorem sndA_INV {N m : Nat} {A : AW} {kind to ab : Int32} (h : INV N N A) (hmb : m < 64) (hd : mdA A m) (hl : bL (aB A) + 1 ≤ 1200) (hp : bP (aB A) + (pkL A m (isFl kind)).length ≤ 20000) (ht : ∃ t, t < 64 ∧ to = nI t) (ha : isN ab) (hk : kind = nI 2 → ¬ ab = -1) : INV N N (sndA A m kind to ab) := by
  obtain ⟨h1, h2⟩ := okB_op (kind := kind) (fr := nI m) (to := to) (ab := ab) (cp := -1) h.1 hl ⟨m, hmb, rfl⟩ ht ha hk
  unfold sndA
  refine fold_INV hmb _ _ 0 (h.bk h1 (by show bL (aB A) ≤ bL (aB A) + 1; omega) (fun l x _ q => hasQ_op q)) hd h2 (by have := pkL_le A m (isFl kind); omega) hp (fun x hx => ⟨pkL_lt hx, pkL_k hx⟩) (fun x hx hx0 => ?_)
  rcases ((h.m hmb hd).2.2.2.2.2 x hx).2.2.2 with q | q | ⟨l, a, b, c⟩
  · exact Or.inl q
  · exact absurd q hx0
  · exact Or.inr ⟨l, by show l + 1 < bL (aB A) + 1; omega, b, hasQ_op c⟩
theorem sdR_INV {N m : Nat} {kind ab : Int32} (hmb : m < 64) (ha : isN ab) (hk : kind = nI 2 → ¬ ab = -1) : ∀ (c : Nat) (l : List Nat) (A : AW), INV N N A → mdA A m → bL (aB A) + c ≤ 1200 → bP (aB A) + c * pmx kind ≤ 20000 → (∀ x ∈ l, x < 64) → INV N N (sdR m kind ab c l A).1
  | 0, l, A, h, _, _, _, _ => h
  | c + 1, l, A, h, hd, hl, hp, hx => by
    unfold sdR
    split
    · exact h
    · rename_i hne
      have hdr := drN_lt (stir (A.1 m).2.1) (n := l.length) (by omega)
      have h1 : INV N N (aSet A m (meSJ (A.1 m) (stir (A.1 m).2.1))) := h.set hd (okMm_sj (h.m hmb hd)) hd
      have hd1 : mdA (aSet A m (meSJ (A.1 m) (stir (A.1 m).2.1))) m := by unfold mdA; rw [aSet_m]; exact hd
      have hmx := pkL_mx (aSet A m (meSJ (A.1 m) (stir (A.1 m).2.1))) m kind
      rw [Nat.add_mul, Nat.one_mul] at hp
      have hget : l.getD (drN (stir (A.1 m).2.1) l.length) 0 < 64 := by
        rw [List.getD_eq_getElem?_getD, List.getElem?_eq_getElem hdr]
        exact hx _ (List.getElem_mem hdr)
      have h2 := sndA_INV (kind := kind) (to := nI (l.getD (drN (stir (A.1 m).2.1) l.length) 0)) (ab := ab) h1 hmb hd1 (by show bL (aB A) + 1 ≤ 1200; omega) (by show bP (aB A) + _ ≤ 20000; omega) ⟨_, hget, rfl⟩ ha hk
      have hkp := sndA_keep (A := aSet A m (meSJ (A.1 m) (stir (A.1 m).2.1))) (m := m) (kind := kind) (to := nI (l.getD (drN (stir (A.1 m).2.1) l.length) 0)) (ab := ab)
      refine sdR_INV hmb ha hk c _ _ h2 ?_ ?_ ?_ (fun x hx2 => hx x (List.mem_of_mem_eraseIdx hx2))
      · unfold mdA; rw [hkp.1]; exact hd1
      · rw [hkp.2.2.2.1]; show bL (aB A) + 1 + c ≤ 1200; omega
      · rw [hkp.2.2.2.2]; show bP (aB A) + _ + c * pmx kind ≤ 20000; omega
theorem sdA_INV {N m : Nat} {A : AW} {kind ab : Int32} (h : INV N N A) (hmb : m < 64) (hd : mdA A m) (hl : bL (aB A) + 3 ≤ 1200) (hp : bP (aB A) + 3 * pmx kind ≤ 20000) (ha : isN ab) (hk : kind = nI 2 → ¬ ab = -1) : INV N N (sdA A m kind ab).1 := sdR_INV hmb ha hk 3 _ A h hd hl hp (fun x hx => (sel_lt hx).1)
/-! taking -/
theorem tkF_INV {N m l s i : Nat} {A : AW} (h : INV N (N + 1) A) (hmb : m < 64) (hd : mdA A m) (hl : l < bL (aB A)) (hP : okP N (aB A) l (s + i)) (hq : ∀ x, bp (aB A) (s + i) 0 = nI x → hasQ (aB A) l x) : INV N (N + 1) (tkF m (nI l) s A i) := by
  obtain ⟨x, kd, h1, h2, h3, h4, h5, ⟨t, h6, h7⟩, -⟩ := hP
  have hM := h.m hmb hd
  have hT : okMm (N + 1) (aB A) m (meTak m (bp (aB A) (s + i) 0).toNatClampNeg (bp (aB A) (s + i) 1) (bp (aB A) (s + i) 2) (nI l) (A.1 m)) := by
    rw [h2, h5, h7, nI_clamp (by omega)]
    unfold meTak
    by_cases e : x = m
    · rw [cIf_t e]
      by_cases r : refu (A.1 m) (nI kd) (nI t)
      · rw [cIf_t r]
        exact okMm_rai hM ⟨t + 1, by omega, nI_add t 1⟩
      · rw [cIf_f r]; exact hM
    · rw [cIf_f e]
      by_cases r : beats ((A.1 m).2.2 31) ((A.1 m).2.2 32) x (nI kd) (nI t)
      · rw [cIf_t r]
        exact okMm_en hM ⟨kd, h3, h4, rfl⟩ ⟨t, by omega, rfl⟩ (Or.inr ⟨l, hl, rfl, hq x h2⟩)
      · rw [cIf_f r]; exact hM
  have h1' : INV N (N + 1) (aSet (tlA A (nI 0 + bp (aB A) (s + i) 1 - nI 1)) m (meTak m (bp (aB A) (s + i) 0).toNatClampNeg (bp (aB A) (s + i) 1) (bp (aB A) (s + i) 2) (nI l) (A.1 m))) := (h.tl (v := nI 0 + bp (aB A) (s + i) 1 - nI 1)).set hd hT (by rw [meTak_1.1]; exact hd)
  unfold tkF
  by_cases c : (bp (aB A) (s + i) 0).toNatClampNeg = m ∧ refu (A.1 m) (bp (aB A) (s + i) 1) (bp (aB A) (s + i) 2)
  · rw [cIf_t c]; exact h1'.tl
  · rw [cIf_f c]; exact h1'
theorem tkR_INV {N m l s k : Nat} {B : Bk} (hmb : m < 64) (hl : l < bL B) (hp : pOk B l k s) (hP : ∀ i, i < k → okP N B l (s + i)) : ∀ (c i : Nat) (A : AW), i + c ≤ k → INV N (N + 1) A → mdA A m → aB A = B → INV N (N + 1) (tkR m (nI l) s i c A)
  | 0, i, A, _, h, _, _ => h
  | c + 1, i, A, hi, h, hd, e => by
    have h1 := tkF_INV (s := s) (i := i) h hmb hd (by rw [e]; exact hl) (by rw [e]; exact hP i (by omega)) (fun x hx => by rw [e] at hx ⊢; exact ⟨k, s, i, hp, by omega, hx⟩)
    have hb := tkF_bk (m := m) (l := nI l) (s := s) (A := A) (i := i)
    exact tkR_INV hmb hl hp hP c (i + 1) (tkF m (nI l) s A i) (by omega) h1 (by unfold mdA; rw [hb.2.1]; exact hd) (hb.1.trans e)
theorem rspA_INV {N m l : Nat} {A : AW} (h : INV N N A) (hmb : m < 64) (hd : mdA A m) (hl : l < bL (aB A)) (hlb : bL (aB A) + 1 ≤ 1200) (hpb : bP (aB A) + 64 ≤ 20000) : INV N N (rspA A m l).1 := by
  obtain ⟨k, s, -, ⟨f, hf, ef⟩, ⟨t, ht, et⟩, ha, h2, -⟩ := h.1.2.2.1 l hl
  have hpk := fun wh => pkL_le A m wh
  have fN : isN (bl (aB A) l 1) := Or.inr ⟨f, hf, ef⟩
  have fne : ¬ bl (aB A) l 1 = -1 := by rw [ef]; exact oI_some_ne (by omega)
  have toA : ¬ bl (aB A) l 3 = -1 → ∃ t, t < 64 ∧ bl (aB A) l 3 = nI t := fun q => ha.resolve_left q
  unfold rspA
  split
  · exact sndA_INV h hmb hd hlb (by have := hpk (isFl (nI 3)); omega) ⟨f, hf, ef⟩ ha (fun q => absurd q (by decide))
  · split
    · rename_i c2
      exact sndA_INV h hmb hd hlb (by have := hpk (isFl (nI 1)); omega) (toA (h2 c2)) fN (fun q => absurd q (by decide))
    · split
      · split
        · exact h.set hd (okMm_ans (h.m hmb hd)) (by rw [meAns_1.1]; exact hd)
        · rename_i c3
          exact sndA_INV h hmb hd hlb (by have := hpk (isFl (nI 4)); omega) (toA c3) fN (fun q => absurd q (by decide))
      · split
        · exact h.set hd (okMm_ans (h.m hmb hd)) (by rw [meAns_1.1]; exact hd)
        · split
          · exact sndA_INV h hmb hd hlb (by have := hpk (isFl (nI 6)); omega) ⟨f, hf, ef⟩ isN_m1 (fun q => absurd q (by decide))
          · exact h
theorem brA_INV {N l f t k s : Nat} {A : AW} (h : INV N N A) (hl : l < bL (aB A)) (h0 : bl (aB A) l 5 = nI 0) (hp : pOk (aB A) l k s) (ht : t < 64) (hlb : bL (aB A) + 1 ≤ 1200) (hpb : bP (aB A) + 64 ≤ 20000) : INV (N + 1) (N + 1) (brA A l f t k s).1 := by
  unfold brA
  by_cases c : upA A t ∧ ¬ tb (A.2.2.1 f) t
  · rw [cIf_t c]
    have hed := okB_ed h.1 hl h0
    have h1 : INV N (N + 1) (aBk A (edB (aB A) l)) := (h.bk hed (Nat.le_refl _) (fun _ _ _ q => hasQ_ed q)).up (by omega)
    obtain ⟨k', s', q1, -, -, -, -, -, q7⟩ := hed.2.2.1 l hl
    obtain ⟨rfl, rfl⟩ := pOk_uni h.1.2.1 hp (show pOk (aB A) l k' s' from ⟨q1.1, by have := q1.2.1; have e : bl (edB (aB A) l) l 4 = bl (aB A) l 4 := if_neg (fun q => by cases q.2); rw [← e]; exact this, by have := q1.2.2.1; have e : bl (edB (aB A) l) l 7 = bl (aB A) l 7 := if_neg (fun q => by cases q.2); rw [← e]; exact this, q1.2.2.2⟩)
    have h2 := tkR_INV (N := N) (B := edB (aB A) l) ht hl q1 q7 k' 0 (aBk A (edB (aB A) l)) (by omega) h1 c.1.1 rfl
    have hb := tkR_bk (m := t) (l := nI l) (s := s') k' 0 (aBk A (edB (aB A) l))
    refine rspA_INV (h2.upN (by omega)) ht (by unfold mdA; rw [hb.2.1]; exact c.1.1) ?_ ?_ ?_
    · rw [hb.1]; exact hl
    · rw [hb.1]; exact hlb
    · rw [hb.1]; exact hpb
  · rw [cIf_f c]
    exact ((h.bk (okB_ex h.1 hl h0) (Nat.le_refl _) (fun _ _ _ q => hasQ_ex q)).up (by omega)).upN (by omega)
