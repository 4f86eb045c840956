/-! what holds of every world that acts have made -/
def isN (x : Int32) : Prop := x = -1 ∨ ∃ i, i < 64 ∧ x = nI i
def tmB (N : Nat) (x : Int32) : Prop := ∃ t, t ≤ N ∧ x = nI t
theorem tmB.mono {N P : Nat} {x : Int32} (h : tmB N x) (hP : N ≤ P) : tmB P x := by
  obtain ⟨t, h1, h2⟩ := h
  exact ⟨t, by omega, h2⟩
def hasQ (B : Bk) (l x : Nat) : Prop := ∃ k s i, pOk B l k s ∧ i < k ∧ bp B (s + i) 0 = nI x
def okP (N : Nat) (B : Bk) (l p : Nat) : Prop := ∃ x kd, x < 64 ∧ bp B p 0 = nI x ∧ 1 ≤ kd ∧ kd ≤ 4 ∧ bp B p 1 = nI kd ∧ tmB N (bp B p 2) ∧ (bp B p 3 = -1 ∨ ∃ l', l' < l ∧ bp B p 3 = nI l' ∧ hasQ B l' x)
def okL (N : Nat) (B : Bk) (l : Nat) : Prop := ∃ k s, pOk B l k s ∧ (∃ f, f < 64 ∧ bl B l 1 = nI f) ∧ (∃ t, t < 64 ∧ bl B l 2 = nI t) ∧ isN (bl B l 3) ∧ (bl B l 0 = nI 2 → ¬ bl B l 3 = -1) ∧ (bl B l 5 = nI 0 ∨ bl B l 5 = nI 1 ∨ bl B l 5 = nI 2) ∧ ∀ i, i < k → okP N B l (s + i)
def stN (B : Bk) (v : Nat) : Nat := (sel (fun l => decide (bl B l 5 = nI v)) (bL B)).length
def okB (N : Nat) (B : Bk) : Prop := bL B ≤ 1200 ∧ bP B ≤ 20000 ∧ (∀ l, l < bL B → okL N B l) ∧ bD B = stN B 1 ∧ bX B = stN B 2
def okR (B : Bk) (P x : Nat) (M : Me) : Prop := (∃ kd, kd ≤ 4 ∧ M.2.2 31 x = nI kd) ∧ (M.2.2 31 x = nI 0 → M.2.2 32 x = nI 0) ∧ tmB P (M.2.2 32 x) ∧ (M.2.2 35 x = -1 ∨ M.2.2 31 x = nI 0 ∨ ∃ l, l < bL B ∧ M.2.2 35 x = nI l ∧ hasQ B l x)
def okMm (P : Nat) (B : Bk) (m : Nat) (M : Me) : Prop := (∃ st, st ≤ 2 ∧ M.1 2 = nI st) ∧ tmB P (M.1 4) ∧ isN (M.1 6) ∧ isN (M.1 7) ∧ wfR m M ∧ ∀ x, x < 64 → okR B P x M
def cntM (F : Nat → Me) : Nat := (sel (fun m => decide ((F m).1 1 = nI 1)) 64).length
def okMs (P : Nat) (B : Bk) (F : Nat → Me) : Prop := ∀ m, m < 64 → (F m).1 1 = nI 1 → okMm P B m (F m)
def symC (c : Nat → Int64) : Prop := ∀ i j, i < 64 → j < 64 → (tb (c i) j ↔ tb (c j) i)
def INV (N P : Nat) (A : AW) : Prop := okB N (aB A) ∧ okMs P (aB A) A.1 ∧ A.2.1 = cntM A.1 ∧ symC A.2.2.1
theorem sel_eq {c c' : Nat → Bool} : ∀ {n : Nat}, (∀ i, i < n → c' i = c i) → sel c' n = sel c n
  | 0, _ => rfl
  | n + 1, h => by
    rw [sel_s, sel_s, h n (by omega), sel_eq (fun i hi => h i (by omega))]
theorem sel_up {c c' : Nat → Bool} {l : Nat} (h1 : c l = false) (h2 : c' l = true) (h : ∀ i, i ≠ l → c' i = c i) : ∀ n, (sel c' n).length = (sel c n).length + (if l < n then 1 else 0)
  | 0 => rfl
  | n + 1 => by
    have ih := sel_up h1 h2 h n
    rw [sel_s, sel_s]
    by_cases e : n = l
    · subst e
      rw [h1, h2]
      simp only [if_true, List.length_append, List.length_singleton]
      rw [ih, if_neg (Nat.lt_irrefl n), if_pos (Nat.lt_succ_self n), if_neg (by decide : ¬ false = true)]
    · rw [h n e]
      have e2 : (if l < n + 1 then 1 else 0) = (if l < n then 1 else 0) := by
        by_cases q : l < n
        · rw [if_pos q, if_pos (by omega)]
        · rw [if_neg q, if_neg (by omega)]
      rw [e2]
      split
      · rw [List.length_append, List.length_append, ih]; omega
      · exact ih
theorem INV.tr {N P : Nat} {A : AW} {f : Nat → Int32} (h : INV N P A) : INV N P (aTr A f) := h
theorem INV.tl {N P : Nat} {A : AW} {v : Int32} (h : INV N P A) : INV N P (tlA A v) := h
theorem okR.up {B B' : Bk} {P P' x : Nat} {M : Me} (h : okR B P x M) (hP : P ≤ P') (hb : bL B ≤ bL B') (hq : ∀ l x, l < bL B → hasQ B l x → hasQ B' l x) : okR B' P' x M := by
  obtain ⟨h1, h2, h3, h4⟩ := h
  refine ⟨h1, h2, h3.mono hP, ?_⟩
  rcases h4 with h | h | ⟨l, a, b, c⟩
  · exact Or.inl h
  · exact Or.inr (Or.inl h)
  · exact Or.inr (Or.inr ⟨l, by omega, b, hq l x a c⟩)
theorem okMm.up {B B' : Bk} {P P' m : Nat} {M : Me} (h : okMm P B m M) (hP : P ≤ P') (hb : bL B ≤ bL B') (hq : ∀ l x, l < bL B → hasQ B l x → hasQ B' l x) : okMm P' B' m M := by
  obtain ⟨h1, h2, h3, h4, h5, h6⟩ := h
  exact ⟨h1, h2.mono hP, h3, h4, h5, fun x hx => (h6 x hx).up hP hb hq⟩
theorem INV.bk {N P N' : Nat} {A : AW} {B : Bk} (h : INV N P A) (hB : okB N' B) (hb : bL (aB A) ≤ bL B) (hq : ∀ l x, l < bL (aB A) → hasQ (aB A) l x → hasQ B l x) : INV N' P (aBk A B) := by
  obtain ⟨h1, h2, h3, h4⟩ := h
  exact ⟨hB, fun m hm hd => (h2 m hm hd).up (Nat.le_refl _) hb hq, h3, h4⟩
theorem INV.up {N P P' : Nat} {A : AW} (h : INV N P A) (hP : P ≤ P') : INV N P' A := ⟨h.1, fun m hm hd => (h.2.1 m hm hd).up hP (Nat.le_refl _) (fun _ _ _ q => q), h.2.2⟩
theorem okP.up {N N' : Nat} {B : Bk} {l p : Nat} (h : okP N B l p) (hN : N ≤ N') : okP N' B l p := by
  obtain ⟨x, kd, h1, h2, h3, h4, h5, h6, h7⟩ := h
  exact ⟨x, kd, h1, h2, h3, h4, h5, h6.mono hN, h7⟩
theorem okB.up {N N' : Nat} {B : Bk} (h : okB N B) (hN : N ≤ N') : okB N' B := by
  obtain ⟨h1, h2, h3, h4⟩ := h
  refine ⟨h1, h2, fun l hl => ?_, h4⟩
  obtain ⟨k, s, a1, a2, a3, a4, a5, a6, a7⟩ := h3 l hl
  exact ⟨k, s, a1, a2, a3, a4, a5, a6, fun i hi => (a7 i hi).up hN⟩
theorem INV.upN {N N' P : Nat} {A : AW} (h : INV N P A) (hN : N ≤ N') : INV N' P A := ⟨h.1.up hN, h.2⟩
theorem INV.m {N P : Nat} {A : AW} (h : INV N P A) {m : Nat} (hm : m < 64) (hd : mdA A m) : okMm P (aB A) m (A.1 m) := h.2.1 m hm hd
theorem INV.set {N P m : Nat} {A : AW} {M : Me} (h : INV N P A) (hd : mdA A m) (hM : okMm P (aB A) m M) (h1 : M.1 1 = nI 1) : INV N P (aSet A m M) := by
  obtain ⟨b1, b2, b3, b4⟩ := h
  refine ⟨b1, fun m' hm' hd' => ?_, ?_, b4⟩
  · by_cases e : m' = m
    · subst e
      rw [aSet_m]
      exact hM
    · rw [aSet_ne e] at hd' ⊢
      exact b2 m' hm' hd'
  · show A.2.1 = cntM (aSet A m M).1
    rw [b3]
    unfold cntM
    refine congrArg List.length (sel_eq (fun i _ => ?_)).symm
    by_cases e : i = m
    · subst e
      rw [aSet_m, h1, show (A.1 i).1 1 = nI 1 from hd]
    · rw [aSet_ne e]
/-! books -/
theorem opB_old {B : Bk} {kind fr to ab cp : Int32} {l c : Nat} (hl : l < bL B) : bl (opB B kind fr to ab cp) l c = bl B l c := by
  show (if l = bL B then _ else bl B l c) = _
  rw [if_neg (by omega)]
theorem hasQ_op {B : Bk} {kind fr to ab cp : Int32} {l x : Nat} (h : hasQ B l x) : hasQ (opB B kind fr to ab cp) l x := by
  obtain ⟨k, s, i, h1, h2, h3⟩ := h
  exact ⟨k, s, i, pOk_op h1, h2, h3⟩
theorem okP_op {N : Nat} {B : Bk} {kind fr to ab cp : Int32} {l p : Nat} (h : okP N B l p) : okP N (opB B kind fr to ab cp) l p := by
  obtain ⟨x, kd, h1, h2, h3, h4, h5, h6, h7⟩ := h
  exact ⟨x, kd, h1, h2, h3, h4, h5, h6, h7.imp id (fun ⟨l', a, b, c⟩ => ⟨l', a, b, hasQ_op c⟩)⟩
def opK (B : Bk) (k : Nat) : Prop := ∃ l s, bL B = l + 1 ∧ pOk B l k s ∧ s + k = bP B
theorem okB_op {N : Nat} {B : Bk} {kind fr to ab cp : Int32} (h : okB N B) (hb : bL B + 1 ≤ 1200) (hf : ∃ f, f < 64 ∧ fr = nI f) (ht : ∃ t, t < 64 ∧ to = nI t) (ha : isN ab) (hk : kind = nI 2 → ¬ ab = -1) : okB N (opB B kind fr to ab cp) ∧ opK (opB B kind fr to ab cp) 0 := by
  obtain ⟨h1, h2, h3, h4, h5⟩ := h
  have hnew : pOk (opB B kind fr to ab cp) (bL B) 0 (bP B) := by
    refine ⟨by show bL B < bL B + 1; omega, ?_, ?_, Nat.le_refl _, by omega⟩
    · show (if bL B = bL B then _ else _) = _
      rw [if_pos rfl]
      rfl
    · show (if bL B = bL B then _ else _) = _
      rw [if_pos rfl]
  have hc : ∀ c, bl (opB B kind fr to ab cp) (bL B) c = (match c with | 0 => kind | 1 => fr | 2 => to | 3 => ab | 4 => 0 | 5 => 0 | 6 => cp | _ => nI (bP B)) := fun c => if_pos rfl
  have hs : ∀ v, v ≠ 0 → v < 3 → stN (opB B kind fr to ab cp) v = stN B v := fun v hv hv3 => by
    unfold stN
    show (sel _ (bL B + 1)).length = _
    rw [sel_s, if_neg]
    · refine congrArg List.length (sel_eq (fun i hi => ?_))
      rw [opB_old hi]
    · rw [hc 5]
      simp only [decide_eq_true_eq]
      obtain rfl | rfl : v = 1 ∨ v = 2 := by omega
      · decide
      · decide
  refine ⟨⟨hb, h2, fun l hl => ?_, ?_, ?_⟩, bL B, bP B, rfl, hnew, rfl⟩
  · by_cases e : l = bL B
    · subst e
      refine ⟨0, bP B, hnew, ?_, ?_, ?_, ?_, ?_, fun i hi => absurd hi (Nat.not_lt_zero i)⟩
      · rw [hc 1]; exact hf
      · rw [hc 2]; exact ht
      · rw [hc 3]; exact ha
      · rw [hc 0, hc 3]; exact hk
      · rw [hc 5]; exact Or.inl rfl
    · have hl' : l < bL B := by have : l < bL B + 1 := hl; omega
      obtain ⟨k, s, a1, a2, a3, a4, a5, a6, a7⟩ := h3 l hl'
      refine ⟨k, s, pOk_op a1, ?_, ?_, ?_, ?_, ?_, fun i hi => okP_op (a7 i hi)⟩
      · rw [opB_old hl']; exact a2
      · rw [opB_old hl']; exact a3
      · rw [opB_old hl']; exact a4
      · rw [opB_old hl', opB_old hl']; exact a5
      · rw [opB_old hl']; exact a6
  · rw [hs 1 (by omega) (by omega)]; exact h4
  · rw [hs 2 (by omega) (by omega)]; exact h5
theorem puB_old {B : Bk} {x kind term br : Int32} {l c : Nat} (h : l + 1 ≠ bL B ∨ c ≠ 4) : bl (puB B x kind term br) l c = bl B l c := by
  show (if l + 1 = bL B ∧ c = 4 then _ else bl B l c) = _
  rw [if_neg (by omega)]
theorem puB_p {B : Bk} {x kind term br : Int32} {p c : Nat} (h : p < bP B) : bp (puB B x kind term br) p c = bp B p c := by
  show (if p = bP B then _ else bp B p c) = _
  rw [if_neg (by omega)]
theorem pOk_last {B : Bk} {x kind term br : Int32} {l k s : Nat} (h : pOk B l k s) (hl : l + 1 = bL B) (hs : s + k = bP B) (hk : k < 64) : pOk (puB B x kind term br) l (k + 1) s := by
  obtain ⟨h1, h2, h3, h4, h5⟩ := h
  refine ⟨h1, ?_, ?_, by show s + (k + 1) ≤ bP B + 1; omega, by omega⟩
  · show (if l + 1 = bL B ∧ 4 = 4 then bl B l 4 + nI 1 else _) = _
    rw [if_pos ⟨hl, rfl⟩, h2, nI_add]
  · rw [puB_old (Or.inr (by omega))]; exact h3
theorem pOk_uni {B : Bk} {l k s k' s' : Nat} (hb : bP B ≤ 20000) (h : pOk B l k s) (h' : pOk B l k' s') : k' = k ∧ s' = s := by
  obtain ⟨-, h2, h3, h4, h5⟩ := h
  obtain ⟨-, g2, g3, g4, g5⟩ := h'
  exact ⟨eqT (g2.symm.trans h2) (by omega) (by omega), eqT (g3.symm.trans h3) (by omega) (by omega)⟩
theorem pOk_puA {B : Bk} {x kind term br : Int32} {l k s k0 : Nat} (hb : bP B ≤ 20000) (ho : opK B k0) (hk : k0 < 64) (h : pOk B l k s) : ∃ k', k ≤ k' ∧ pOk (puB B x kind term br) l k' s ∧ (k' = k ∨ k' = k + 1 ∧ s + k = bP B ∧ l + 1 = bL B) := by
  obtain ⟨l0, s0, e, h0, hs⟩ := ho
  by_cases hl : l + 1 = bL B
  · obtain rfl : l = l0 := by omega
    obtain ⟨rfl, rfl⟩ := pOk_uni hb h0 h
    exact ⟨k + 1, by omega, pOk_last h hl hs hk, Or.inr ⟨rfl, hs, hl⟩⟩
  · exact ⟨k, Nat.le_refl _, pOk_pu h (by have := h.1; omega), Or.inl rfl⟩
theorem hasQ_pu {B : Bk} {x kind term br : Int32} {l y k0 : Nat} (hb : bP B ≤ 20000) (ho : opK B k0) (hk : k0 < 64) (h : hasQ B l y) : hasQ (puB B x kind term br) l y := by
  obtain ⟨k, s, i, h1, h2, h3⟩ := h
  obtain ⟨k', a, b, -⟩ := pOk_puA (x := x) (kind := kind) (term := term) (br := br) hb ho hk h1
  refine ⟨k', s, i, b, by omega, ?_⟩
  rw [puB_p (by have := h1.2.2.2.1; omega)]
  exact h3
theorem okB_pu {N k0 : Nat} {B : Bk} {x kd : Nat} {term br : Int32} (h : okB N B) (ho : opK B k0) (hk : k0 < 64) (hb : bP B + 1 ≤ 20000) (hx : x < 64) (hkd : 1 ≤ kd ∧ kd ≤ 4) (ht : tmB N term) (hbr : br = -1 ∨ ∃ l', l' + 1 < bL B ∧ br = nI l' ∧ hasQ B l' x) : okB N (puB B (nI x) (nI kd) term br) ∧ opK (puB B (nI x) (nI kd) term br) (k0 + 1) := by
  obtain ⟨h1, h2, h3, h4, h5⟩ := h
  have hs : ∀ v, stN (puB B (nI x) (nI kd) term br) v = stN B v := fun v => by
    unfold stN
    refine congrArg List.length (sel_eq (fun i hi => ?_))
    rw [puB_old (Or.inr (by omega))]
  have hq : ∀ l y, hasQ B l y → hasQ (puB B (nI x) (nI kd) term br) l y := fun l y q => hasQ_pu h2 ho hk q
  have hpo : ∀ l p, p < bP B → okP N B l p → okP N (puB B (nI x) (nI kd) term br) l p := fun l p hp q => by
    obtain ⟨x', kd', a1, a2, a3, a4, a5, a6, a7⟩ := q
    refine ⟨x', kd', a1, ?_, a3, a4, ?_, ?_, ?_⟩
    · rw [puB_p hp]; exact a2
    · rw [puB_p hp]; exact a5
    · rw [puB_p hp]; exact a6
    · rw [puB_p hp]; exact a7.imp id (fun ⟨l', a, b, c⟩ => ⟨l', a, b, hq _ _ c⟩)
  have hpn : ∀ l, l + 1 = bL B → okP N (puB B (nI x) (nI kd) term br) l (bP B) := fun l hl => by
    have hc : ∀ c, bp (puB B (nI x) (nI kd) term br) (bP B) c = (match c with | 0 => nI x | 1 => nI kd | 2 => term | _ => br) := fun c => if_pos rfl
    refine ⟨x, kd, hx, hc 0, hkd.1, hkd.2, hc 1, ?_, ?_⟩
    · rw [hc 2]; exact ht
    · rw [hc 3]; exact hbr.imp id (fun ⟨l', a, b, c⟩ => ⟨l', by omega, b, hq _ _ c⟩)
  refine ⟨⟨h1, hb, fun l hl => ?_, by rw [hs]; exact h4, by rw [hs]; exact h5⟩, ?_⟩
  · obtain ⟨k, s, a1, a2, a3, a4, a5, a6, a7⟩ := h3 l hl
    obtain ⟨k', b1, b2, b3⟩ := pOk_puA (x := nI x) (kind := nI kd) (term := term) (br := br) h2 ho hk a1
    have hne : ∀ c, c ≠ 4 → bl (puB B (nI x) (nI kd) term br) l c = bl B l c := fun c hc => puB_old (Or.inr hc)
    refine ⟨k', s, b2, ?_, ?_, ?_, ?_, ?_, fun i hi => ?_⟩
    · rw [hne 1 (by omega)]; exact a2
    · rw [hne 2 (by omega)]; exact a3
    · rw [hne 3 (by omega)]; exact a4
    · rw [hne 0 (by omega), hne 3 (by omega)]; exact a5
    · rw [hne 5 (by omega)]; exact a6
    · by_cases e : i < k
      · exact hpo l (s + i) (by have := a1.2.2.2.1; omega) (a7 i e)
      · rcases b3 with rfl | ⟨rfl, e1, e2⟩
        · exact absurd hi e
        · have : s + i = bP B := by omega
          rw [this]
          exact hpn l e2
  · obtain ⟨l0, s0, e, h0, hs0⟩ := ho
    exact ⟨l0, s0, e, pOk_last h0 (by omega) hs0 hk, by show s0 + (k0 + 1) = bP B + 1; omega⟩
theorem hasQ_st {B B' : Bk} (h1 : B'.1 = B.1) (h2 : ∀ l c, c ≠ 5 → bl B' l c = bl B l c) (h3 : bp B' = bp B) {l x : Nat} (h : hasQ B l x) : hasQ B' l x := by
  obtain ⟨k, s, i, ⟨a1, a2, a3, a4, a5⟩, b, c⟩ := h
  refine ⟨k, s, i, ⟨?_, ?_, ?_, ?_, a5⟩, b, ?_⟩
  · show l < B'.1.1; rw [h1]; exact a1
  · rw [h2 l 4 (by omega)]; exact a2
  · rw [h2 l 7 (by omega)]; exact a3
  · show s + k ≤ B'.1.2; rw [h1]; exact a4
  · rw [h3]; exact c
theorem okB_st {N v : Nat} {B B' : Bk} {l0 : Nat} (h : okB N B) (hl0 : l0 < bL B) (h0 : bl B l0 5 = nI 0) (hv : v = 1 ∨ v = 2) (h1 : B'.1 = B.1) (h2 : ∀ l c, bl B' l c = if l = l0 ∧ c = 5 then nI v else bl B l c) (h3 : bp B' = bp B) (h4 : bD B' = bD B + (if v = 1 then 1 else 0)) (h5 : bX B' = bX B + (if v = 2 then 1 else 0)) : okB N B' := by
  obtain ⟨b1, b2, b3, b4, b5⟩ := h
  have hc : ∀ l c, c ≠ 5 → bl B' l c = bl B l c := fun l c hc => by rw [h2, if_neg (fun q => hc q.2)]
  have hs : ∀ u, u = 1 ∨ u = 2 → stN B' u = stN B u + (if u = v then 1 else 0) := fun u hu => by
    unfold stN
    rw [show bL B' = bL B from congrArg Prod.fst h1]
    by_cases e : u = v
    · subst e
      rw [if_pos rfl]
      have := sel_up (c := fun l => decide (bl B l 5 = nI u)) (c' := fun l => decide (bl B' l 5 = nI u)) (l := l0) (by
        rw [h0]
        rcases hu with rfl | rfl <;> decide) (by
        rw [h2, if_pos ⟨rfl, rfl⟩]
        simp) (fun i hi => by
        rw [h2, if_neg (fun q => hi q.1)]) (bL B)
      rw [this, if_pos hl0]
    · rw [if_neg e, Nat.add_zero]
      refine congrArg List.length (sel_eq (fun i hi => ?_))
      rw [h2]
      by_cases q : i = l0
      · subst q
        rw [if_pos ⟨rfl, rfl⟩, h0]
        rcases hu with rfl | rfl <;> rcases hv with rfl | rfl <;> first | exact absurd rfl e | decide
      · rw [if_neg (fun z => q z.1)]
  have hq : ∀ l x, hasQ B l x → hasQ B' l x := fun l x q => hasQ_st h1 hc h3 q
  refine ⟨?_, ?_, fun l hl => ?_, ?_, ?_⟩
  · show B'.1.1 ≤ _; rw [h1]; exact b1
  · show B'.1.2 ≤ _; rw [h1]; exact b2
  · have hl' : l < bL B := by have : l < B'.1.1 := hl; rw [h1] at this; exact this
    obtain ⟨k, s, ⟨a1, a2, a3, a4, a5⟩, c2, c3, c4, c5, c6, c7⟩ := b3 l hl'
    refine ⟨k, s, ⟨hl, ?_, ?_, ?_, a5⟩, ?_, ?_, ?_, ?_, ?_, fun i hi => ?_⟩
    · rw [hc l 4 (by omega)]; exact a2
    · rw [hc l 7 (by omega)]; exact a3
    · show s + k ≤ B'.1.2; rw [h1]; exact a4
    · rw [hc l 1 (by omega)]; exact c2
    · rw [hc l 2 (by omega)]; exact c3
    · rw [hc l 3 (by omega)]; exact c4
    · rw [hc l 0 (by omega), hc l 3 (by omega)]; exact c5
    · rw [h2]
      split
      · rcases hv with rfl | rfl
        · exact Or.inr (Or.inl rfl)
        · exact Or.inr (Or.inr rfl)
      · exact c6
    · obtain ⟨x, kd, d1, d2, d3, d4, d5, d6, d7⟩ := c7 i hi
      refine ⟨x, kd, d1, ?_, d3, d4, ?_, ?_, ?_⟩
      · rw [h3]; exact d2
      · rw [h3]; exact d5
      · rw [h3]; exact d6
      · rw [h3]; exact d7.imp id (fun ⟨l', a, b, c⟩ => ⟨l', a, b, hq _ _ c⟩)
  · rw [h4, b4, hs 1 (Or.inl rfl)]
    rcases hv with rfl | rfl <;> rfl
  · rw [h5, b5, hs 2 (Or.inr rfl)]
    rcases hv with rfl | rfl <;> rfl
theorem okB_ed {N l : Nat} {B : Bk} (h : okB N B) (hl : l < bL B) (h0 : bl B l 5 = nI 0) : okB N (edB B l) := okB_st h hl h0 (Or.inl rfl) rfl (fun _ _ => rfl) rfl rfl rfl
theorem okB_ex {N l : Nat} {B : Bk} (h : okB N B) (hl : l < bL B) (h0 : bl B l 5 = nI 0) : okB N (exB B l) := okB_st h hl h0 (Or.inr rfl) rfl (fun _ _ => rfl) rfl rfl rfl
theorem hasQ_ed {B : Bk} {l0 l x : Nat} (h : hasQ B l x) : hasQ (edB B l0) l x := hasQ_st (B := B) (B' := edB B l0) rfl (fun l c hc => by show (if l = l0 ∧ c = 5 then _ else _) = _; rw [if_neg (fun q => hc q.2)]) rfl h
theorem hasQ_ex {B : Bk} {l0 l x : Nat} (h : hasQ B l x) : hasQ (exB B l0) l x := hasQ_st (B := B) (B' := exB B l0) rfl (fun l c hc => by show (if l = l0 ∧ c = 5 then _ else _) = _; rw [if_neg (fun q => hc q.2)]) rfl h
