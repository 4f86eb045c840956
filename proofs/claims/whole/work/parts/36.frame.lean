section PSQ
variable {M : MI} {pc q : Nat} {L : PLoc} {st : List Value} {ad : Nm → Nat} {g : Sg} {Q : Option Value → PH → Prop} {n : Nm}
theorem ps_callVq {idx ci : Nat} {N : MI} {As fs : List Value} {S0 : List Value} {Q1 : Option Value → (Nm → Nat) → Sg → Prop} (hd : decode (mC M) pc = .ok (.invokevirtual idx, 3)) (hl : linkV (mY M).cls idx N) (hn : al g n) (hc : cell ad g n = .inr (ci, fs)) (hcl : (vwCl[ci]?).map (fun q => q.1) = some (mY N).cls) (hS : S0 = As.reverse ++ .ref (ad n) :: st) (hE : PP N 0 (ent N (.ref (ad n) :: As)) [] (Rel ad g) (PQ Q1)) (hnp : As.length = mNp N) (hcat : (st.map fun v => v.category).sum ≤ 8) (hfr : mFr N + 1 ≤ mFr M) (hlc : 8 + (mL N + 11) + mLc N ≤ mLc M) (hel : (entL (.ref (ad n) :: As)).length ≤ mL N) (hp : pc + 3 = q) (kk : ∀ v ad' g', Q1 v ad' g' → PP M q L (v.toList ++ st) (Rel ad' g') Q) : PP M pc L S0 (Rel ad g) Q :=
  pp_callV (b := ad n) (ci := ci) (As := As) (Q1 := PQ Q1) hd hl (fun G hG => ⟨fs, by rw [hG.c hn, hc]⟩) hcl hnp hcat hfr hlc hel hS hE hp (fun v G hG => by
    obtain ⟨ad', g', h1, h2⟩ := hG
    exact kk v ad' g' h2 G h1)
end PSQ
/-! what an act may change of the store: its world; what it costs -/
def wA (w : Nat) : Nm → Prop := fun n => n.2.1 = w ∧ 10 ≤ n.1 ∧ n.1 ≤ 36
theorem wS_A {w : Nat} {n : Nm} (h : wS w n) : wA w n := ⟨h.1, h.2.1, h.2.2.1⟩
def phi (r N : Nat) : Nat := if N < mstN r * wdN r then 2 * N else 3 * (mstN r * wdN r)
def bdM (F : Nm → Bool) (w : Nat) : Nat → Nat
  | 0 => 0
  | k + 1 => bdM F w k + (if F (30, w, k) = true then 0 else 400)
def bdR (N : Nm → Nat) (w r : Nat) : Nat := 3 * (mstN r * wdN r) - phi r (N (21, w, r))
def Bd (g : Sg) (w : Nat) : Nat := bdR (gN g) w 0 + bdR (gN g) w 1 + bdR (gN g) w 2 + bdM (gF g) w 64
def EqW (w : Nat) (ad : Nm → Nat) (g : Sg) (ad' : Nm → Nat) (g' : Sg) : Prop := (∀ n, al g n → al g' n) ∧ (∀ n, al g n → n.1 ≠ 21 → ad' n = ad n) ∧ (∀ n, ¬ wA w n → gI g' n = gI g n ∧ gJ g' n = gJ g n ∧ gA g' n = gA g n ∧ gB g' n = gB g n ∧ gN g' n = gN g n ∧ gF g' n = gF g n) ∧ gF g' (10, w, 0) = gF g (10, w, 0) ∧ (gU g' + Bd g' w ≤ gU g + Bd g w ∧ 16 * gZ g' + gU g ≤ 16 * gZ g + gU g')
theorem EqW.rf {w : Nat} {ad : Nm → Nat} {g : Sg} : EqW w ad g ad g := ⟨fun _ h => h, fun _ _ _ => rfl, fun _ _ => ⟨rfl, rfl, rfl, rfl, rfl, rfl⟩, rfl, Nat.le_refl _, Nat.le_refl _⟩
theorem EqW.tr {w : Nat} {ad ad' ad'' : Nm → Nat} {g g' g'' : Sg} (h : EqW w ad g ad' g') (h' : EqW w ad' g' ad'' g'') : EqW w ad g ad'' g'' := by
  obtain ⟨a1, a2, a3, a4, a5, a6⟩ := h
  obtain ⟨b1, b2, b3, b4, b5, b6⟩ := h'
  refine ⟨fun n hn => b1 n (a1 n hn), fun n hn hk => (b2 n (a1 n hn) hk).trans (a2 n hn hk), fun n hn => ?_, b4.trans a4, by omega, by omega⟩
  obtain ⟨c1, c2, c3, c4, c5, c6⟩ := a3 n hn
  obtain ⟨d1, d2, d3, d4, d5, d6⟩ := b3 n hn
  exact ⟨d1.trans c1, d2.trans c2, d3.trans c3, d4.trans c4, d5.trans c5, d6.trans c6⟩
theorem EqX.W {S : Nm → Prop} {w : Nat} {ad : Nm → Nat} {g g' : Sg} (h : EqX S g g') (hS : ∀ n, S n → wA w n) : EqW w ad g ad g' := by
  obtain ⟨a1, a2, a3, a4, a5⟩ := h
  refine ⟨fun n hn => by unfold al; rw [a3]; exact hn, fun _ _ _ => rfl, fun n hn => ?_, by rw [a3], ?_, ?_⟩
  · obtain ⟨c1, c2, c3, c4⟩ := a1 n (fun q => hn (hS n q))
    exact ⟨c1, c2, c3, c4, by rw [a2], by rw [a3]⟩
  · unfold Bd; rw [a2, a3, a5]; exact Nat.le_refl _
  · rw [a4, a5]; exact Nat.le_refl _
theorem EqX.w {w : Nat} {ad : Nm → Nat} {g g' : Sg} (h : EqX (wS w) g g') : EqW w ad g ad g' := h.W (fun _ q => wS_A q)
/-- an array of rows that may have grown -/
def GrX (w r : Nat) (g g' : Sg) : Prop := gI g' = gI g ∧ gJ g' = gJ g ∧ gB g' = gB g ∧ gF g' = gF g ∧ (∀ n, n ≠ (21, w, r) → gA g' n = gA g n ∧ gN g' n = gN g n) ∧ gN g (21, w, r) ≤ gN g' (21, w, r) ∧ gN g' (21, w, r) ≤ mstN r * wdN r ∧ ∀ j, j < gN g (21, w, r) → gA g' (21, w, r) j = gA g (21, w, r) j
theorem phi_le {r N k : Nat} (h1 : N < k) (h2 : k ≤ mstN r * wdN r) (h3 : 2 * N ≤ k ∨ k = mstN r * wdN r) : phi r N + k ≤ phi r k ∧ phi r k ≤ 3 * (mstN r * wdN r) := by
  unfold phi
  rw [if_pos (by omega)]
  split <;> omega
theorem phi_b {r N : Nat} : phi r N ≤ 3 * (mstN r * wdN r) := by
  unfold phi
  split <;> omega
theorem Grew.X {ad ad' : Nm → Nat} {g g' : Sg} {w r nd : Nat} (h : Grew ad g ad' g' w r nd) (hr : r < 3) (hc : gN g (21, w, r) ≤ mstN r * wdN r) (hp : 16 ≤ gN g (21, w, r)) : EqW w ad g ad' g' ∧ GrX w r g g' ∧ nd ≤ gN g' (21, w, r) := by
  rcases h with ⟨rfl, rfl, h⟩ | ⟨k, f, h1, h2, h3, h4, h5, rfl, rfl⟩
  · exact ⟨EqW.rf, ⟨rfl, rfl, rfl, rfl, fun _ _ => ⟨rfl, rfl⟩, Nat.le_refl _, hc, fun _ _ => rfl⟩, h⟩
  · have eN : gN (grG g w r k f) (21, w, r) = k := up3_eq
    have eA : gA (grG g w r k f) (21, w, r) = f := up3_eq
    have eN' : ∀ n, n ≠ (21, w, r) → gN (grG g w r k f) n = gN g n := fun n hn => up3_ne hn
    have eA' : ∀ n, n ≠ (21, w, r) → gA (grG g w r k f) n = gA g n := fun n hn => up3_ne hn
    have eU : gU (grG g w r k f) = gU g + k := rfl
    have eZ : gZ (grG g w r k f) = gZ g + 1 := rfl
    refine ⟨⟨fun n hn => hn, fun n hn hk => up3_ne (fun e => hk (by rw [e])), fun n hn => ?_, rfl, ?_, ?_⟩, ⟨rfl, rfl, rfl, rfl, fun n hn => ⟨eA' n hn, eN' n hn⟩, by rw [eN]; omega, by rw [eN]; exact h3, fun j hj => by rw [eA]; exact h5 j hj⟩, by rw [eN]; exact h2⟩
    · have hne : n ≠ (21, w, r) := fun e => hn (by rw [e]; exact ⟨rfl, by show 10 ≤ 21; omega, by show 21 ≤ 36; omega⟩)
      exact ⟨rfl, rfl, eA' n hne, rfl, eN' n hne, rfl⟩
    · have hp := phi_le (r := r) (by omega : gN g (21, w, r) < k) h3 h4
      have hF : gF (grG g w r k f) = gF g := rfl
      have hoth : ∀ r', r' ≠ r → bdR (gN (grG g w r k f)) w r' = bdR (gN g) w r' := fun r' hne => by unfold bdR; rw [eN' _ (fun e => hne (by cases e; rfl))]
      have hme : bdR (gN (grG g w r k f)) w r + k ≤ bdR (gN g) w r := by unfold bdR; rw [eN]; omega
      unfold Bd
      rw [eU, hF]
      obtain rfl | rfl | rfl : r = 0 ∨ r = 1 ∨ r = 2 := by omega
      · rw [hoth 1 (by omega), hoth 2 (by omega)]; omega
      · rw [hoth 0 (by omega), hoth 2 (by omega)]; omega
      · rw [hoth 0 (by omega), hoth 1 (by omega)]; omega
    · rw [eZ, eU]; omega
theorem GrX.okE {g g' : Sg} {w r : Nat} (h : GrX w r g g') (hb : mstN r * wdN r ≤ 100000) {w' r' n : Nat} (hR : rOk g w' r' n) : rOk g' w' r' n := by
  obtain ⟨a1, a2, a3, a4, a5, a6, a7, a8⟩ := h
  obtain ⟨b1, b2, b3, b4⟩ := hR
  refine ⟨b1, by rw [a1]; exact b2, ?_, ?_⟩
  · by_cases e : ((21, w', r') : Nm) = (21, w, r)
    · cases e; omega
    · rw [(a5 _ e).2]; exact b3
  · by_cases e : ((21, w', r') : Nm) = (21, w, r)
    · cases e; omega
    · rw [(a5 _ e).2]; exact b4
theorem GrX.rvE {g g' : Sg} {w r : Nat} (h : GrX w r g g') {w' r' n i j : Nat} (hR : rOk g w' r' n) (hi : i < n) (hj : j < wdN r') : rv g' w' r' i j = rv g w' r' i j := by
  obtain ⟨a1, a2, a3, a4, a5, a6, a7, a8⟩ := h
  obtain ⟨b1, b2, b3, b4⟩ := hR
  unfold rv
  by_cases e : ((21, w', r') : Nm) = (21, w, r)
  · have hlt : i * wdN r' + j < n * wdN r' := idx_lt hi hj
    cases e
    exact a8 _ (by omega)
  · rw [(a5 _ e).1]
theorem GrX.RBE {g g' : Sg} {w r w' : Nat} {B : Bk} (h : GrX w r g g') (hb : mstN r * wdN r ≤ 100000) (hB : RB g w' B) : RB g' w' B := by
  obtain ⟨b1, b2, b3, b4, b5, b6⟩ := hB
  refine ⟨h.okE hb b1, h.okE hb b2, by rw [h.1]; exact b3, by rw [h.1]; exact b4, fun l c hl hc => ?_, fun q c hq hc => ?_⟩
  · rw [h.rvE b1 hl hc]; exact b5 l c hl hc
  · rw [h.rvE b2 hq hc]; exact b6 q c hq hc
theorem GrX.RME {g g' : Sg} {w r w' m : Nat} {M : Me} (h : GrX w r g g') (hM : RM g w' m M) : RM g' w' m M := by
  obtain ⟨a1, a2, a3, a4, a5, a6, a7, a8⟩ := h
  obtain ⟨b1, b2, b3, b4, ⟨n, c1, c2, c3⟩, b6⟩ := hM
  have ea : ∀ k a b, k ≠ 21 → gA g' (k, a, b) = gA g (k, a, b) := fun k a b hk => (a5 _ (fun e => hk (by cases e; rfl))).1
  refine ⟨by unfold al; rw [a4]; exact b1, by rw [a1]; exact b2, by rw [a2]; exact b3, fun k h1 h2 => by rw [ea _ _ _ (by omega)]; exact b4 k h1 h2, ⟨n, c1, c2, by rw [ea _ _ _ (by omega)]; exact c3⟩, b6⟩
theorem GrX.RWE {g g' : Sg} {w r w' : Nat} {A : AW} (h : GrX w r g g') (hb : mstN r * wdN r ≤ 100000) (hA : RW g w' A) : RW g' w' A := by
  obtain ⟨h1, h2, h3, h4, h5, h6, h7⟩ := hA
  have hB := h.RBE hb h2
  have hM := fun m M hM => @GrX.RME g g' w r w' m M h hM
  obtain ⟨a1, a2, a3, a4, a5, a6, a7, a8⟩ := h
  have ea : ∀ k a b, k ≠ 21 → gA g' (k, a, b) = gA g (k, a, b) := fun k a b hk => (a5 _ (fun e => hk (by cases e; rfl))).1
  refine ⟨by unfold al; rw [a4]; exact h1, hB, by rw [a1]; exact h3, by rw [a3]; exact h4, by rw [ea _ _ _ (by omega)]; exact h5, fun m hm hd => hM m _ (h6 m hm hd), fun m hm hd ha => ?_⟩
  obtain ⟨c1, c2⟩ := h7 m hm hd (by unfold al at ha; rw [a4] at ha; exact ha)
  exact ⟨by rw [a1]; exact c1, fun k j x y hj => by rw [ea _ _ _ (by omega)]; exact c2 k j x y hj⟩
/-! the acts -/
abbrev Act : Type := Int32 × Int32 × Int32 × Int64
def hiS (s : Int64) : Int32 := (s.toUInt64 >>> ((nI 32).toInt64.toUInt64 &&& Int64.toUInt64 63)).toInt64.toInt32
def colA (h : Act) (c : Nat) : Int32 := match c with
  | 0 => h.1
  | 1 => h.2.1
  | 2 => h.2.2.1
  | 3 => hiS h.2.2.2
  | _ => h.2.2.2.toInt32
def RA (g : Sg) (w : Nat) (H : List Act) : Prop := rOk g w 2 H.length ∧ ∀ i h c, H[i]? = some h → c < 5 → rv g w 2 i c = colA h c
def Cp (g : Sg) (w : Nat) : Prop := ∀ r, r < 3 → 16 * wdN r ≤ gN g (21, w, r) ∧ gN g (21, w, r) ≤ mstN r * wdN r
def RX (g : Sg) (w : Nat) (A : AW) (H : List Act) : Prop := RW g w A ∧ RA g w H ∧ Cp g w
theorem lt_of_getE {α : Type} {l : List α} {i : Nat} {x : α} (h : l[i]? = some x) : i < l.length := by
  rcases Nat.lt_or_ge i l.length with h1 | h1
  · exact h1
  · rw [List.getElem?_eq_none h1] at h; cases h
theorem mst_b1 {r : Nat} (hr : r < 3) : mstN r * wdN r ≤ 100000 := by have := (mstN_b r).2.1; omega
theorem wdN_pos {r : Nat} (hr : r < 3) : 1 ≤ wdN r := by
  obtain rfl | rfl | rfl : r = 0 ∨ r = 1 ∨ r = 2 := by omega
  all_goals exact Nat.le_of_ble_eq_true rfl
theorem GrX.AE {g g' : Sg} {w r w' : Nat} {H : List Act} (h : GrX w r g g') (hr : r < 3) (hA : RA g w' H) : RA g' w' H := ⟨h.okE (mst_b1 hr) hA.1, fun i x c hx hc => by rw [h.rvE hA.1 (lt_of_getE hx) hc]; exact hA.2 i x c hx hc⟩
theorem GrX.CpE {g g' : Sg} {w r w' : Nat} (h : GrX w r g g') (hC : Cp g w') : Cp g' w' := by
  obtain ⟨a1, a2, a3, a4, a5, a6, a7, a8⟩ := h
  intro r' hr'
  have := hC r' hr'
  by_cases e : ((21, w', r') : Nm) = (21, w, r)
  · cases e; omega
  · rw [(a5 _ e).2]; exact this
theorem GrX.RXE {g g' : Sg} {w r w' : Nat} {A : AW} {H : List Act} (h : GrX w r g g') (hr : r < 3) (hX : RX g w' A H) : RX g' w' A H := ⟨h.RWE (mst_b1 hr) hX.1, h.AE hr hX.2.1, h.CpE hX.2.2⟩
/-- an act's work leaves the acts -/
theorem RX.of {g g' : Sg} {w : Nat} {A A' : AW} {H : List Act} (hX : RX g w A H) (hA : RW g' w A') (he : EqX (wS w) g g') : RX g' w A' H := by
  have h20 : ¬ wS w (20, w, 2) := fun h => by have := h.2.2.2; simp at this
  have h21 : ¬ wS w (21, w, 2) := fun h => by have := h.2.2.2; simp at this
  refine ⟨hA, ⟨⟨hX.2.1.1.1, ?_, ?_, ?_⟩, fun i h c hh hc => ?_⟩, fun r hr => ?_⟩
  · rw [(he.1 _ h20).1]; exact hX.2.1.1.2.1
  · rw [he.2.1]; exact hX.2.1.1.2.2.1
  · rw [he.2.1]; exact hX.2.1.1.2.2.2
  · unfold rv; rw [(he.1 _ h21).2.2.1]; exact hX.2.1.2 i h c hh hc
  · rw [he.2.1]; exact hX.2.2 r hr
/-- rows of the acts leave the world -/
theorem RW_acts {g g' : Sg} {w : Nat} {A : AW} (h : RW g w A) (he : EqX (fun n => n = (20, w, 2) ∨ n = (21, w, 2)) g g') : RW g' w A := by
  obtain ⟨h1, h2, h3, h4, h5, h6, h7⟩ := h
  have q : ∀ k a b, (k ≠ 20 ∧ k ≠ 21 ∨ b ≠ 2) → ¬ (fun n : Nm => n = (20, w, 2) ∨ n = (21, w, 2)) (k, a, b) := fun k a b hk hb => by rcases hb with e | e <;> cases e <;> omega
  have hb : RB g' w (aB A) := by
    obtain ⟨b1, b2, b3, b4, b5, b6⟩ := h2
    have r : ∀ r n, r ≠ 2 → rOk g w r n → rOk g' w r n := fun r n hne hr => ⟨hr.1, by rw [(he.1 (20, w, r) (q _ _ _ (by omega))).1]; exact hr.2.1, by rw [he.2.1]; exact hr.2.2.1, by rw [he.2.1]; exact hr.2.2.2⟩
    refine ⟨r _ _ (by omega) b1, r _ _ (by omega) b2, ?_, ?_, fun l c hl hc => ?_, fun p c hp hc => ?_⟩
    · rw [(he.1 (13, w, 0) (q _ _ _ (by omega))).1]; exact b3
    · rw [(he.1 (13, w, 0) (q _ _ _ (by omega))).1]; exact b4
    · unfold rv; rw [(he.1 (21, w, 0) (q _ _ _ (by omega))).2.2.1]; exact b5 l c hl hc
    · unfold rv; rw [(he.1 (21, w, 1) (q _ _ _ (by omega))).2.2.1]; exact b6 p c hp hc
  refine ⟨he.al' h1, hb, ?_, ?_, ?_, fun m hm hd => (h6 m hm hd).eqx he (fun k a b => q k w m (by omega)), fun m hm hd ha => ?_⟩
  · rw [(he.1 (10, w, 0) (q _ _ _ (by omega))).1]; exact h3
  · intro a ha; rw [(he.1 (12, w, 0) (q _ _ _ (by omega))).2.2.2]; exact h4 a ha
  · intro k hk; rw [(he.1 (14, w, 0) (q _ _ _ (by omega))).2.2.1]; exact h5 k hk
  · obtain ⟨c1, c2⟩ := h7 m hm hd (he.al2 ha)
    refine ⟨by rw [(he.1 (30, w, m) (q _ _ _ (by omega))).1]; exact c1, fun k j a b hj => ?_⟩
    rw [(he.1 (k, w, m) (q _ _ _ (by omega))).2.2.1]
    exact c2 k j a b hj
/-- other worlds stay -/
theorem EqW.rx {w w' : Nat} {ad ad' : Nm → Nat} {g g' : Sg} {A : AW} {H : List Act} (h : EqW w ad g ad' g') (hw : w' ≠ w) (hX : RX g w' A H) : RX g' w' A H := by
  obtain ⟨a1, a2, a3, -⟩ := h
  have q : ∀ k b, ¬ wA w (k, w', b) := fun k b hb => hw hb.1
  have eI : ∀ k b, gI g' (k, w', b) = gI g (k, w', b) := fun k b => (a3 _ (q k b)).1
  have eJ : ∀ k b, gJ g' (k, w', b) = gJ g (k, w', b) := fun k b => (a3 _ (q k b)).2.1
  have eA : ∀ k b, gA g' (k, w', b) = gA g (k, w', b) := fun k b => (a3 _ (q k b)).2.2.1
  have eB : ∀ k b, gB g' (k, w', b) = gB g (k, w', b) := fun k b => (a3 _ (q k b)).2.2.2.1
  have eN : ∀ k b, gN g' (k, w', b) = gN g (k, w', b) := fun k b => (a3 _ (q k b)).2.2.2.2.1
  have eF : ∀ k b, gF g' (k, w', b) = gF g (k, w', b) := fun k b => (a3 _ (q k b)).2.2.2.2.2
  obtain ⟨⟨h1, h2, h3, h4, h5, h6, h7⟩, hR, hC⟩ := hX
  have r : ∀ r n, rOk g w' r n → rOk g' w' r n := fun r n hr => ⟨hr.1, by rw [eI]; exact hr.2.1, by rw [eN]; exact hr.2.2.1, by rw [eN]; exact hr.2.2.2⟩
  have hb : RB g' w' (aB A) := by
    obtain ⟨b1, b2, b3, b4, b5, b6⟩ := h2
    exact ⟨r _ _ b1, r _ _ b2, by rw [eI]; exact b3, by rw [eI]; exact b4, fun l c hl hc => by unfold rv; rw [eA]; exact b5 l c hl hc, fun p c hp hc => by unfold rv; rw [eA]; exact b6 p c hp hc⟩
  refine ⟨⟨a1 _ h1, hb, by rw [eI]; exact h3, by rw [eB]; exact h4, by rw [eA]; exact h5, fun m hm hd => ?_, fun m hm hd ha => ?_⟩, ⟨r _ _ hR.1, fun i x c hx hc => by unfold rv; rw [eA]; exact hR.2 i x c hx hc⟩, fun r hr => by rw [eN]; exact hC r hr⟩
  · obtain ⟨b1, b2, b3, b4, ⟨n, c1, c2, c3⟩, b6⟩ := h6 m hm hd
    exact ⟨a1 _ b1, by rw [eI]; exact b2, by rw [eJ]; exact b3, fun k x y => by rw [eA]; exact b4 k x y, ⟨n, c1, c2, by rw [eA]; exact c3⟩, b6⟩
  · have ha' : al g (30, w', m) := by have := ha.1; exact ⟨by rw [← this]; exact (eF 30 m).symm, ha.2⟩
    obtain ⟨c1, c2⟩ := h7 m hm hd ha'
    exact ⟨by rw [eI]; exact c1, fun k j a b hj => by rw [eA]; exact c2 k j a b hj⟩
theorem EqW.bd {w w' : Nat} {ad ad' : Nm → Nat} {g g' : Sg} (h : EqW w ad g ad' g') (hw : w' ≠ w) : Bd g' w' = Bd g w' := by
  obtain ⟨a1, a2, a3, -⟩ := h
  have q : ∀ k b, ¬ wA w (k, w', b) := fun k b hb => hw hb.1
  have e : ∀ r, bdR (gN g') w' r = bdR (gN g) w' r := fun r => by unfold bdR; rw [(a3 _ (q 21 r)).2.2.2.2.1]
  have e2 : ∀ k, bdM (gF g') w' k = bdM (gF g) w' k := fun k => by
    induction k with
    | zero => rfl
    | succ k ih => unfold bdM; rw [ih, (a3 _ (q 30 k)).2.2.2.2.2]
  unfold Bd
  rw [e, e, e, e2]
