/-- a member: its numbers by their slots, its seed, its rows by their kinds -/
abbrev Me : Type := (Nat → Int32) × Int64 × (Nat → Nat → Int32)
/-- the books: how many letters and pieces; delivered, lost; the letters, the pieces -/
abbrev Bk : Type := (Nat × Nat) × (Nat × Nat) × (Nat → Nat → Int32) × (Nat → Nat → Int32)
/-- a world: members, how many were made, links, traces, books -/
abbrev AW : Type := (Nat → Me) × Nat × (Nat → Int64) × (Nat → Int32) × Bk
abbrev bL (B : Bk) : Nat := B.1.1
abbrev bP (B : Bk) : Nat := B.1.2
abbrev bD (B : Bk) : Nat := B.2.1.1
abbrev bX (B : Bk) : Nat := B.2.1.2
abbrev bl (B : Bk) : Nat → Nat → Int32 := B.2.2.1
abbrev bp (B : Bk) : Nat → Nat → Int32 := B.2.2.2
/-- two stores are the same but for the names of S; nothing is made, no length changes -/
def EqX (S : Nm → Prop) (g g' : Sg) : Prop := (∀ n, ¬ S n → gI g' n = gI g n ∧ gJ g' n = gJ g n ∧ gA g' n = gA g n ∧ gB g' n = gB g n) ∧ gN g' = gN g ∧ gF g' = gF g ∧ gZ g' = gZ g ∧ gU g' = gU g
theorem EqX.rf {S : Nm → Prop} {g : Sg} : EqX S g g := ⟨fun _ _ => ⟨rfl, rfl, rfl, rfl⟩, rfl, rfl, rfl, rfl⟩
theorem EqX.tr {S : Nm → Prop} {g g' g'' : Sg} (h : EqX S g g') (h' : EqX S g' g'') : EqX S g g'' := by
  refine ⟨fun n hn => ?_, h'.2.1.trans h.2.1, h'.2.2.1.trans h.2.2.1, h'.2.2.2.1.trans h.2.2.2.1, h'.2.2.2.2.trans h.2.2.2.2⟩
  obtain ⟨a1, a2, a3, a4⟩ := h.1 n hn
  obtain ⟨b1, b2, b3, b4⟩ := h'.1 n hn
  exact ⟨b1.trans a1, b2.trans a2, b3.trans a3, b4.trans a4⟩
theorem EqX.mono {S S' : Nm → Prop} {g g' : Sg} (h : EqX S g g') (hs : ∀ n, S n → S' n) : EqX S' g g' := ⟨fun n hn => h.1 n (fun k => hn (hs n k)), h.2⟩
theorem EqX.sI {S : Nm → Prop} {g g' : Sg} {n : Nm} {k : Nat} {x : Int32} (h : EqX S g g') (hn : S n) : EqX S g (sI g' n k x) := by
  refine ⟨fun n' hn' => ?_, h.2⟩
  obtain ⟨a1, a2⟩ := h.1 n' hn'
  refine ⟨?_, a2⟩
  have : n' ≠ n := fun e => hn' (e ▸ hn)
  show up3 g'.1 n _ n' = _
  rw [up3_ne this]
  exact a1
theorem EqX.sJ {S : Nm → Prop} {g g' : Sg} {n : Nm} {x : Int64} (h : EqX S g g') (hn : S n) : EqX S g (sJ g' n x) := by
  refine ⟨fun n' hn' => ?_, h.2⟩
  obtain ⟨a1, a2, a3⟩ := h.1 n' hn'
  refine ⟨a1, ?_, a3⟩
  have : n' ≠ n := fun e => hn' (e ▸ hn)
  show up3 g'.2.1 n _ n' = _
  rw [up3_ne this]
  exact a2
theorem EqX.sA {S : Nm → Prop} {g g' : Sg} {n : Nm} {f : Nat → Int32} (h : EqX S g g') (hn : S n) : EqX S g (sA g' n f) := by
  refine ⟨fun n' hn' => ?_, h.2⟩
  obtain ⟨a1, a2, a3, a4⟩ := h.1 n' hn'
  refine ⟨a1, a2, ?_, a4⟩
  have : n' ≠ n := fun e => hn' (e ▸ hn)
  show up3 g'.2.2.1 n _ n' = _
  rw [up3_ne this]
  exact a3
theorem EqX.sB {S : Nm → Prop} {g g' : Sg} {n : Nm} {f : Nat → Int64} (h : EqX S g g') (hn : S n) : EqX S g (sB g' n f) := by
  refine ⟨fun n' hn' => ?_, h.2⟩
  obtain ⟨a1, a2, a3, a4⟩ := h.1 n' hn'
  refine ⟨a1, a2, a3, ?_⟩
  have : n' ≠ n := fun e => hn' (e ▸ hn)
  show up3 g'.2.2.2.1 n _ n' = _
  rw [up3_ne this]
  exact a4
theorem EqX.al' {S : Nm → Prop} {g g' : Sg} {n : Nm} (h : EqX S g g') (hn : al g n) : al g' n := by
  unfold al at hn ⊢
  rw [h.2.2.1]
  exact hn
theorem EqX.al2 {S : Nm → Prop} {g g' : Sg} {n : Nm} (h : EqX S g g') (hn : al g' n) : al g n := by
  unfold al at hn ⊢
  rw [← h.2.2.1]
  exact hn
theorem idx_inj {i j i' j' d : Nat} (hj : j < d) (hj' : j' < d) (h : i * d + j = i' * d + j') : i = i' ∧ j = j' := by
  have e : i = i' := by
    rcases Nat.lt_trichotomy i i' with h1 | h1 | h1
    · have := idx_lt h1 hj
      omega
    · exact h1
    · have := idx_lt h1 hj'
      omega
  subst e
  exact ⟨rfl, by omega⟩
theorem rv_rset {g : Sg} {w r i j w' r' i' j' : Nat} {x : Int32} (hj : j < wdN r) (hj' : j' < wdN r') : rv (rset g w r i j x) w' r' i' j' = if w' = w ∧ r' = r ∧ i' = i ∧ j' = j then x else rv g w' r' i' j' := by
  unfold rv rset
  rw [gA_sA]
  by_cases h : ((21, w', r') : Nm) = (21, w, r)
  · obtain ⟨rfl, rfl⟩ : w' = w ∧ r' = r := by simpa using h
    rw [if_pos rfl]
    unfold upd
    by_cases h2 : i' * wdN r' + j' = i * wdN r' + j
    · obtain ⟨rfl, rfl⟩ := idx_inj hj' hj h2
      rw [if_pos rfl, if_pos ⟨rfl, rfl, rfl, rfl⟩]
    · rw [if_neg h2, if_neg]
      rintro ⟨-, -, rfl, rfl⟩
      exact h2 rfl
  · rw [if_neg h, if_neg]
    rintro ⟨rfl, rfl, -⟩
    exact h rfl
theorem rv_radd {g : Sg} {w r n w' r' i' j' : Nat} (hj' : j' < wdN r') : rv (radd g w r n) w' r' i' j' = if w' = w ∧ r' = r ∧ i' = n then 0 else rv g w' r' i' j' := by
  unfold rv radd
  show gA (sA g (21, w, r) _) (21, w', r') _ = _
  rw [gA_sA]
  by_cases h : ((21, w', r') : Nm) = (21, w, r)
  · obtain ⟨rfl, rfl⟩ : w' = w ∧ r' = r := by simpa using h
    rw [if_pos rfl]
    unfold zf
    by_cases h2 : i' = n
    · subst h2
      rw [if_pos (by omega), if_pos ⟨rfl, rfl, rfl⟩]
    · rw [if_neg, if_neg (fun h => h2 h.2.2)]
      rintro ⟨h3, h4⟩
      rcases Nat.lt_trichotomy i' n with h5 | h5 | h5
      · have := idx_lt h5 hj'
        omega
      · exact h2 h5
      · have : (n + 1) * wdN r' ≤ i' * wdN r' := Nat.mul_le_mul_right _ h5
        rw [Nat.add_mul] at this
        omega
  · rw [if_neg h, if_neg]
    rintro ⟨rfl, rfl, -⟩
    exact h rfl
theorem rOk_radd {g : Sg} {w r n : Nat} (h : rOk g w r n) (hroom : (n + 1) * wdN r ≤ gN g (21, w, r)) : rOk (radd g w r n) w r (n + 1) := by
  obtain ⟨h1, h2, h3, h4⟩ := h
  refine ⟨h1, ?_, hroom, h4⟩
  unfold radd
  rw [gI_sI, if_pos ⟨rfl, rfl⟩]
theorem rOk_radd_ne {g : Sg} {w r n w' r' n' : Nat} (h : rOk g w' r' n') (hne : ¬ (w' = w ∧ r' = r)) : rOk (radd g w r n) w' r' n' := by
  obtain ⟨h1, h2, h3, h4⟩ := h
  refine ⟨h1, ?_, h3, h4⟩
  unfold radd
  rw [gI_sI, if_neg]
  · exact h2
  · rintro ⟨e, -⟩
    exact hne (by simpa using e)
/-- the store holds the books of world w -/
def RB (g : Sg) (w : Nat) (B : Bk) : Prop := rOk g w 0 (bL B) ∧ rOk g w 1 (bP B) ∧ gI g (13, w, 0) 2 = nI (bD B) ∧ gI g (13, w, 0) 3 = nI (bX B) ∧ (∀ l c, l < bL B → c < 8 → rv g w 0 l c = bl B l c) ∧ ∀ p c, p < bP B → c < 4 → rv g w 1 p c = bp B p c
def bkS (w : Nat) : Nm → Prop := fun n => n.2.1 = w ∧ (n.1 = 13 ∨ n.1 = 20 ∨ n.1 = 21) ∧ n.2.2 < 2
theorem EqX.rset {S : Nm → Prop} {g g' : Sg} {w r i j : Nat} {x : Int32} (h : EqX S g g') (hn : S (21, w, r)) : EqX S g (rset g' w r i j x) := h.sA hn
theorem EqX.radd {S : Nm → Prop} {g g' : Sg} {w r n : Nat} (h : EqX S g g') (h1 : S (21, w, r)) (h2 : S (20, w, r)) : EqX S g (radd g' w r n) := (h.sA h1).sI h2
/-- a letter is opened; a piece is put on the last letter; a letter's end -/
def opB (B : Bk) (kind fr to ab cp : Int32) : Bk := ((bL B + 1, bP B), B.2.1, (fun l c => if l = bL B then (match c with | 0 => kind | 1 => fr | 2 => to | 3 => ab | 4 => 0 | 5 => 0 | 6 => cp | _ => nI (bP B)) else bl B l c), bp B)
def puB (B : Bk) (x kind term br : Int32) : Bk := ((bL B, bP B + 1), B.2.1, (fun l c => if l + 1 = bL B ∧ c = 4 then bl B l 4 + nI 1 else bl B l c), fun p c => if p = bP B then (match c with | 0 => x | 1 => kind | 2 => term | _ => br) else bp B p c)
def edB (B : Bk) (l : Nat) : Bk := (B.1, (bD B + 1, bX B), (fun l' c => if l' = l ∧ c = 5 then nI 1 else bl B l' c), bp B)
def exB (B : Bk) (l : Nat) : Bk := (B.1, (bD B, bX B + 1), (fun l' c => if l' = l ∧ c = 5 then nI 2 else bl B l' c), bp B)
