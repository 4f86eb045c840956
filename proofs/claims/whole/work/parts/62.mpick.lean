/-! the six told least: put in order, or looked for one by one -/
def ltp (T : Nat → Int32) (x y : Nat) : Prop := T x < T y ∨ (T x = T y ∧ x < y)
theorem ltp_tr {T : Nat → Int32} {x y z : Nat} (h : ltp T x y) (h' : ltp T y z) : ltp T x z := by
  unfold ltp at *
  rw [Int32.lt_iff_toInt_lt] at *
  rw [← Int32.toInt_inj] at *
  omega
theorem ltp_irr {T : Nat → Int32} {x : Nat} : ¬ ltp T x x := by
  unfold ltp
  rw [Int32.lt_iff_toInt_lt]
  omega
theorem ltp_tot {T : Nat → Int32} {x y : Nat} (h : x ≠ y) : ltp T x y ∨ ltp T y x := by
  unfold ltp
  rw [Int32.lt_iff_toInt_lt, Int32.lt_iff_toInt_lt, ← Int32.toInt_inj, ← Int32.toInt_inj]
  omega
theorem ltp_new {T : Nat → Int32} {x y : Nat} (h : y < x) (hn : ¬ T x < T y) : ltp T y x := by
  unfold ltp
  rw [Int32.lt_iff_toInt_lt] at hn ⊢
  rw [← Int32.toInt_inj]
  omega
/-- the place where x goes into a row in order: all before it are less, all behind it more -/
theorem atp_spec {T : Nat → Int32} {x : Nat} {l : List Nat} (hs : l.Pairwise (ltp T)) (hx : ∀ y ∈ l, y < x) : ∀ j, j ≤ l.length → (∀ i y, i < atp T x l j → l[i]? = some y → ltp T y x) ∧ ∀ i y, atp T x l j ≤ i → i < j → l[i]? = some y → ltp T x y
  | 0, _ => ⟨fun i y h => absurd h (Nat.not_lt_zero i), fun i y _ h => absurd h (Nat.not_lt_zero i)⟩
  | j + 1, hj => by
    have hjl : j < l.length := by omega
    have hg : l.getD j 0 = l[j] := by rw [List.getD_eq_getElem?_getD, List.getElem?_eq_getElem hjl]; rfl
    unfold atp
    rw [hg]
    split
    · rename_i h
      obtain ⟨h1, h2⟩ := atp_spec hs hx j (by omega)
      refine ⟨h1, fun i y a b c => ?_⟩
      by_cases e : i = j
      · subst e
        rw [List.getElem?_eq_getElem hjl] at c
        rw [← Option.some.inj c]
        exact Or.inl h
      · exact h2 i y a (by omega) c
    · rename_i h
      refine ⟨fun i y a c => ?_, fun i y a b _ => absurd a (by omega)⟩
      have hj2 : ltp T l[j] x := ltp_new (hx _ (List.getElem_mem hjl)) h
      by_cases e : i = j
      · subst e
        rw [List.getElem?_eq_getElem hjl] at c
        rw [← Option.some.inj c]
        exact hj2
      · have hil : i < l.length := by omega
        rw [List.getElem?_eq_getElem hil] at c
        rw [← Option.some.inj c]
        exact ltp_tr (List.pairwise_iff_getElem.mp hs i j hil hjl (by omega)) hj2
theorem ins_sorted {T : Nat → Int32} {x a : Nat} {l : List Nat} (hs : l.Pairwise (ltp T)) (h1 : ∀ i y, i < a → l[i]? = some y → ltp T y x) (h2 : ∀ i y, a ≤ i → i < l.length → l[i]? = some y → ltp T x y) : (l.take a ++ x :: l.drop a).Pairwise (ltp T) := by
  rw [List.pairwise_append]
  refine ⟨hs.sublist (List.take_sublist _ _), ?_, fun y hy z hz => ?_⟩
  · rw [List.pairwise_cons]
    refine ⟨fun y hy => ?_, hs.sublist (List.drop_sublist _ _)⟩
    obtain ⟨i, hi, rfl⟩ := List.mem_iff_getElem.mp hy
    rw [List.length_drop] at hi
    rw [List.getElem_drop]
    exact h2 (a + i) _ (by omega) (by omega) (List.getElem?_eq_getElem (by omega))
  · obtain ⟨i, hi, rfl⟩ := List.mem_iff_getElem.mp hy
    rw [List.length_take] at hi
    rw [List.getElem_take]
    have hyx := h1 i _ (by omega) (List.getElem?_eq_getElem (by omega))
    rcases List.mem_cons.mp hz with rfl | hz
    · exact hyx
    · obtain ⟨j, hj, rfl⟩ := List.mem_iff_getElem.mp hz
      rw [List.length_drop] at hj
      rw [List.getElem_drop]
      exact ltp_tr hyx (h2 (a + j) _ (by omega) (by omega) (List.getElem?_eq_getElem (by omega)))
def frP (K T : Nat → Int32) (i : Nat) (l : List Nat) : Prop := l.Pairwise (ltp T) ∧ (∀ y ∈ l, y < i ∧ esel K T y = true) ∧ l.length ≤ 6 ∧ ∀ x, x < i → esel K T x = true → x ∉ l → l.length = 6 ∧ ∀ y ∈ l, ltp T y x
theorem frs_P (K T : Nat → Int32) : ∀ i, frP K T i (frs K T i)
  | 0 => ⟨List.Pairwise.nil, fun y hy => absurd hy (List.not_mem_nil), by show 0 ≤ 6; omega, fun x hx => absurd hx (Nat.not_lt_zero x)⟩
  | i + 1 => by
    obtain ⟨p1, p2, p3, p4⟩ := frs_P K T i
    unfold frs
    split
    · rename_i hc
      obtain ⟨q1, q2⟩ := atp_spec (T := T) (x := i) p1 (fun y hy => (p2 y hy).1) (frs K T i).length (Nat.le_refl _)
      have hal := atp_le T i (frs K T i) (frs K T i).length
      have hso := ins_sorted (a := atp T i (frs K T i) (frs K T i).length) p1 q1 (fun a y h1 h2 h3 => q2 a y h1 h2 h3)
      have hlen : (insL T i (frs K T i)).length = min 6 ((frs K T i).length + 1) := by
        unfold insL
        rw [List.length_take, List.length_append, List.length_take, List.length_cons, List.length_drop]
        omega
      refine ⟨?_, fun y hy => ?_, insL_le _ _ _, fun x hx hex hni => ?_⟩
      · exact hso.sublist (List.take_sublist _ _)
      · rcases insL_mem hy with rfl | h
        · exact ⟨by omega, hc⟩
        · exact ⟨by have := (p2 y h).1; omega, (p2 y h).2⟩
      · -- x was left out: by the cut, or before
        have hfull : x ∈ (frs K T i).take (atp T i (frs K T i) (frs K T i).length) ++ i :: (frs K T i).drop (atp T i (frs K T i) (frs K T i).length) ∨ (x < i ∧ x ∉ frs K T i) := by
          by_cases e : x = i
          · exact Or.inl (by rw [e]; exact List.mem_append_right _ List.mem_cons_self)
          · by_cases hm : x ∈ frs K T i
            · refine Or.inl ?_
              have := List.take_append_drop (atp T i (frs K T i) (frs K T i).length) (frs K T i)
              rw [← this] at hm
              rcases List.mem_append.mp hm with h | h
              · exact List.mem_append_left _ h
              · exact List.mem_append_right _ (List.mem_cons_of_mem _ h)
            · exact Or.inr ⟨by omega, hm⟩
        rcases hfull with h | ⟨h, hm⟩
        · obtain ⟨j, hj, ej⟩ := List.mem_iff_getElem.mp h
          have hj6 : 6 ≤ j := by
            rcases Nat.lt_or_ge j 6 with q | q
            · exfalso
              apply hni
              unfold insL
              rw [← ej]
              exact List.mem_take_iff_getElem.mpr ⟨j, by omega, rfl⟩
            · exact q
          refine ⟨by rw [hlen]; rw [List.length_append, List.length_take, List.length_cons, List.length_drop] at hj; omega, fun y hy => ?_⟩
          unfold insL at hy
          obtain ⟨a, ha, ea⟩ := List.mem_take_iff_getElem.mp hy
          rw [← ea, ← ej]
          exact List.pairwise_iff_getElem.mp hso a j (by omega) hj (by omega)
        · obtain ⟨r1, r2⟩ := p4 x h hex hm
          refine ⟨by rw [hlen, r1]; rfl, fun y hy => ?_⟩
          rcases insL_mem hy with rfl | hy2
          · -- the new one stands among the six, so one of the old, that is more, fell off
            rcases ltp_tot (T := T) (x := y) (y := x) (by omega) with q | q
            · exact q
            · exfalso
              -- all six old ones are less than x, so less than the new one: it is cut
              have hall : ∀ a z, (frs K T y)[a]? = some z → ltp T z y := fun a z hz => ltp_tr (r2 z (List.mem_of_getElem? hz)) q
              have hat : atp T y (frs K T y) (frs K T y).length = (frs K T y).length := by
                rcases Nat.lt_or_ge (atp T y (frs K T y) (frs K T y).length) (frs K T y).length with z | z
                · have h5 := q2 _ _ (Nat.le_refl _) z (List.getElem?_eq_getElem z)
                  exact absurd (ltp_tr h5 (hall _ _ (List.getElem?_eq_getElem z))) ltp_irr
                · omega
              unfold insL at hy
              rw [hat, r1, insL_end _ _ r1] at hy
              have := (p2 y hy).1
              omega
          · exact r2 y hy2
    · rename_i hc
      refine ⟨p1, fun y hy => ⟨by have := (p2 y hy).1; omega, (p2 y hy).2⟩, p3, fun x hx hex hni => ?_⟩
      by_cases e : x = i
      · subst e; exact absurd hex hc
      · exact p4 x (by omega) hex hni
/-- the least of those left -/
def isLst (K T : Nat → Int32) (t : Nat → Bool) (n : Nat) (o : Option Nat) : Prop := match o with
  | none => ∀ x, x < n → esel K T x = true → t x = true
  | some b => b < n ∧ esel K T b = true ∧ t b = false ∧ ∀ x, x < n → esel K T x = true → t x = false → x = b ∨ ltp T b x
theorem isLst_uni {K T : Nat → Int32} {t : Nat → Bool} {n : Nat} {o o' : Option Nat} (h : isLst K T t n o) (h' : isLst K T t n o') : o = o' := by
  cases o with
  | none =>
    cases o' with
    | none => rfl
    | some b =>
      obtain ⟨a1, a2, a3, -⟩ := h'
      have := h b a1 a2
      rw [a3] at this; cases this
  | some b =>
    obtain ⟨a1, a2, a3, a4⟩ := h
    cases o' with
    | none =>
      have := h' b a1 a2
      rw [a3] at this; cases this
    | some c =>
      obtain ⟨b1, b2, b3, b4⟩ := h'
      rcases a4 c b1 b2 b3 with e | e
      · rw [e]
      · rcases b4 b a1 a2 a3 with f | f
        · rw [f]
        · exact absurd (ltp_tr e f) ltp_irr
def tkM (l : List Nat) (k : Nat) : Nat → Bool := fun x => decide (x ∈ l.take k)
theorem frs_lst {K T : Nat → Int32} {k : Nat} (hk : k < 6) : isLst K T (tkM (frs K T 64) k) 64 (frs K T 64)[k]? := by
  obtain ⟨p1, p2, p3, p4⟩ := frs_P K T 64
  cases e : (frs K T 64)[k]? with
  | none =>
    intro x hx hex
    have hl : (frs K T 64).length ≤ k := List.getElem?_eq_none_iff.mp e
    unfold tkM
    rw [List.take_of_length_le hl]
    refine decide_eq_true (Classical.byContradiction (fun q => ?_))
    have := (p4 x hx hex q).1
    omega
  | some b =>
    have hkl := lt_of_getE e
    have eb : (frs K T 64)[k] = b := Option.some.inj ((List.getElem?_eq_getElem hkl).symm.trans e)
    have hb := p2 b (List.mem_of_getElem? e)
    refine ⟨hb.1, hb.2, ?_, fun x hx hex hni => ?_⟩
    · unfold tkM
      refine decide_eq_false (fun q => ?_)
      obtain ⟨a, ha, ea⟩ := List.mem_take_iff_getElem.mp q
      have := List.pairwise_iff_getElem.mp p1 a k (by omega) hkl (by omega)
      rw [ea, eb] at this
      exact ltp_irr this
    · by_cases hm : x ∈ frs K T 64
      · obtain ⟨a, ha, ea⟩ := List.mem_iff_getElem.mp hm
        unfold tkM at hni
        have hak : k ≤ a := by
          rcases Nat.lt_or_ge a k with q | q
          · exact absurd (List.mem_take_iff_getElem.mpr ⟨a, by omega, ea⟩) (of_decide_eq_false hni)
          · exact q
        by_cases q : a = k
        · subst q
          exact Or.inl (ea.symm.trans eb)
        · have := List.pairwise_iff_getElem.mp p1 k a hkl ha (by omega)
          rw [ea, eb] at this
          exact Or.inr this
      · exact Or.inr ((p4 x hx hex hm).2 b (List.mem_of_getElem? e))
theorem frs_nodup (K T : Nat → Int32) (i : Nat) : (frs K T i).Nodup := (frs_P K T i).1.imp (fun {a b} h e => by subst e; exact ltp_irr h)
