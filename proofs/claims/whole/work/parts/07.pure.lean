
abbrev PE : Type := (Nat × vp_A) ⊕ (Nat × List Value)
abbrev PH : Type := Nat × Nat × (Nat → Option PE)
abbrev PLoc : Type := List (Option Value)
abbrev Rs : Type := Option Value × PH
abbrev TT : Type := MI → Nat → PLoc → List Value → PH → Rs → Prop
def phUp (G : PH) (a : Nat) (e : PE) : PH := (G.1, G.2.1, fun q => if q = a then some e else G.2.2 q)
def phNew (G : PH) (n : Nat) (e : PE) : PH := (G.1 + 1, G.2.1 + n, fun q => if q = G.1 then some e else G.2.2 q)
def LS1 (L : PLoc) (i : Nat) (v : Value) (L' : PLoc) : Prop := ∀ (j : Nat) (w : Value), L'[j]? = some (some w) → (j = i ∧ w = v) ∨ (L[j]? = some (some w) ∧ j ≠ i ∧ ¬ (j + 1 = i ∧ w.category = 2))
def LS2 (L : PLoc) (i : Nat) (v : Value) (L' : PLoc) : Prop := ∀ (j : Nat) (w : Value), L'[j]? = some (some w) → (j = i ∧ w = v) ∨ (L[j]? = some (some w) ∧ j ≠ i ∧ j ≠ i + 1 ∧ ¬ (j + 1 = i ∧ w.category = 2))
def entL : List Value → PLoc
  | [] => []
  | v :: vs => if v.category = 2 then some v :: none :: entL vs else some v :: entL vs
def ent (M : MI) (vs : List Value) : PLoc := entL vs ++ List.replicate (mL M - (entL vs).length) none
def isRf (v : Value) : Prop := v = .null ∨ ∃ a, v = .ref a
theorem entL_mem (vs : List Value) : ∀ (k j : Nat) (w : Value), (entL vs)[j]? = some (some w) → (k + j, w) ∈ lv_args k vs := by
  induction vs with
  | nil => intro k j w h; simp [entL] at h
  | cons v vs ih =>
    intro k j w h
    unfold entL at h
    unfold lv_args
    by_cases hc : v.category = 2
    · rw [if_pos hc] at h ⊢
      match j, h with
      | 0, h => simp at h; subst h; exact List.mem_cons_self
      | 1, h => simp at h
      | j + 2, h =>
        have h' : (entL vs)[j]? = some (some w) := by simpa using h
        have := ih (k + 2) j w h'
        rw [show k + (j + 2) = k + 2 + j by omega]
        exact List.mem_cons_of_mem _ this
    · rw [if_neg hc] at h ⊢
      match j, h with
      | 0, h => simp at h; subst h; exact List.mem_cons_self
      | j + 1, h =>
        have h' : (entL vs)[j]? = some (some w) := by simpa using h
        have := ih (k + 1) j w h'
        rw [show k + (j + 1) = k + 1 + j by omega]
        exact List.mem_cons_of_mem _ this
theorem ent_mem (M : MI) (vs : List Value) (j : Nat) (w : Value) (h : (ent M vs)[j]? = some (some w)) : (j, w) ∈ lv_args 0 vs := by
  unfold ent at h
  by_cases hl : j < (entL vs).length
  · rw [List.getElem?_append_left hl] at h
    have := entL_mem vs 0 j w h
    rwa [Nat.zero_add] at this
  · rw [List.getElem?_append_right (by omega), List.getElem?_replicate] at h
    split at h <;> simp at h
theorem entL_len (vs : List Value) : (entL vs).length = (lg_sl vs).length := by
  induction vs with
  | nil => rfl
  | cons v vs ih =>
    unfold entL
    unfold lg_sl at ih ⊢
    rw [List.flatMap_cons]
    by_cases hc : v.category = 2
    · rw [if_pos hc, if_pos hc]; simp [ih]
    · rw [if_neg hc, if_neg hc]; simp [ih]
def pl (ls : Array Slot) (n : Nat) (L : PLoc) : Prop := ls.size = n ∧ lv_wf ls ∧ ∀ (j : Nat) (w : Value), L[j]? = some (some w) → ls[j]? = some (.val w)
def lst (L : PLoc) : List (Nat × Value) := (List.range L.length).filterMap (fun j => (L[j]?).join.map (fun w => (j, w)))
theorem lst_mem {L : PLoc} {j : Nat} {w : Value} : (j, w) ∈ lst L ↔ L[j]? = some (some w) := by
  unfold lst
  rw [List.mem_filterMap]
  constructor
  · rintro ⟨i, hi, h⟩
    cases hL : L[i]? with
    | none => simp [hL] at h
    | some x =>
      cases x with
      | none => simp [hL] at h
      | some y => simp [hL] at h; obtain ⟨rfl, rfl⟩ := h; exact hL
  · intro h
    exact ⟨j, List.mem_range.mpr (List.getElem?_eq_some_iff.mp h).1, by simp [h]⟩
theorem pl.has {ls : Array Slot} {n : Nat} {L : PLoc} (h : pl ls n L) : lv_has ls n (lst L) := ⟨h.1, h.2.1, fun q hq => h.2.2 q.1 q.2 (lst_mem.mp hq)⟩
theorem pl.of1 {ls : Array Slot} {n i : Nat} {L L' : PLoc} {v : Value} (h : lv_has ls n ((i, v) :: (lst L).filter (fun q => !(q.1 == i) && !(q.1 + 1 == i && q.2.category == 2)))) (hL : LS1 L i v L') : pl ls n L' := by
  refine ⟨h.1, h.2.1, fun j w hj => ?_⟩
  rcases hL j w hj with ⟨rfl, rfl⟩ | ⟨h1, h2, h3⟩
  · exact h.2.2 _ List.mem_cons_self
  · refine h.2.2 (j, w) (List.mem_cons_of_mem _ (List.mem_filter.mpr ⟨lst_mem.mpr h1, ?_⟩))
    simp only [Bool.and_eq_true, Bool.not_eq_true', beq_eq_false_iff_ne, ne_eq, Bool.and_eq_false_iff]
    refine ⟨h2, ?_⟩
    by_cases hj1 : j + 1 = i
    · exact Or.inr (fun hc => h3 ⟨hj1, hc⟩)
    · exact Or.inl hj1
theorem pl.of2 {ls : Array Slot} {n i : Nat} {L L' : PLoc} {v : Value} (h : lv_has ls n ((i, v) :: (lst L).filter (fun q => !(q.1 == i) && (!(q.1 == i + 1) && !(q.1 + 1 == i && q.2.category == 2))))) (hL : LS2 L i v L') : pl ls n L' := by
  refine ⟨h.1, h.2.1, fun j w hj => ?_⟩
  rcases hL j w hj with ⟨rfl, rfl⟩ | ⟨h1, h2, h4, h3⟩
  · exact h.2.2 _ List.mem_cons_self
  · refine h.2.2 (j, w) (List.mem_cons_of_mem _ (List.mem_filter.mpr ⟨lst_mem.mpr h1, ?_⟩))
    simp only [Bool.and_eq_true, Bool.not_eq_true', beq_eq_false_iff_ne, ne_eq, Bool.and_eq_false_iff]
    refine ⟨h2, h4, ?_⟩
    by_cases hj1 : j + 1 = i
    · exact Or.inr (fun hc => h3 ⟨hj1, hc⟩)
    · exact Or.inl hj1
theorem pl.lt {ls : Array Slot} {n j : Nat} {L : PLoc} {w : Value} (h : pl ls n L) (hj : L[j]? = some (some w)) : j < n := by
  have := lv_lt (h.2.2 j w hj)
  rw [h.1] at this
  exact this

def Ru_iconst (T : TT) : Prop := ∀ (M : MI) (pc : Nat) (L : PLoc) (st : List Value) (G : PH) (r : Rs) (n : Int) (v : Int32), decode (mC M) pc = .ok (.iconst n, 1) → Int32.ofInt n = v → T M (pc + 1) L (.int v :: st) G r → T M pc L (st) G r
def Ru_bipush (T : TT) : Prop := ∀ (M : MI) (pc : Nat) (L : PLoc) (st : List Value) (G : PH) (r : Rs) (n : Int) (v : Int32), decode (mC M) pc = .ok (.bipush n, 2) → (Int8.ofInt n).toInt32 = v → T M (pc + 2) L (.int v :: st) G r → T M pc L (st) G r
def Ru_sipush (T : TT) : Prop := ∀ (M : MI) (pc : Nat) (L : PLoc) (st : List Value) (G : PH) (r : Rs) (n : Int) (v : Int32), decode (mC M) pc = .ok (.sipush n, 3) → (Int16.ofInt n).toInt32 = v → T M (pc + 3) L (.int v :: st) G r → T M pc L (st) G r
def Ru_lconst (T : TT) : Prop := ∀ (M : MI) (pc : Nat) (L : PLoc) (st : List Value) (G : PH) (r : Rs) (n : Fin 2) (v : Int64), decode (mC M) pc = .ok (.lconst n, 1) → Int64.ofNat (n : Nat) = v → T M (pc + 1) L (.long v :: st) G r → T M pc L (st) G r
def Ru_null (T : TT) : Prop := ∀ (M : MI) (pc : Nat) (L : PLoc) (st : List Value) (G : PH) (r : Rs), decode (mC M) pc = .ok (.aconst_null, 1) → T M (pc + 1) L (.null :: st) G r → T M pc L (st) G r
def Ru_ldc (T : TT) : Prop := ∀ (M : MI) (pc : Nat) (L : PLoc) (st : List Value) (G : PH) (r : Rs) (i : Nat) (v : Int32), decode (mC M) pc = .ok (.ldc i, 2) → Cond.constant (mY M).cls i v ∈ lw_tbl → T M (pc + 2) L (.int v :: st) G r → T M pc L (st) G r
def Ru_ldc2 (T : TT) : Prop := ∀ (M : MI) (pc : Nat) (L : PLoc) (st : List Value) (G : PH) (r : Rs) (i : Nat) (v : Int64), decode (mC M) pc = .ok (.ldc2_w i, 3) → Cond.constantLong (mY M).cls i v ∈ lw_tbl → T M (pc + 3) L (.long v :: st) G r → T M pc L (st) G r
def Ru_iload_n (T : TT) : Prop := ∀ (M : MI) (pc : Nat) (L : PLoc) (st : List Value) (G : PH) (r : Rs) (k : Fin 4) (x : Int32), decode (mC M) pc = .ok (.iload_n k, 1) → L[(k : Nat)]? = some (some (.int x)) → T M (pc + 1) L (.int x :: st) G r → T M pc L (st) G r
def Ru_iload (T : TT) : Prop := ∀ (M : MI) (pc : Nat) (L : PLoc) (st : List Value) (G : PH) (r : Rs) (i : Nat) (x : Int32), decode (mC M) pc = .ok (.iload i, 2) → L[i]? = some (some (.int x)) → T M (pc + 2) L (.int x :: st) G r → T M pc L (st) G r
def Ru_lload_n (T : TT) : Prop := ∀ (M : MI) (pc : Nat) (L : PLoc) (st : List Value) (G : PH) (r : Rs) (k : Fin 4) (x : Int64), decode (mC M) pc = .ok (.lload_n k, 1) → L[(k : Nat)]? = some (some (.long x)) → T M (pc + 1) L (.long x :: st) G r → T M pc L (st) G r
def Ru_lload (T : TT) : Prop := ∀ (M : MI) (pc : Nat) (L : PLoc) (st : List Value) (G : PH) (r : Rs) (i : Nat) (x : Int64), decode (mC M) pc = .ok (.lload i, 2) → L[i]? = some (some (.long x)) → T M (pc + 2) L (.long x :: st) G r → T M pc L (st) G r
def Ru_aload_n (T : TT) : Prop := ∀ (M : MI) (pc : Nat) (L : PLoc) (st : List Value) (G : PH) (r : Rs) (k : Fin 4) (x : Value), decode (mC M) pc = .ok (.aload_n k, 1) → L[(k : Nat)]? = some (some x) → isRf x → T M (pc + 1) L (x :: st) G r → T M pc L (st) G r
def Ru_aload (T : TT) : Prop := ∀ (M : MI) (pc : Nat) (L : PLoc) (st : List Value) (G : PH) (r : Rs) (i : Nat) (x : Value), decode (mC M) pc = .ok (.aload i, 2) → L[i]? = some (some x) → isRf x → T M (pc + 2) L (x :: st) G r → T M pc L (st) G r
def Ru_istore_n (T : TT) : Prop := ∀ (M : MI) (pc : Nat) (L : PLoc) (st : List Value) (G : PH) (r : Rs) (k : Fin 4) (x : Int32) (L' : PLoc), decode (mC M) pc = .ok (.istore_n k, 1) → (k : Nat) < mL M → LS1 L (k : Nat) (.int x) L' → T M (pc + 1) L' st G r → T M pc L (.int x :: st) G r
def Ru_istore (T : TT) : Prop := ∀ (M : MI) (pc : Nat) (L : PLoc) (st : List Value) (G : PH) (r : Rs) (i : Nat) (x : Int32) (L' : PLoc), decode (mC M) pc = .ok (.istore i, 2) → i < mL M → LS1 L i (.int x) L' → T M (pc + 2) L' st G r → T M pc L (.int x :: st) G r
def Ru_lstore_n (T : TT) : Prop := ∀ (M : MI) (pc : Nat) (L : PLoc) (st : List Value) (G : PH) (r : Rs) (k : Fin 4) (x : Int64) (L' : PLoc), decode (mC M) pc = .ok (.lstore_n k, 1) → (k : Nat) + 1 < mL M → LS2 L (k : Nat) (.long x) L' → T M (pc + 1) L' st G r → T M pc L (.long x :: st) G r
def Ru_lstore (T : TT) : Prop := ∀ (M : MI) (pc : Nat) (L : PLoc) (st : List Value) (G : PH) (r : Rs) (i : Nat) (x : Int64) (L' : PLoc), decode (mC M) pc = .ok (.lstore i, 2) → i + 1 < mL M → LS2 L i (.long x) L' → T M (pc + 2) L' st G r → T M pc L (.long x :: st) G r
def Ru_astore_n (T : TT) : Prop := ∀ (M : MI) (pc : Nat) (L : PLoc) (st : List Value) (G : PH) (r : Rs) (k : Fin 4) (x : Value) (L' : PLoc), decode (mC M) pc = .ok (.astore_n k, 1) → isRf x → (k : Nat) < mL M → LS1 L (k : Nat) (x) L' → T M (pc + 1) L' st G r → T M pc L (x :: st) G r
def Ru_astore (T : TT) : Prop := ∀ (M : MI) (pc : Nat) (L : PLoc) (st : List Value) (G : PH) (r : Rs) (i : Nat) (x : Value) (L' : PLoc), decode (mC M) pc = .ok (.astore i, 2) → isRf x → i < mL M → LS1 L i (x) L' → T M (pc + 2) L' st G r → T M pc L (x :: st) G r
def Ru_iinc (T : TT) : Prop := ∀ (M : MI) (pc : Nat) (L : PLoc) (st : List Value) (G : PH) (r : Rs) (i : Nat) (n : Int) (x v : Int32) (L' : PLoc), decode (mC M) pc = .ok (.iinc i n, 3) → L[i]? = some (some (.int x)) → x + Int32.ofInt n = v → LS1 L i (.int v) L' → T M (pc + 3) L' st G r → T M pc L (st) G r
def Ru_iadd (T : TT) : Prop := ∀ (M : MI) (pc : Nat) (L : PLoc) (st : List Value) (G : PH) (r : Rs) (x y : Int32), decode (mC M) pc = .ok (.iadd, 1) → T M (pc + 1) L (.int (x + y) :: st) G r → T M pc L (.int y :: .int x :: st) G r
def Ru_isub (T : TT) : Prop := ∀ (M : MI) (pc : Nat) (L : PLoc) (st : List Value) (G : PH) (r : Rs) (x y : Int32), decode (mC M) pc = .ok (.isub, 1) → T M (pc + 1) L (.int (x - y) :: st) G r → T M pc L (.int y :: .int x :: st) G r
def Ru_imul (T : TT) : Prop := ∀ (M : MI) (pc : Nat) (L : PLoc) (st : List Value) (G : PH) (r : Rs) (x y : Int32), decode (mC M) pc = .ok (.imul, 1) → T M (pc + 1) L (.int (x * y) :: st) G r → T M pc L (.int y :: .int x :: st) G r
def Ru_iand (T : TT) : Prop := ∀ (M : MI) (pc : Nat) (L : PLoc) (st : List Value) (G : PH) (r : Rs) (x y : Int32), decode (mC M) pc = .ok (.iand, 1) → T M (pc + 1) L (.int (x &&& y) :: st) G r → T M pc L (.int y :: .int x :: st) G r
def Ru_ineg (T : TT) : Prop := ∀ (M : MI) (pc : Nat) (L : PLoc) (st : List Value) (G : PH) (r : Rs) (x : Int32), decode (mC M) pc = .ok (.ineg, 1) → T M (pc + 1) L (.int (-x) :: st) G r → T M pc L (.int x :: st) G r
def Ru_ladd (T : TT) : Prop := ∀ (M : MI) (pc : Nat) (L : PLoc) (st : List Value) (G : PH) (r : Rs) (x y : Int64), decode (mC M) pc = .ok (.ladd, 1) → T M (pc + 1) L (.long (x + y) :: st) G r → T M pc L (.long y :: .long x :: st) G r
def Ru_lmul (T : TT) : Prop := ∀ (M : MI) (pc : Nat) (L : PLoc) (st : List Value) (G : PH) (r : Rs) (x y : Int64), decode (mC M) pc = .ok (.lmul, 1) → T M (pc + 1) L (.long (x * y) :: st) G r → T M pc L (.long y :: .long x :: st) G r
def Ru_land (T : TT) : Prop := ∀ (M : MI) (pc : Nat) (L : PLoc) (st : List Value) (G : PH) (r : Rs) (x y : Int64), decode (mC M) pc = .ok (.land, 1) → T M (pc + 1) L (.long (x &&& y) :: st) G r → T M pc L (.long y :: .long x :: st) G r
def Ru_lor (T : TT) : Prop := ∀ (M : MI) (pc : Nat) (L : PLoc) (st : List Value) (G : PH) (r : Rs) (x y : Int64), decode (mC M) pc = .ok (.lor, 1) → T M (pc + 1) L (.long (x ||| y) :: st) G r → T M pc L (.long y :: .long x :: st) G r
def Ru_lxor (T : TT) : Prop := ∀ (M : MI) (pc : Nat) (L : PLoc) (st : List Value) (G : PH) (r : Rs) (x y : Int64), decode (mC M) pc = .ok (.lxor, 1) → T M (pc + 1) L (.long (x ^^^ y) :: st) G r → T M pc L (.long y :: .long x :: st) G r
def Ru_lrem (T : TT) : Prop := ∀ (M : MI) (pc : Nat) (L : PLoc) (st : List Value) (G : PH) (r : Rs) (x y : Int64), decode (mC M) pc = .ok (.lrem, 1) → ¬ y = 0 → T M (pc + 1) L (.long (x - x / y * y) :: st) G r → T M pc L (.long y :: .long x :: st) G r
def Ru_i2l (T : TT) : Prop := ∀ (M : MI) (pc : Nat) (L : PLoc) (st : List Value) (G : PH) (r : Rs) (x : Int32), decode (mC M) pc = .ok (.i2l, 1) → T M (pc + 1) L (.long x.toInt64 :: st) G r → T M pc L (.int x :: st) G r
def Ru_l2i (T : TT) : Prop := ∀ (M : MI) (pc : Nat) (L : PLoc) (st : List Value) (G : PH) (r : Rs) (x : Int64), decode (mC M) pc = .ok (.l2i, 1) → T M (pc + 1) L (.int x.toInt32 :: st) G r → T M pc L (.long x :: st) G r
def Ru_lushr (T : TT) : Prop := ∀ (M : MI) (pc : Nat) (L : PLoc) (st : List Value) (G : PH) (r : Rs) (x : Int64) (y : Int32), decode (mC M) pc = .ok (.lushr, 1) → T M (pc + 1) L (.long (x.toUInt64 >>> (y.toInt64.toUInt64 &&& Int64.toUInt64 63)).toInt64 :: st) G r → T M pc L (.int y :: .long x :: st) G r
def Ru_lshl (T : TT) : Prop := ∀ (M : MI) (pc : Nat) (L : PLoc) (st : List Value) (G : PH) (r : Rs) (x : Int64) (y : Int32), decode (mC M) pc = .ok (.lshl, 1) → T M (pc + 1) L (.long (x <<< (y.toInt64 &&& 63)) :: st) G r → T M pc L (.int y :: .long x :: st) G r
def Ru_lcmp (T : TT) : Prop := ∀ (M : MI) (pc : Nat) (L : PLoc) (st : List Value) (G : PH) (r : Rs) (x y : Int64), decode (mC M) pc = .ok (.lcmp, 1) → T M (pc + 1) L (.int (lg_cmp x y) :: st) G r → T M pc L (.long y :: .long x :: st) G r
def Ru_dup (T : TT) : Prop := ∀ (M : MI) (pc : Nat) (L : PLoc) (st : List Value) (G : PH) (r : Rs) (v : Value), decode (mC M) pc = .ok (.dup, 1) → v.category = 1 → T M (pc + 1) L (v :: v :: st) G r → T M pc L (v :: st) G r
def Ru_pop (T : TT) : Prop := ∀ (M : MI) (pc : Nat) (L : PLoc) (st : List Value) (G : PH) (r : Rs) (v : Value), decode (mC M) pc = .ok (.pop, 1) → v.category = 1 → T M (pc + 1) L (st) G r → T M pc L (v :: st) G r
def Ru_dup2 (T : TT) : Prop := ∀ (M : MI) (pc : Nat) (L : PLoc) (st : List Value) (G : PH) (r : Rs) (v w : Value), decode (mC M) pc = .ok (.dup2, 1) → v.category = 1 → w.category = 1 → T M (pc + 1) L (v :: w :: v :: w :: st) G r → T M pc L (v :: w :: st) G r
def Ru_pop2 (T : TT) : Prop := ∀ (M : MI) (pc : Nat) (L : PLoc) (st : List Value) (G : PH) (r : Rs) (v : Value), decode (mC M) pc = .ok (.pop2, 1) → v.category = 2 → T M (pc + 1) L (st) G r → T M pc L (v :: st) G r
def Ru_if_eq (T : TT) : Prop := ∀ (M : MI) (pc : Nat) (L : PLoc) (st : List Value) (G : PH) (r : Rs) (x : Int32) (off : Int) (tgt : Nat), decode (mC M) pc = .ok (.ifCond .eq off, 3) → (pc : Int) + off = (tgt : Int) → (x = 0 → T M tgt L st G r) → (¬ x = 0 → T M (pc + 3) L st G r) → T M pc L (.int x :: st) G r
def Ru_if_ne (T : TT) : Prop := ∀ (M : MI) (pc : Nat) (L : PLoc) (st : List Value) (G : PH) (r : Rs) (x : Int32) (off : Int) (tgt : Nat), decode (mC M) pc = .ok (.ifCond .ne off, 3) → (pc : Int) + off = (tgt : Int) → (¬ x = 0 → T M tgt L st G r) → (x = 0 → T M (pc + 3) L st G r) → T M pc L (.int x :: st) G r
def Ru_if_lt (T : TT) : Prop := ∀ (M : MI) (pc : Nat) (L : PLoc) (st : List Value) (G : PH) (r : Rs) (x : Int32) (off : Int) (tgt : Nat), decode (mC M) pc = .ok (.ifCond .lt off, 3) → (pc : Int) + off = (tgt : Int) → (x < 0 → T M tgt L st G r) → (¬ x < 0 → T M (pc + 3) L st G r) → T M pc L (.int x :: st) G r
def Ru_if_ge (T : TT) : Prop := ∀ (M : MI) (pc : Nat) (L : PLoc) (st : List Value) (G : PH) (r : Rs) (x : Int32) (off : Int) (tgt : Nat), decode (mC M) pc = .ok (.ifCond .ge off, 3) → (pc : Int) + off = (tgt : Int) → (0 ≤ x → T M tgt L st G r) → (¬ 0 ≤ x → T M (pc + 3) L st G r) → T M pc L (.int x :: st) G r
def Ru_if_gt (T : TT) : Prop := ∀ (M : MI) (pc : Nat) (L : PLoc) (st : List Value) (G : PH) (r : Rs) (x : Int32) (off : Int) (tgt : Nat), decode (mC M) pc = .ok (.ifCond .gt off, 3) → (pc : Int) + off = (tgt : Int) → (0 < x → T M tgt L st G r) → (¬ 0 < x → T M (pc + 3) L st G r) → T M pc L (.int x :: st) G r
def Ru_if_le (T : TT) : Prop := ∀ (M : MI) (pc : Nat) (L : PLoc) (st : List Value) (G : PH) (r : Rs) (x : Int32) (off : Int) (tgt : Nat), decode (mC M) pc = .ok (.ifCond .le off, 3) → (pc : Int) + off = (tgt : Int) → (x ≤ 0 → T M tgt L st G r) → (¬ x ≤ 0 → T M (pc + 3) L st G r) → T M pc L (.int x :: st) G r
def Ru_icmp_eq (T : TT) : Prop := ∀ (M : MI) (pc : Nat) (L : PLoc) (st : List Value) (G : PH) (r : Rs) (x y : Int32) (off : Int) (tgt : Nat), decode (mC M) pc = .ok (.if_icmp .eq off, 3) → (pc : Int) + off = (tgt : Int) → (x = y → T M tgt L st G r) → (¬ x = y → T M (pc + 3) L st G r) → T M pc L (.int y :: .int x :: st) G r
def Ru_icmp_ne (T : TT) : Prop := ∀ (M : MI) (pc : Nat) (L : PLoc) (st : List Value) (G : PH) (r : Rs) (x y : Int32) (off : Int) (tgt : Nat), decode (mC M) pc = .ok (.if_icmp .ne off, 3) → (pc : Int) + off = (tgt : Int) → (¬ x = y → T M tgt L st G r) → (x = y → T M (pc + 3) L st G r) → T M pc L (.int y :: .int x :: st) G r
def Ru_icmp_lt (T : TT) : Prop := ∀ (M : MI) (pc : Nat) (L : PLoc) (st : List Value) (G : PH) (r : Rs) (x y : Int32) (off : Int) (tgt : Nat), decode (mC M) pc = .ok (.if_icmp .lt off, 3) → (pc : Int) + off = (tgt : Int) → (x < y → T M tgt L st G r) → (¬ x < y → T M (pc + 3) L st G r) → T M pc L (.int y :: .int x :: st) G r
def Ru_icmp_ge (T : TT) : Prop := ∀ (M : MI) (pc : Nat) (L : PLoc) (st : List Value) (G : PH) (r : Rs) (x y : Int32) (off : Int) (tgt : Nat), decode (mC M) pc = .ok (.if_icmp .ge off, 3) → (pc : Int) + off = (tgt : Int) → (y ≤ x → T M tgt L st G r) → (¬ y ≤ x → T M (pc + 3) L st G r) → T M pc L (.int y :: .int x :: st) G r
def Ru_icmp_gt (T : TT) : Prop := ∀ (M : MI) (pc : Nat) (L : PLoc) (st : List Value) (G : PH) (r : Rs) (x y : Int32) (off : Int) (tgt : Nat), decode (mC M) pc = .ok (.if_icmp .gt off, 3) → (pc : Int) + off = (tgt : Int) → (y < x → T M tgt L st G r) → (¬ y < x → T M (pc + 3) L st G r) → T M pc L (.int y :: .int x :: st) G r
def Ru_icmp_le (T : TT) : Prop := ∀ (M : MI) (pc : Nat) (L : PLoc) (st : List Value) (G : PH) (r : Rs) (x y : Int32) (off : Int) (tgt : Nat), decode (mC M) pc = .ok (.if_icmp .le off, 3) → (pc : Int) + off = (tgt : Int) → (x ≤ y → T M tgt L st G r) → (¬ x ≤ y → T M (pc + 3) L st G r) → T M pc L (.int y :: .int x :: st) G r
def Ru_goto (T : TT) : Prop := ∀ (M : MI) (pc : Nat) (L : PLoc) (st : List Value) (G : PH) (r : Rs) (off : Int) (tgt : Nat), decode (mC M) pc = .ok (.goto off, 3) → (pc : Int) + off = (tgt : Int) → T M tgt L st G r → T M pc L (st) G r
def Ru_ifnull_r (T : TT) : Prop := ∀ (M : MI) (pc : Nat) (L : PLoc) (st : List Value) (G : PH) (r : Rs) (x : Nat) (off : Int), decode (mC M) pc = .ok (.ifnull off, 3) → T M (pc + 3) L st G r → T M pc L (.ref x :: st) G r
def Ru_ifnull_n (T : TT) : Prop := ∀ (M : MI) (pc : Nat) (L : PLoc) (st : List Value) (G : PH) (r : Rs) (off : Int) (tgt : Nat), decode (mC M) pc = .ok (.ifnull off, 3) → (pc : Int) + off = (tgt : Int) → T M tgt L st G r → T M pc L (.null :: st) G r
def Ru_ifnonnull_r (T : TT) : Prop := ∀ (M : MI) (pc : Nat) (L : PLoc) (st : List Value) (G : PH) (r : Rs) (x : Nat) (off : Int) (tgt : Nat), decode (mC M) pc = .ok (.ifnonnull off, 3) → (pc : Int) + off = (tgt : Int) → T M tgt L st G r → T M pc L (.ref x :: st) G r
def Ru_ifnonnull_n (T : TT) : Prop := ∀ (M : MI) (pc : Nat) (L : PLoc) (st : List Value) (G : PH) (r : Rs) (off : Int), decode (mC M) pc = .ok (.ifnonnull off, 3) → T M (pc + 3) L st G r → T M pc L (.null :: st) G r
def Ru_tswOut (T : TT) : Prop := ∀ (M : MI) (pc : Nat) (L : PLoc) (st : List Value) (G : PH) (r : Rs) (x : Int32) (dflt lo hi : Int) (offs : Array Int) (len tgt : Nat), decode (mC M) pc = .ok (.tableswitch dflt lo hi offs, len) → (x.toInt < lo ∨ hi < x.toInt) → (pc : Int) + dflt = (tgt : Int) → T M tgt L st G r → T M pc L (.int x :: st) G r
def Ru_tswIn (T : TT) : Prop := ∀ (M : MI) (pc : Nat) (L : PLoc) (st : List Value) (G : PH) (r : Rs) (x : Int32) (dflt lo hi off : Int) (offs : Array Int) (len tgt : Nat), decode (mC M) pc = .ok (.tableswitch dflt lo hi offs, len) → ¬ x.toInt < lo → ¬ hi < x.toInt → offs[(x.toInt - lo).toNat]? = some off → (pc : Int) + off = (tgt : Int) → T M tgt L st G r → T M pc L (.int x :: st) G r
def Ru_get (T : TT) : Prop := ∀ (M : MI) (pc : Nat) (L : PLoc) (st : List Value) (G : PH) (r : Rs) (a idx ci k : Nat) (t : FieldType) (fin : Bool) (fs : List Value) (v : Value), decode (mC M) pc = .ok (.getfield idx, 3) → FL (mY M).cls idx ci k t fin → G.2.2 a = some (.inr (ci, fs)) → fs[k]? = some v → T M (pc + 3) L (v :: st) G r → T M pc L (.ref a :: st) G r
def Ru_put (T : TT) : Prop := ∀ (M : MI) (pc : Nat) (L : PLoc) (st : List Value) (G : PH) (r : Rs) (a idx ci k : Nat) (t : FieldType) (fs : List Value) (v : Value), decode (mC M) pc = .ok (.putfield idx, 3) → FL (mY M).cls idx ci k t false → G.2.2 a = some (.inr (ci, fs)) → k < fs.length → narrow t v = v → fits t v = true → T M (pc + 3) L st (phUp G a (.inr (ci, fs.set k v))) r → T M pc L (v :: .ref a :: st) G r
def Ru_putF (T : TT) : Prop := ∀ (M : MI) (pc : Nat) (L : PLoc) (st : List Value) (G : PH) (r : Rs) (a idx ci k : Nat) (t : FieldType) (fs : List Value) (v : Value), decode (mC M) pc = .ok (.putfield idx, 3) → FL (mY M).cls idx ci k t true → G.2.2 a = some (.inr (ci, fs)) → k < fs.length → narrow t v = v → fits t v = true → (mY M).name = "<init>" → (vwCl[ci]?).map (fun q => q.1) = some (mY M).cls → T M (pc + 3) L st (phUp G a (.inr (ci, fs.set k v))) r → T M pc L (v :: .ref a :: st) G r
def Ru_iald (T : TT) : Prop := ∀ (M : MI) (pc : Nat) (L : PLoc) (st : List Value) (G : PH) (r : Rs) (a n : Nat) (i : Int32) (f : Nat → Int32), decode (mC M) pc = .ok (.iaload, 1) → G.2.2 a = some (.inl (0, n, .inl f)) → vp_in i n → T M (pc + 1) L (.int (f i.toNatClampNeg) :: st) G r → T M pc L (.int i :: .ref a :: st) G r
def Ru_zald (T : TT) : Prop := ∀ (M : MI) (pc : Nat) (L : PLoc) (st : List Value) (G : PH) (r : Rs) (a n : Nat) (i : Int32) (f : Nat → Int32), decode (mC M) pc = .ok (.baload, 1) → G.2.2 a = some (.inl (2, n, .inl f)) → vp_in i n → T M (pc + 1) L (.int (f i.toNatClampNeg) :: st) G r → T M pc L (.int i :: .ref a :: st) G r
def Ru_lald (T : TT) : Prop := ∀ (M : MI) (pc : Nat) (L : PLoc) (st : List Value) (G : PH) (r : Rs) (a n : Nat) (i : Int32) (f : Nat → Int64), decode (mC M) pc = .ok (.laload, 1) → G.2.2 a = some (.inl (1, n, .inr (.inl f))) → vp_in i n → T M (pc + 1) L (.long (f i.toNatClampNeg) :: st) G r → T M pc L (.int i :: .ref a :: st) G r
def Ru_aald (T : TT) : Prop := ∀ (M : MI) (pc : Nat) (L : PLoc) (st : List Value) (G : PH) (r : Rs) (a n : Nat) (i : Int32) (f : Nat → Option Nat), decode (mC M) pc = .ok (.aaload, 1) → G.2.2 a = some (.inl (3, n, .inr (.inr (.inr (.inr f))))) → vp_in i n → T M (pc + 1) L (va_rf (f i.toNatClampNeg) :: st) G r → T M pc L (.int i :: .ref a :: st) G r
def Ru_iast (T : TT) : Prop := ∀ (M : MI) (pc : Nat) (L : PLoc) (st : List Value) (G : PH) (r : Rs) (a n : Nat) (i x : Int32) (f : Nat → Int32), decode (mC M) pc = .ok (.iastore, 1) → G.2.2 a = some (.inl (0, n, .inl f)) → vp_in i n → T M (pc + 1) L st (phUp G a (.inl (0, n, .inl (upd f i.toNatClampNeg x)))) r → T M pc L (.int x :: .int i :: .ref a :: st) G r
def Ru_zast (T : TT) : Prop := ∀ (M : MI) (pc : Nat) (L : PLoc) (st : List Value) (G : PH) (r : Rs) (a n : Nat) (i x : Int32) (f : Nat → Int32), decode (mC M) pc = .ok (.bastore, 1) → G.2.2 a = some (.inl (2, n, .inl f)) → vp_in i n → vp_nar .boolean x = x → T M (pc + 1) L st (phUp G a (.inl (2, n, .inl (upd f i.toNatClampNeg x)))) r → T M pc L (.int x :: .int i :: .ref a :: st) G r
def Ru_last (T : TT) : Prop := ∀ (M : MI) (pc : Nat) (L : PLoc) (st : List Value) (G : PH) (r : Rs) (a n : Nat) (i : Int32) (x : Int64) (f : Nat → Int64), decode (mC M) pc = .ok (.lastore, 1) → G.2.2 a = some (.inl (1, n, .inr (.inl f))) → vp_in i n → T M (pc + 1) L st (phUp G a (.inl (1, n, .inr (.inl (vp_updL f i.toNatClampNeg x))))) r → T M pc L (.long x :: .int i :: .ref a :: st) G r
def Ru_aast (T : TT) : Prop := ∀ (M : MI) (pc : Nat) (L : PLoc) (st : List Value) (G : PH) (r : Rs) (a n v : Nat) (i : Int32) (fs : List Value) (f : Nat → Option Nat), decode (mC M) pc = .ok (.aastore, 1) → G.2.2 a = some (.inl (3, n, .inr (.inr (.inr (.inr f))))) → G.2.2 v = some (.inr (1, fs)) → vp_in i n → T M (pc + 1) L st (phUp G a (.inl (3, n, .inr (.inr (.inr (.inr (va_up f i.toNatClampNeg (some v)))))))) r → T M pc L (.ref v :: .int i :: .ref a :: st) G r
def Ru_alen (T : TT) : Prop := ∀ (M : MI) (pc : Nat) (L : PLoc) (st : List Value) (G : PH) (r : Rs) (a t : Nat) (x : vp_A) (v : Int32), decode (mC M) pc = .ok (.arraylength, 1) → G.2.2 a = some (.inl (t, x)) → t < 4 → Int32.ofNat x.1 = v → T M (pc + 1) L (.int v :: st) G r → T M pc L (.ref a :: st) G r
def Ru_sld (T : TT) : Prop := ∀ (M : MI) (pc : Nat) (L : PLoc) (st : List Value) (G : PH) (r : Rs) (a n : Nat) (i : Int32) (f : Nat → Int32), decode (mC M) pc = .ok (.iaload, 1) → G.2.2 a = some (.inl (9, n, .inl f)) → vp_in i n → T M (pc + 1) L (.int (f i.toNatClampNeg) :: st) G r → T M pc L (.int i :: .ref a :: st) G r
def Ru_slen (T : TT) : Prop := ∀ (M : MI) (pc : Nat) (L : PLoc) (st : List Value) (G : PH) (r : Rs) (a n : Nat) (f : Nat → Int32), decode (mC M) pc = .ok (.arraylength, 1) → G.2.2 a = some (.inl (9, n, .inl f)) → T M (pc + 1) L (.int (Int32.ofNat n) :: st) G r → T M pc L (.ref a :: st) G r
def Ru_new (T : TT) : Prop := ∀ (M : MI) (pc : Nat) (L : PLoc) (st : List Value) (G : PH) (r : Rs) (idx ci : Nat) (fs : List Value), decode (mC M) pc = .ok (.new idx, 3) → linkNew (mY M).cls idx ci fs → T M (pc + 3) L (.ref G.1 :: st) (phNew G fs.length (.inr (ci, fs))) r → T M pc L (st) G r
def Ru_newi (T : TT) : Prop := ∀ (M : MI) (pc : Nat) (L : PLoc) (st : List Value) (G : PH) (r : Rs) (n : Nat) (x : Int32), decode (mC M) pc = .ok (.newarray .int, 2) → ¬ x < 0 → x.toNatClampNeg = n → n ≤ 1000000 → T M (pc + 2) L (.ref G.1 :: st) (phNew G n (.inl (0, n, .inl (fun _ => 0)))) r → T M pc L (.int x :: st) G r
def Ru_newl (T : TT) : Prop := ∀ (M : MI) (pc : Nat) (L : PLoc) (st : List Value) (G : PH) (r : Rs) (n : Nat) (x : Int32), decode (mC M) pc = .ok (.newarray .long, 2) → ¬ x < 0 → x.toNatClampNeg = n → n ≤ 1000000 → T M (pc + 2) L (.ref G.1 :: st) (phNew G n (.inl (1, n, .inr (.inl (fun _ => 0))))) r → T M pc L (.int x :: st) G r
def Ru_newz (T : TT) : Prop := ∀ (M : MI) (pc : Nat) (L : PLoc) (st : List Value) (G : PH) (r : Rs) (n : Nat) (x : Int32), decode (mC M) pc = .ok (.newarray .boolean, 2) → ¬ x < 0 → x.toNatClampNeg = n → n ≤ 1000000 → T M (pc + 2) L (.ref G.1 :: st) (phNew G n (.inl (2, n, .inl (fun _ => 0)))) r → T M pc L (.int x :: st) G r
def Ru_anew (T : TT) : Prop := ∀ (M : MI) (pc : Nat) (L : PLoc) (st : List Value) (G : PH) (r : Rs) (idx n : Nat) (x : Int32), decode (mC M) pc = .ok (.anewarray idx, 3) → (Cond.classLink (mY M).cls idx RX1 ∈ lw_tbl ∧ Cond.arrayOver (.object RX1) ∈ lw_tbl) → ¬ x < 0 → x.toNatClampNeg = n → n ≤ 1000000 → T M (pc + 3) L (.ref G.1 :: st) (phNew G n (.inl (3, n, .inr (.inr (.inr (.inr (fun _ => none))))))) r → T M pc L (.int x :: st) G r
def Ru_copyi (T : TT) : Prop := ∀ (M : MI) (pc : Nat) (L : PLoc) (st : List Value) (G : PH) (r : Rs) (idx a b n1 n2 : Nat) (sp dp n : Int32) (f g : Nat → Int32), decode (mC M) pc = .ok (.invokestatic idx, 3) → linkC (mY M).cls idx → G.2.2 a = some (.inl (0, n1, .inl f)) → G.2.2 b = some (.inl (0, n2, .inl g)) → ¬ sp < 0 → ¬ dp < 0 → ¬ n < 0 → sp.toNatClampNeg + n.toNatClampNeg ≤ n1 → dp.toNatClampNeg + n.toNatClampNeg ≤ n2 → 1 ≤ mFr M → (st.map fun v => v.category).sum + 18 ≤ mLc M → T M (pc + 3) L st (phUp G b (.inl (0, n2, .inl (va_cpy f g sp.toNatClampNeg dp.toNatClampNeg n.toNatClampNeg)))) r → T M pc L (.int n :: .int dp :: .ref b :: .int sp :: .ref a :: st) G r
def Ru_copyl (T : TT) : Prop := ∀ (M : MI) (pc : Nat) (L : PLoc) (st : List Value) (G : PH) (r : Rs) (idx a b n1 n2 : Nat) (sp dp n : Int32) (f g : Nat → Int64), decode (mC M) pc = .ok (.invokestatic idx, 3) → linkC (mY M).cls idx → G.2.2 a = some (.inl (1, n1, .inr (.inl f))) → G.2.2 b = some (.inl (1, n2, .inr (.inl g))) → ¬ sp < 0 → ¬ dp < 0 → ¬ n < 0 → sp.toNatClampNeg + n.toNatClampNeg ≤ n1 → dp.toNatClampNeg + n.toNatClampNeg ≤ n2 → 1 ≤ mFr M → (st.map fun v => v.category).sum + 18 ≤ mLc M → T M (pc + 3) L st (phUp G b (.inl (1, n2, .inr (.inl (va_cpy f g sp.toNatClampNeg dp.toNatClampNeg n.toNatClampNeg))))) r → T M pc L (.int n :: .int dp :: .ref b :: .int sp :: .ref a :: st) G r
def Ru_mmax (T : TT) : Prop := ∀ (M : MI) (pc : Nat) (L : PLoc) (st : List Value) (G : PH) (r : Rs) (idx : Nat) (x y : Int32), decode (mC M) pc = .ok (.invokestatic idx, 3) → linkM (mY M).cls idx Lib.Math.max.name Lib.Math.max.code → 1 ≤ mFr M → (st.map fun v => v.category).sum + 13 ≤ mLc M → T M (pc + 3) L (.int (if x < y then y else x) :: st) G r → T M pc L (.int y :: .int x :: st) G r
def Ru_mmin (T : TT) : Prop := ∀ (M : MI) (pc : Nat) (L : PLoc) (st : List Value) (G : PH) (r : Rs) (idx : Nat) (x y : Int32), decode (mC M) pc = .ok (.invokestatic idx, 3) → linkM (mY M).cls idx Lib.Math.min.name Lib.Math.min.code → 1 ≤ mFr M → (st.map fun v => v.category).sum + 13 ≤ mLc M → T M (pc + 3) L (.int (if y < x then y else x) :: st) G r → T M pc L (.int y :: .int x :: st) G r
def Ru_objI (T : TT) : Prop := ∀ (M : MI) (pc : Nat) (L : PLoc) (st : List Value) (G : PH) (r : Rs) (idx a : Nat), decode (mC M) pc = .ok (.invokespecial idx, 3) → linkO (mY M).cls idx → 1 ≤ mFr M → (st.map fun v => v.category).sum + 12 ≤ mLc M → T M (pc + 3) L st G r → T M pc L (.ref a :: st) G r
def Ru_callV (T : TT) : Prop := ∀ (M : MI) (pc : Nat) (L : PLoc) (st : List Value) (G : PH) (r : Rs) (idx b ci : Nat) (N : MI) (As fs : List Value) (v : Option Value) (G1 : PH), decode (mC M) pc = .ok (.invokevirtual idx, 3) → linkV (mY M).cls idx N → G.2.2 b = some (.inr (ci, fs)) → (vwCl[ci]?).map (fun q => q.1) = some (mY N).cls → As.length = mNp N → (st.map fun v => v.category).sum ≤ 8 → mFr N + 1 ≤ mFr M → 8 + (mL N + 11) + mLc N ≤ mLc M → (entL (.ref b :: As)).length ≤ mL N → T N 0 (ent N (.ref b :: As)) [] G (v, G1) → T M (pc + 3) L (v.toList ++ st) G1 r → T M pc L (As.reverse ++ .ref b :: st) G r
def Ru_callS (T : TT) : Prop := ∀ (M : MI) (pc : Nat) (L : PLoc) (st : List Value) (G : PH) (r : Rs) (idx : Nat) (N : MI) (As : List Value) (v : Option Value) (G1 : PH), decode (mC M) pc = .ok (.invokestatic idx, 3) → linkS (mY M).cls idx N → As.length = mNp N → (st.map fun v => v.category).sum ≤ 8 → mFr N + 1 ≤ mFr M → 8 + (mL N + 11) + mLc N ≤ mLc M → (entL As).length ≤ mL N → T N 0 (ent N As) [] G (v, G1) → T M (pc + 3) L (v.toList ++ st) G1 r → T M pc L (As.reverse ++ st) G r
def Ru_callN (T : TT) : Prop := ∀ (M : MI) (pc : Nat) (L : PLoc) (st : List Value) (G : PH) (r : Rs) (idx : Nat) (N : MI) (As : List Value) (v : Option Value) (G1 : PH), decode (mC M) pc = .ok (.invokestatic idx, 3) → linkN (mY M).cls idx N → As.length = mNp N → (st.map fun v => v.category).sum ≤ 8 → mFr N + 1 ≤ mFr M → 8 + (mL N + 11) + mLc N ≤ mLc M → (entL As).length ≤ mL N → T N 0 (ent N As) [] G (v, G1) → T M (pc + 3) L (v.toList ++ st) G1 r → T M pc L (As.reverse ++ st) G r
def Ru_callI (T : TT) : Prop := ∀ (M : MI) (pc : Nat) (L : PLoc) (st : List Value) (G : PH) (r : Rs) (idx b : Nat) (N : MI) (As : List Value) (v : Option Value) (G1 : PH), decode (mC M) pc = .ok (.invokespecial idx, 3) → linkI (mY M).cls idx N → As.length = mNp N → (st.map fun v => v.category).sum ≤ 8 → mFr N + 1 ≤ mFr M → 8 + (mL N + 11) + mLc N ≤ mLc M → (entL (.ref b :: As)).length ≤ mL N → T N 0 (ent N (.ref b :: As)) [] G (v, G1) → T M (pc + 3) L (v.toList ++ st) G1 r → T M pc L (As.reverse ++ .ref b :: st) G r
def Ru_iret (T : TT) : Prop := ∀ (M : MI) (pc : Nat) (L : PLoc) (G : PH) (v : Int32) (ty : FieldType), decode (mC M) pc = .ok (.ireturn, 1) → mR M = some ty → narrow ty (.int v) = .int v → T M pc L ([.int v]) G (some (.int v), G)
def Ru_lret (T : TT) : Prop := ∀ (M : MI) (pc : Nat) (L : PLoc) (G : PH) (v : Int64), decode (mC M) pc = .ok (.lreturn, 1) → mR M = some .long → T M pc L ([.long v]) G (some (.long v), G)
def Ru_aret (T : TT) : Prop := ∀ (M : MI) (pc : Nat) (L : PLoc) (G : PH) (v : Value) (rt : FieldType), decode (mC M) pc = .ok (.areturn, 1) → mR M = some rt → ((∃ n, rt = .object n) ∨ ∃ t, rt = .array t) → isRf v → T M pc L ([v]) G (some v, G)
def Ru_vret (T : TT) : Prop := ∀ (M : MI) (pc : Nat) (L : PLoc) (G : PH), decode (mC M) pc = .ok (.return_, 1) → mR M = none → T M pc L ([]) G (none, G)
def Closed (T : TT) : Prop := Ru_iconst T ∧ Ru_bipush T ∧ Ru_sipush T ∧ Ru_lconst T ∧ Ru_null T ∧ Ru_ldc T ∧ Ru_ldc2 T ∧ Ru_iload_n T ∧ Ru_iload T ∧ Ru_lload_n T ∧ Ru_lload T ∧ Ru_aload_n T ∧ Ru_aload T ∧ Ru_istore_n T ∧ Ru_istore T ∧ Ru_lstore_n T ∧ Ru_lstore T ∧ Ru_astore_n T ∧ Ru_astore T ∧ Ru_iinc T ∧ Ru_iadd T ∧ Ru_isub T ∧ Ru_imul T ∧ Ru_iand T ∧ Ru_ineg T ∧ Ru_ladd T ∧ Ru_lmul T ∧ Ru_land T ∧ Ru_lor T ∧ Ru_lxor T ∧ Ru_lrem T ∧ Ru_i2l T ∧ Ru_l2i T ∧ Ru_lushr T ∧ Ru_lshl T ∧ Ru_lcmp T ∧ Ru_dup T ∧ Ru_pop T ∧ Ru_dup2 T ∧ Ru_pop2 T ∧ Ru_if_eq T ∧ Ru_if_ne T ∧ Ru_if_lt T ∧ Ru_if_ge T ∧ Ru_if_gt T ∧ Ru_if_le T ∧ Ru_icmp_eq T ∧ Ru_icmp_ne T ∧ Ru_icmp_lt T ∧ Ru_icmp_ge T ∧ Ru_icmp_gt T ∧ Ru_icmp_le T ∧ Ru_goto T ∧ Ru_ifnull_r T ∧ Ru_ifnull_n T ∧ Ru_ifnonnull_r T ∧ Ru_ifnonnull_n T ∧ Ru_tswOut T ∧ Ru_tswIn T ∧ Ru_get T ∧ Ru_put T ∧ Ru_putF T ∧ Ru_iald T ∧ Ru_zald T ∧ Ru_lald T ∧ Ru_aald T ∧ Ru_iast T ∧ Ru_zast T ∧ Ru_last T ∧ Ru_aast T ∧ Ru_alen T ∧ Ru_sld T ∧ Ru_slen T ∧ Ru_new T ∧ Ru_newi T ∧ Ru_newl T ∧ Ru_newz T ∧ Ru_anew T ∧ Ru_copyi T ∧ Ru_copyl T ∧ Ru_mmax T ∧ Ru_mmin T ∧ Ru_objI T ∧ Ru_callV T ∧ Ru_callS T ∧ Ru_callN T ∧ Ru_callI T ∧ Ru_iret T ∧ Ru_lret T ∧ Ru_aret T ∧ Ru_vret T
def Ex (M : MI) (pc : Nat) (L : PLoc) (st : List Value) (G : PH) (r : Rs) : Prop := ∀ T : TT, Closed T → T M pc L st G r
theorem cl_iconst {T : TT} (h : Closed T) : Ru_iconst T := h.1
theorem cl_bipush {T : TT} (h : Closed T) : Ru_bipush T := h.2.1
theorem cl_sipush {T : TT} (h : Closed T) : Ru_sipush T := h.2.2.1
theorem cl_lconst {T : TT} (h : Closed T) : Ru_lconst T := h.2.2.2.1
theorem cl_null {T : TT} (h : Closed T) : Ru_null T := h.2.2.2.2.1
theorem cl_ldc {T : TT} (h : Closed T) : Ru_ldc T := h.2.2.2.2.2.1
theorem cl_ldc2 {T : TT} (h : Closed T) : Ru_ldc2 T := h.2.2.2.2.2.2.1
theorem cl_iload_n {T : TT} (h : Closed T) : Ru_iload_n T := h.2.2.2.2.2.2.2.1
theorem cl_iload {T : TT} (h : Closed T) : Ru_iload T := h.2.2.2.2.2.2.2.2.1
theorem cl_lload_n {T : TT} (h : Closed T) : Ru_lload_n T := h.2.2.2.2.2.2.2.2.2.1
theorem cl_lload {T : TT} (h : Closed T) : Ru_lload T := h.2.2.2.2.2.2.2.2.2.2.1
theorem cl_aload_n {T : TT} (h : Closed T) : Ru_aload_n T := h.2.2.2.2.2.2.2.2.2.2.2.1
theorem cl_aload {T : TT} (h : Closed T) : Ru_aload T := h.2.2.2.2.2.2.2.2.2.2.2.2.1
theorem cl_istore_n {T : TT} (h : Closed T) : Ru_istore_n T := h.2.2.2.2.2.2.2.2.2.2.2.2.2.1
theorem cl_istore {T : TT} (h : Closed T) : Ru_istore T := h.2.2.2.2.2.2.2.2.2.2.2.2.2.2.1
theorem cl_lstore_n {T : TT} (h : Closed T) : Ru_lstore_n T := h.2.2.2.2.2.2.2.2.2.2.2.2.2.2.2.1
theorem cl_lstore {T : TT} (h : Closed T) : Ru_lstore T := h.2.2.2.2.2.2.2.2.2.2.2.2.2.2.2.2.1
theorem cl_astore_n {T : TT} (h : Closed T) : Ru_astore_n T := h.2.2.2.2.2.2.2.2.2.2.2.2.2.2.2.2.2.1
theorem cl_astore {T : TT} (h : Closed T) : Ru_astore T := h.2.2.2.2.2.2.2.2.2.2.2.2.2.2.2.2.2.2.1
theorem cl_iinc {T : TT} (h : Closed T) : Ru_iinc T := h.2.2.2.2.2.2.2.2.2.2.2.2.2.2.2.2.2.2.2.1
theorem cl_iadd {T : TT} (h : Closed T) : Ru_iadd T := h.2.2.2.2.2.2.2.2.2.2.2.2.2.2.2.2.2.2.2.2.1
theorem cl_isub {T : TT} (h : Closed T) : Ru_isub T := h.2.2.2.2.2.2.2.2.2.2.2.2.2.2.2.2.2.2.2.2.2.1
theorem cl_imul {T : TT} (h : Closed T) : Ru_imul T := h.2.2.2.2.2.2.2.2.2.2.2.2.2.2.2.2.2.2.2.2.2.2.1
theorem cl_iand {T : TT} (h : Closed T) : Ru_iand T := h.2.2.2.2.2.2.2.2.2.2.2.2.2.2.2.2.2.2.2.2.2.2.2.1
theorem cl_ineg {T : TT} (h : Closed T) : Ru_ineg T := h.2.2.2.2.2.2.2.2.2.2.2.2.2.2.2.2.2.2.2.2.2.2.2.2.1
theorem cl_ladd {T : TT} (h : Closed T) : Ru_ladd T := h.2.2.2.2.2.2.2.2.2.2.2.2.2.2.2.2.2.2.2.2.2.2.2.2.2.1
theorem cl_lmul {T : TT} (h : Closed T) : Ru_lmul T := h.2.2.2.2.2.2.2.2.2.2.2.2.2.2.2.2.2.2.2.2.2.2.2.2.2.2.1
theorem cl_land {T : TT} (h : Closed T) : Ru_land T := h.2.2.2.2.2.2.2.2.2.2.2.2.2.2.2.2.2.2.2.2.2.2.2.2.2.2.2.1
theorem cl_lor {T : TT} (h : Closed T) : Ru_lor T := h.2.2.2.2.2.2.2.2.2.2.2.2.2.2.2.2.2.2.2.2.2.2.2.2.2.2.2.2.1
theorem cl_lxor {T : TT} (h : Closed T) : Ru_lxor T := h.2.2.2.2.2.2.2.2.2.2.2.2.2.2.2.2.2.2.2.2.2.2.2.2.2.2.2.2.2.1
theorem cl_lrem {T : TT} (h : Closed T) : Ru_lrem T := h.2.2.2.2.2.2.2.2.2.2.2.2.2.2.2.2.2.2.2.2.2.2.2.2.2.2.2.2.2.2.1
theorem cl_i2l {T : TT} (h : Closed T) : Ru_i2l T := h.2.2.2.2.2.2.2.2.2.2.2.2.2.2.2.2.2.2.2.2.2.2.2.2.2.2.2.2.2.2.2.1
theorem cl_l2i {T : TT} (h : Closed T) : Ru_l2i T := h.2.2.2.2.2.2.2.2.2.2.2.2.2.2.2.2.2.2.2.2.2.2.2.2.2.2.2.2.2.2.2.2.1
theorem cl_lushr {T : TT} (h : Closed T) : Ru_lushr T := h.2.2.2.2.2.2.2.2.2.2.2.2.2.2.2.2.2.2.2.2.2.2.2.2.2.2.2.2.2.2.2.2.2.1
theorem cl_lshl {T : TT} (h : Closed T) : Ru_lshl T := h.2.2.2.2.2.2.2.2.2.2.2.2.2.2.2.2.2.2.2.2.2.2.2.2.2.2.2.2.2.2.2.2.2.2.1
theorem cl_lcmp {T : TT} (h : Closed T) : Ru_lcmp T := h.2.2.2.2.2.2.2.2.2.2.2.2.2.2.2.2.2.2.2.2.2.2.2.2.2.2.2.2.2.2.2.2.2.2.2.1
theorem cl_dup {T : TT} (h : Closed T) : Ru_dup T := h.2.2.2.2.2.2.2.2.2.2.2.2.2.2.2.2.2.2.2.2.2.2.2.2.2.2.2.2.2.2.2.2.2.2.2.2.1
theorem cl_pop {T : TT} (h : Closed T) : Ru_pop T := h.2.2.2.2.2.2.2.2.2.2.2.2.2.2.2.2.2.2.2.2.2.2.2.2.2.2.2.2.2.2.2.2.2.2.2.2.2.1
theorem cl_dup2 {T : TT} (h : Closed T) : Ru_dup2 T := h.2.2.2.2.2.2.2.2.2.2.2.2.2.2.2.2.2.2.2.2.2.2.2.2.2.2.2.2.2.2.2.2.2.2.2.2.2.2.1
theorem cl_pop2 {T : TT} (h : Closed T) : Ru_pop2 T := h.2.2.2.2.2.2.2.2.2.2.2.2.2.2.2.2.2.2.2.2.2.2.2.2.2.2.2.2.2.2.2.2.2.2.2.2.2.2.2.1
theorem cl_if_eq {T : TT} (h : Closed T) : Ru_if_eq T := h.2.2.2.2.2.2.2.2.2.2.2.2.2.2.2.2.2.2.2.2.2.2.2.2.2.2.2.2.2.2.2.2.2.2.2.2.2.2.2.2.1
theorem cl_if_ne {T : TT} (h : Closed T) : Ru_if_ne T := h.2.2.2.2.2.2.2.2.2.2.2.2.2.2.2.2.2.2.2.2.2.2.2.2.2.2.2.2.2.2.2.2.2.2.2.2.2.2.2.2.2.1
theorem cl_if_lt {T : TT} (h : Closed T) : Ru_if_lt T := h.2.2.2.2.2.2.2.2.2.2.2.2.2.2.2.2.2.2.2.2.2.2.2.2.2.2.2.2.2.2.2.2.2.2.2.2.2.2.2.2.2.2.1
theorem cl_if_ge {T : TT} (h : Closed T) : Ru_if_ge T := h.2.2.2.2.2.2.2.2.2.2.2.2.2.2.2.2.2.2.2.2.2.2.2.2.2.2.2.2.2.2.2.2.2.2.2.2.2.2.2.2.2.2.2.1
theorem cl_if_gt {T : TT} (h : Closed T) : Ru_if_gt T := h.2.2.2.2.2.2.2.2.2.2.2.2.2.2.2.2.2.2.2.2.2.2.2.2.2.2.2.2.2.2.2.2.2.2.2.2.2.2.2.2.2.2.2.2.1
theorem cl_if_le {T : TT} (h : Closed T) : Ru_if_le T := h.2.2.2.2.2.2.2.2.2.2.2.2.2.2.2.2.2.2.2.2.2.2.2.2.2.2.2.2.2.2.2.2.2.2.2.2.2.2.2.2.2.2.2.2.2.1
theorem cl_icmp_eq {T : TT} (h : Closed T) : Ru_icmp_eq T := h.2.2.2.2.2.2.2.2.2.2.2.2.2.2.2.2.2.2.2.2.2.2.2.2.2.2.2.2.2.2.2.2.2.2.2.2.2.2.2.2.2.2.2.2.2.2.1
theorem cl_icmp_ne {T : TT} (h : Closed T) : Ru_icmp_ne T := h.2.2.2.2.2.2.2.2.2.2.2.2.2.2.2.2.2.2.2.2.2.2.2.2.2.2.2.2.2.2.2.2.2.2.2.2.2.2.2.2.2.2.2.2.2.2.2.1
theorem cl_icmp_lt {T : TT} (h : Closed T) : Ru_icmp_lt T := h.2.2.2.2.2.2.2.2.2.2.2.2.2.2.2.2.2.2.2.2.2.2.2.2.2.2.2.2.2.2.2.2.2.2.2.2.2.2.2.2.2.2.2.2.2.2.2.2.1
theorem cl_icmp_ge {T : TT} (h : Closed T) : Ru_icmp_ge T := h.2.2.2.2.2.2.2.2.2.2.2.2.2.2.2.2.2.2.2.2.2.2.2.2.2.2.2.2.2.2.2.2.2.2.2.2.2.2.2.2.2.2.2.2.2.2.2.2.2.1
theorem cl_icmp_gt {T : TT} (h : Closed T) : Ru_icmp_gt T := h.2.2.2.2.2.2.2.2.2.2.2.2.2.2.2.2.2.2.2.2.2.2.2.2.2.2.2.2.2.2.2.2.2.2.2.2.2.2.2.2.2.2.2.2.2.2.2.2.2.2.1
theorem cl_icmp_le {T : TT} (h : Closed T) : Ru_icmp_le T := h.2.2.2.2.2.2.2.2.2.2.2.2.2.2.2.2.2.2.2.2.2.2.2.2.2.2.2.2.2.2.2.2.2.2.2.2.2.2.2.2.2.2.2.2.2.2.2.2.2.2.2.1
theorem cl_goto {T : TT} (h : Closed T) : Ru_goto T := h.2.2.2.2.2.2.2.2.2.2.2.2.2.2.2.2.2.2.2.2.2.2.2.2.2.2.2.2.2.2.2.2.2.2.2.2.2.2.2.2.2.2.2.2.2.2.2.2.2.2.2.2.1
theorem cl_ifnull_r {T : TT} (h : Closed T) : Ru_ifnull_r T := h.2.2.2.2.2.2.2.2.2.2.2.2.2.2.2.2.2.2.2.2.2.2.2.2.2.2.2.2.2.2.2.2.2.2.2.2.2.2.2.2.2.2.2.2.2.2.2.2.2.2.2.2.2.1
theorem cl_ifnull_n {T : TT} (h : Closed T) : Ru_ifnull_n T := h.2.2.2.2.2.2.2.2.2.2.2.2.2.2.2.2.2.2.2.2.2.2.2.2.2.2.2.2.2.2.2.2.2.2.2.2.2.2.2.2.2.2.2.2.2.2.2.2.2.2.2.2.2.2.1
theorem cl_ifnonnull_r {T : TT} (h : Closed T) : Ru_ifnonnull_r T := h.2.2.2.2.2.2.2.2.2.2.2.2.2.2.2.2.2.2.2.2.2.2.2.2.2.2.2.2.2.2.2.2.2.2.2.2.2.2.2.2.2.2.2.2.2.2.2.2.2.2.2.2.2.2.2.1
theorem cl_ifnonnull_n {T : TT} (h : Closed T) : Ru_ifnonnull_n T := h.2.2.2.2.2.2.2.2.2.2.2.2.2.2.2.2.2.2.2.2.2.2.2.2.2.2.2.2.2.2.2.2.2.2.2.2.2.2.2.2.2.2.2.2.2.2.2.2.2.2.2.2.2.2.2.2.1
theorem cl_tswOut {T : TT} (h : Closed T) : Ru_tswOut T := h.2.2.2.2.2.2.2.2.2.2.2.2.2.2.2.2.2.2.2.2.2.2.2.2.2.2.2.2.2.2.2.2.2.2.2.2.2.2.2.2.2.2.2.2.2.2.2.2.2.2.2.2.2.2.2.2.2.1
theorem cl_tswIn {T : TT} (h : Closed T) : Ru_tswIn T := h.2.2.2.2.2.2.2.2.2.2.2.2.2.2.2.2.2.2.2.2.2.2.2.2.2.2.2.2.2.2.2.2.2.2.2.2.2.2.2.2.2.2.2.2.2.2.2.2.2.2.2.2.2.2.2.2.2.2.1
theorem cl_get {T : TT} (h : Closed T) : Ru_get T := h.2.2.2.2.2.2.2.2.2.2.2.2.2.2.2.2.2.2.2.2.2.2.2.2.2.2.2.2.2.2.2.2.2.2.2.2.2.2.2.2.2.2.2.2.2.2.2.2.2.2.2.2.2.2.2.2.2.2.2.1
theorem cl_put {T : TT} (h : Closed T) : Ru_put T := h.2.2.2.2.2.2.2.2.2.2.2.2.2.2.2.2.2.2.2.2.2.2.2.2.2.2.2.2.2.2.2.2.2.2.2.2.2.2.2.2.2.2.2.2.2.2.2.2.2.2.2.2.2.2.2.2.2.2.2.2.1
theorem cl_putF {T : TT} (h : Closed T) : Ru_putF T := h.2.2.2.2.2.2.2.2.2.2.2.2.2.2.2.2.2.2.2.2.2.2.2.2.2.2.2.2.2.2.2.2.2.2.2.2.2.2.2.2.2.2.2.2.2.2.2.2.2.2.2.2.2.2.2.2.2.2.2.2.2.1
theorem cl_iald {T : TT} (h : Closed T) : Ru_iald T := h.2.2.2.2.2.2.2.2.2.2.2.2.2.2.2.2.2.2.2.2.2.2.2.2.2.2.2.2.2.2.2.2.2.2.2.2.2.2.2.2.2.2.2.2.2.2.2.2.2.2.2.2.2.2.2.2.2.2.2.2.2.2.1
theorem cl_zald {T : TT} (h : Closed T) : Ru_zald T := h.2.2.2.2.2.2.2.2.2.2.2.2.2.2.2.2.2.2.2.2.2.2.2.2.2.2.2.2.2.2.2.2.2.2.2.2.2.2.2.2.2.2.2.2.2.2.2.2.2.2.2.2.2.2.2.2.2.2.2.2.2.2.2.1
theorem cl_lald {T : TT} (h : Closed T) : Ru_lald T := h.2.2.2.2.2.2.2.2.2.2.2.2.2.2.2.2.2.2.2.2.2.2.2.2.2.2.2.2.2.2.2.2.2.2.2.2.2.2.2.2.2.2.2.2.2.2.2.2.2.2.2.2.2.2.2.2.2.2.2.2.2.2.2.2.1
theorem cl_aald {T : TT} (h : Closed T) : Ru_aald T := h.2.2.2.2.2.2.2.2.2.2.2.2.2.2.2.2.2.2.2.2.2.2.2.2.2.2.2.2.2.2.2.2.2.2.2.2.2.2.2.2.2.2.2.2.2.2.2.2.2.2.2.2.2.2.2.2.2.2.2.2.2.2.2.2.2.1
theorem cl_iast {T : TT} (h : Closed T) : Ru_iast T := h.2.2.2.2.2.2.2.2.2.2.2.2.2.2.2.2.2.2.2.2.2.2.2.2.2.2.2.2.2.2.2.2.2.2.2.2.2.2.2.2.2.2.2.2.2.2.2.2.2.2.2.2.2.2.2.2.2.2.2.2.2.2.2.2.2.2.1
theorem cl_zast {T : TT} (h : Closed T) : Ru_zast T := h.2.2.2.2.2.2.2.2.2.2.2.2.2.2.2.2.2.2.2.2.2.2.2.2.2.2.2.2.2.2.2.2.2.2.2.2.2.2.2.2.2.2.2.2.2.2.2.2.2.2.2.2.2.2.2.2.2.2.2.2.2.2.2.2.2.2.2.1
theorem cl_last {T : TT} (h : Closed T) : Ru_last T := h.2.2.2.2.2.2.2.2.2.2.2.2.2.2.2.2.2.2.2.2.2.2.2.2.2.2.2.2.2.2.2.2.2.2.2.2.2.2.2.2.2.2.2.2.2.2.2.2.2.2.2.2.2.2.2.2.2.2.2.2.2.2.2.2.2.2.2.2.1
theorem cl_aast {T : TT} (h : Closed T) : Ru_aast T := h.2.2.2.2.2.2.2.2.2.2.2.2.2.2.2.2.2.2.2.2.2.2.2.2.2.2.2.2.2.2.2.2.2.2.2.2.2.2.2.2.2.2.2.2.2.2.2.2.2.2.2.2.2.2.2.2.2.2.2.2.2.2.2.2.2.2.2.2.2.1
theorem cl_alen {T : TT} (h : Closed T) : Ru_alen T := h.2.2.2.2.2.2.2.2.2.2.2.2.2.2.2.2.2.2.2.2.2.2.2.2.2.2.2.2.2.2.2.2.2.2.2.2.2.2.2.2.2.2.2.2.2.2.2.2.2.2.2.2.2.2.2.2.2.2.2.2.2.2.2.2.2.2.2.2.2.2.1
theorem cl_sld {T : TT} (h : Closed T) : Ru_sld T := h.2.2.2.2.2.2.2.2.2.2.2.2.2.2.2.2.2.2.2.2.2.2.2.2.2.2.2.2.2.2.2.2.2.2.2.2.2.2.2.2.2.2.2.2.2.2.2.2.2.2.2.2.2.2.2.2.2.2.2.2.2.2.2.2.2.2.2.2.2.2.2.1
theorem cl_slen {T : TT} (h : Closed T) : Ru_slen T := h.2.2.2.2.2.2.2.2.2.2.2.2.2.2.2.2.2.2.2.2.2.2.2.2.2.2.2.2.2.2.2.2.2.2.2.2.2.2.2.2.2.2.2.2.2.2.2.2.2.2.2.2.2.2.2.2.2.2.2.2.2.2.2.2.2.2.2.2.2.2.2.2.1
theorem cl_new {T : TT} (h : Closed T) : Ru_new T := h.2.2.2.2.2.2.2.2.2.2.2.2.2.2.2.2.2.2.2.2.2.2.2.2.2.2.2.2.2.2.2.2.2.2.2.2.2.2.2.2.2.2.2.2.2.2.2.2.2.2.2.2.2.2.2.2.2.2.2.2.2.2.2.2.2.2.2.2.2.2.2.2.2.1
theorem cl_newi {T : TT} (h : Closed T) : Ru_newi T := h.2.2.2.2.2.2.2.2.2.2.2.2.2.2.2.2.2.2.2.2.2.2.2.2.2.2.2.2.2.2.2.2.2.2.2.2.2.2.2.2.2.2.2.2.2.2.2.2.2.2.2.2.2.2.2.2.2.2.2.2.2.2.2.2.2.2.2.2.2.2.2.2.2.2.1
theorem cl_newl {T : TT} (h : Closed T) : Ru_newl T := h.2.2.2.2.2.2.2.2.2.2.2.2.2.2.2.2.2.2.2.2.2.2.2.2.2.2.2.2.2.2.2.2.2.2.2.2.2.2.2.2.2.2.2.2.2.2.2.2.2.2.2.2.2.2.2.2.2.2.2.2.2.2.2.2.2.2.2.2.2.2.2.2.2.2.2.1
theorem cl_newz {T : TT} (h : Closed T) : Ru_newz T := h.2.2.2.2.2.2.2.2.2.2.2.2.2.2.2.2.2.2.2.2.2.2.2.2.2.2.2.2.2.2.2.2.2.2.2.2.2.2.2.2.2.2.2.2.2.2.2.2.2.2.2.2.2.2.2.2.2.2.2.2.2.2.2.2.2.2.2.2.2.2.2.2.2.2.2.2.1
theorem cl_anew {T : TT} (h : Closed T) : Ru_anew T := h.2.2.2.2.2.2.2.2.2.2.2.2.2.2.2.2.2.2.2.2.2.2.2.2.2.2.2.2.2.2.2.2.2.2.2.2.2.2.2.2.2.2.2.2.2.2.2.2.2.2.2.2.2.2.2.2.2.2.2.2.2.2.2.2.2.2.2.2.2.2.2.2.2.2.2.2.2.1
theorem cl_copyi {T : TT} (h : Closed T) : Ru_copyi T := h.2.2.2.2.2.2.2.2.2.2.2.2.2.2.2.2.2.2.2.2.2.2.2.2.2.2.2.2.2.2.2.2.2.2.2.2.2.2.2.2.2.2.2.2.2.2.2.2.2.2.2.2.2.2.2.2.2.2.2.2.2.2.2.2.2.2.2.2.2.2.2.2.2.2.2.2.2.2.1
theorem cl_copyl {T : TT} (h : Closed T) : Ru_copyl T := h.2.2.2.2.2.2.2.2.2.2.2.2.2.2.2.2.2.2.2.2.2.2.2.2.2.2.2.2.2.2.2.2.2.2.2.2.2.2.2.2.2.2.2.2.2.2.2.2.2.2.2.2.2.2.2.2.2.2.2.2.2.2.2.2.2.2.2.2.2.2.2.2.2.2.2.2.2.2.2.1
theorem cl_mmax {T : TT} (h : Closed T) : Ru_mmax T := h.2.2.2.2.2.2.2.2.2.2.2.2.2.2.2.2.2.2.2.2.2.2.2.2.2.2.2.2.2.2.2.2.2.2.2.2.2.2.2.2.2.2.2.2.2.2.2.2.2.2.2.2.2.2.2.2.2.2.2.2.2.2.2.2.2.2.2.2.2.2.2.2.2.2.2.2.2.2.2.2.1
theorem cl_mmin {T : TT} (h : Closed T) : Ru_mmin T := h.2.2.2.2.2.2.2.2.2.2.2.2.2.2.2.2.2.2.2.2.2.2.2.2.2.2.2.2.2.2.2.2.2.2.2.2.2.2.2.2.2.2.2.2.2.2.2.2.2.2.2.2.2.2.2.2.2.2.2.2.2.2.2.2.2.2.2.2.2.2.2.2.2.2.2.2.2.2.2.2.2.1
theorem cl_objI {T : TT} (h : Closed T) : Ru_objI T := h.2.2.2.2.2.2.2.2.2.2.2.2.2.2.2.2.2.2.2.2.2.2.2.2.2.2.2.2.2.2.2.2.2.2.2.2.2.2.2.2.2.2.2.2.2.2.2.2.2.2.2.2.2.2.2.2.2.2.2.2.2.2.2.2.2.2.2.2.2.2.2.2.2.2.2.2.2.2.2.2.2.2.1
theorem cl_callV {T : TT} (h : Closed T) : Ru_callV T := h.2.2.2.2.2.2.2.2.2.2.2.2.2.2.2.2.2.2.2.2.2.2.2.2.2.2.2.2.2.2.2.2.2.2.2.2.2.2.2.2.2.2.2.2.2.2.2.2.2.2.2.2.2.2.2.2.2.2.2.2.2.2.2.2.2.2.2.2.2.2.2.2.2.2.2.2.2.2.2.2.2.2.2.1
theorem cl_callS {T : TT} (h : Closed T) : Ru_callS T := h.2.2.2.2.2.2.2.2.2.2.2.2.2.2.2.2.2.2.2.2.2.2.2.2.2.2.2.2.2.2.2.2.2.2.2.2.2.2.2.2.2.2.2.2.2.2.2.2.2.2.2.2.2.2.2.2.2.2.2.2.2.2.2.2.2.2.2.2.2.2.2.2.2.2.2.2.2.2.2.2.2.2.2.2.1
theorem cl_callN {T : TT} (h : Closed T) : Ru_callN T := h.2.2.2.2.2.2.2.2.2.2.2.2.2.2.2.2.2.2.2.2.2.2.2.2.2.2.2.2.2.2.2.2.2.2.2.2.2.2.2.2.2.2.2.2.2.2.2.2.2.2.2.2.2.2.2.2.2.2.2.2.2.2.2.2.2.2.2.2.2.2.2.2.2.2.2.2.2.2.2.2.2.2.2.2.2.1
theorem cl_callI {T : TT} (h : Closed T) : Ru_callI T := h.2.2.2.2.2.2.2.2.2.2.2.2.2.2.2.2.2.2.2.2.2.2.2.2.2.2.2.2.2.2.2.2.2.2.2.2.2.2.2.2.2.2.2.2.2.2.2.2.2.2.2.2.2.2.2.2.2.2.2.2.2.2.2.2.2.2.2.2.2.2.2.2.2.2.2.2.2.2.2.2.2.2.2.2.2.2.1
theorem cl_iret {T : TT} (h : Closed T) : Ru_iret T := h.2.2.2.2.2.2.2.2.2.2.2.2.2.2.2.2.2.2.2.2.2.2.2.2.2.2.2.2.2.2.2.2.2.2.2.2.2.2.2.2.2.2.2.2.2.2.2.2.2.2.2.2.2.2.2.2.2.2.2.2.2.2.2.2.2.2.2.2.2.2.2.2.2.2.2.2.2.2.2.2.2.2.2.2.2.2.2.1
theorem cl_lret {T : TT} (h : Closed T) : Ru_lret T := h.2.2.2.2.2.2.2.2.2.2.2.2.2.2.2.2.2.2.2.2.2.2.2.2.2.2.2.2.2.2.2.2.2.2.2.2.2.2.2.2.2.2.2.2.2.2.2.2.2.2.2.2.2.2.2.2.2.2.2.2.2.2.2.2.2.2.2.2.2.2.2.2.2.2.2.2.2.2.2.2.2.2.2.2.2.2.2.2.1
theorem cl_aret {T : TT} (h : Closed T) : Ru_aret T := h.2.2.2.2.2.2.2.2.2.2.2.2.2.2.2.2.2.2.2.2.2.2.2.2.2.2.2.2.2.2.2.2.2.2.2.2.2.2.2.2.2.2.2.2.2.2.2.2.2.2.2.2.2.2.2.2.2.2.2.2.2.2.2.2.2.2.2.2.2.2.2.2.2.2.2.2.2.2.2.2.2.2.2.2.2.2.2.2.2.1
theorem cl_vret {T : TT} (h : Closed T) : Ru_vret T := h.2.2.2.2.2.2.2.2.2.2.2.2.2.2.2.2.2.2.2.2.2.2.2.2.2.2.2.2.2.2.2.2.2.2.2.2.2.2.2.2.2.2.2.2.2.2.2.2.2.2.2.2.2.2.2.2.2.2.2.2.2.2.2.2.2.2.2.2.2.2.2.2.2.2.2.2.2.2.2.2.2.2.2.2.2.2.2.2.2.2
theorem ex_iconst : Ru_iconst Ex := fun _ _ _ _ _ _ _ _ h0 h1 p0 T hT => cl_iconst hT _ _ _ _ _ _ _ _ h0 h1 (p0 T hT)
theorem ex_bipush : Ru_bipush Ex := fun _ _ _ _ _ _ _ _ h0 h1 p0 T hT => cl_bipush hT _ _ _ _ _ _ _ _ h0 h1 (p0 T hT)
theorem ex_sipush : Ru_sipush Ex := fun _ _ _ _ _ _ _ _ h0 h1 p0 T hT => cl_sipush hT _ _ _ _ _ _ _ _ h0 h1 (p0 T hT)
theorem ex_lconst : Ru_lconst Ex := fun _ _ _ _ _ _ _ _ h0 h1 p0 T hT => cl_lconst hT _ _ _ _ _ _ _ _ h0 h1 (p0 T hT)
theorem ex_null : Ru_null Ex := fun _ _ _ _ _ _ h0 p0 T hT => cl_null hT _ _ _ _ _ _ h0 (p0 T hT)
theorem ex_ldc : Ru_ldc Ex := fun _ _ _ _ _ _ _ _ h0 h1 p0 T hT => cl_ldc hT _ _ _ _ _ _ _ _ h0 h1 (p0 T hT)
theorem ex_ldc2 : Ru_ldc2 Ex := fun _ _ _ _ _ _ _ _ h0 h1 p0 T hT => cl_ldc2 hT _ _ _ _ _ _ _ _ h0 h1 (p0 T hT)
theorem ex_iload_n : Ru_iload_n Ex := fun _ _ _ _ _ _ _ _ h0 h1 p0 T hT => cl_iload_n hT _ _ _ _ _ _ _ _ h0 h1 (p0 T hT)
theorem ex_iload : Ru_iload Ex := fun _ _ _ _ _ _ _ _ h0 h1 p0 T hT => cl_iload hT _ _ _ _ _ _ _ _ h0 h1 (p0 T hT)
theorem ex_lload_n : Ru_lload_n Ex := fun _ _ _ _ _ _ _ _ h0 h1 p0 T hT => cl_lload_n hT _ _ _ _ _ _ _ _ h0 h1 (p0 T hT)
theorem ex_lload : Ru_lload Ex := fun _ _ _ _ _ _ _ _ h0 h1 p0 T hT => cl_lload hT _ _ _ _ _ _ _ _ h0 h1 (p0 T hT)
theorem ex_aload_n : Ru_aload_n Ex := fun _ _ _ _ _ _ _ _ h0 h1 h2 p0 T hT => cl_aload_n hT _ _ _ _ _ _ _ _ h0 h1 h2 (p0 T hT)
theorem ex_aload : Ru_aload Ex := fun _ _ _ _ _ _ _ _ h0 h1 h2 p0 T hT => cl_aload hT _ _ _ _ _ _ _ _ h0 h1 h2 (p0 T hT)
theorem ex_istore_n : Ru_istore_n Ex := fun _ _ _ _ _ _ _ _ _ h0 h1 h2 p0 T hT => cl_istore_n hT _ _ _ _ _ _ _ _ _ h0 h1 h2 (p0 T hT)
theorem ex_istore : Ru_istore Ex := fun _ _ _ _ _ _ _ _ _ h0 h1 h2 p0 T hT => cl_istore hT _ _ _ _ _ _ _ _ _ h0 h1 h2 (p0 T hT)
theorem ex_lstore_n : Ru_lstore_n Ex := fun _ _ _ _ _ _ _ _ _ h0 h1 h2 p0 T hT => cl_lstore_n hT _ _ _ _ _ _ _ _ _ h0 h1 h2 (p0 T hT)
theorem ex_lstore : Ru_lstore Ex := fun _ _ _ _ _ _ _ _ _ h0 h1 h2 p0 T hT => cl_lstore hT _ _ _ _ _ _ _ _ _ h0 h1 h2 (p0 T hT)
theorem ex_astore_n : Ru_astore_n Ex := fun _ _ _ _ _ _ _ _ _ h0 h1 h2 h3 p0 T hT => cl_astore_n hT _ _ _ _ _ _ _ _ _ h0 h1 h2 h3 (p0 T hT)
theorem ex_astore : Ru_astore Ex := fun _ _ _ _ _ _ _ _ _ h0 h1 h2 h3 p0 T hT => cl_astore hT _ _ _ _ _ _ _ _ _ h0 h1 h2 h3 (p0 T hT)
theorem ex_iinc : Ru_iinc Ex := fun _ _ _ _ _ _ _ _ _ _ _ h0 h1 h2 h3 p0 T hT => cl_iinc hT _ _ _ _ _ _ _ _ _ _ _ h0 h1 h2 h3 (p0 T hT)
theorem ex_iadd : Ru_iadd Ex := fun _ _ _ _ _ _ _ _ h0 p0 T hT => cl_iadd hT _ _ _ _ _ _ _ _ h0 (p0 T hT)
theorem ex_isub : Ru_isub Ex := fun _ _ _ _ _ _ _ _ h0 p0 T hT => cl_isub hT _ _ _ _ _ _ _ _ h0 (p0 T hT)
theorem ex_imul : Ru_imul Ex := fun _ _ _ _ _ _ _ _ h0 p0 T hT => cl_imul hT _ _ _ _ _ _ _ _ h0 (p0 T hT)
theorem ex_iand : Ru_iand Ex := fun _ _ _ _ _ _ _ _ h0 p0 T hT => cl_iand hT _ _ _ _ _ _ _ _ h0 (p0 T hT)
theorem ex_ineg : Ru_ineg Ex := fun _ _ _ _ _ _ _ h0 p0 T hT => cl_ineg hT _ _ _ _ _ _ _ h0 (p0 T hT)
theorem ex_ladd : Ru_ladd Ex := fun _ _ _ _ _ _ _ _ h0 p0 T hT => cl_ladd hT _ _ _ _ _ _ _ _ h0 (p0 T hT)
theorem ex_lmul : Ru_lmul Ex := fun _ _ _ _ _ _ _ _ h0 p0 T hT => cl_lmul hT _ _ _ _ _ _ _ _ h0 (p0 T hT)
theorem ex_land : Ru_land Ex := fun _ _ _ _ _ _ _ _ h0 p0 T hT => cl_land hT _ _ _ _ _ _ _ _ h0 (p0 T hT)
theorem ex_lor : Ru_lor Ex := fun _ _ _ _ _ _ _ _ h0 p0 T hT => cl_lor hT _ _ _ _ _ _ _ _ h0 (p0 T hT)
theorem ex_lxor : Ru_lxor Ex := fun _ _ _ _ _ _ _ _ h0 p0 T hT => cl_lxor hT _ _ _ _ _ _ _ _ h0 (p0 T hT)
theorem ex_lrem : Ru_lrem Ex := fun _ _ _ _ _ _ _ _ h0 h1 p0 T hT => cl_lrem hT _ _ _ _ _ _ _ _ h0 h1 (p0 T hT)
theorem ex_i2l : Ru_i2l Ex := fun _ _ _ _ _ _ _ h0 p0 T hT => cl_i2l hT _ _ _ _ _ _ _ h0 (p0 T hT)
theorem ex_l2i : Ru_l2i Ex := fun _ _ _ _ _ _ _ h0 p0 T hT => cl_l2i hT _ _ _ _ _ _ _ h0 (p0 T hT)
theorem ex_lushr : Ru_lushr Ex := fun _ _ _ _ _ _ _ _ h0 p0 T hT => cl_lushr hT _ _ _ _ _ _ _ _ h0 (p0 T hT)
theorem ex_lshl : Ru_lshl Ex := fun _ _ _ _ _ _ _ _ h0 p0 T hT => cl_lshl hT _ _ _ _ _ _ _ _ h0 (p0 T hT)
theorem ex_lcmp : Ru_lcmp Ex := fun _ _ _ _ _ _ _ _ h0 p0 T hT => cl_lcmp hT _ _ _ _ _ _ _ _ h0 (p0 T hT)
theorem ex_dup : Ru_dup Ex := fun _ _ _ _ _ _ _ h0 h1 p0 T hT => cl_dup hT _ _ _ _ _ _ _ h0 h1 (p0 T hT)
theorem ex_pop : Ru_pop Ex := fun _ _ _ _ _ _ _ h0 h1 p0 T hT => cl_pop hT _ _ _ _ _ _ _ h0 h1 (p0 T hT)
theorem ex_dup2 : Ru_dup2 Ex := fun _ _ _ _ _ _ _ _ h0 h1 h2 p0 T hT => cl_dup2 hT _ _ _ _ _ _ _ _ h0 h1 h2 (p0 T hT)
theorem ex_pop2 : Ru_pop2 Ex := fun _ _ _ _ _ _ _ h0 h1 p0 T hT => cl_pop2 hT _ _ _ _ _ _ _ h0 h1 (p0 T hT)
theorem ex_if_eq : Ru_if_eq Ex := fun _ _ _ _ _ _ _ _ _ h0 h1 p0 p1 T hT => cl_if_eq hT _ _ _ _ _ _ _ _ _ h0 h1 (fun c => p0 c T hT) (fun c => p1 c T hT)
theorem ex_if_ne : Ru_if_ne Ex := fun _ _ _ _ _ _ _ _ _ h0 h1 p0 p1 T hT => cl_if_ne hT _ _ _ _ _ _ _ _ _ h0 h1 (fun c => p0 c T hT) (fun c => p1 c T hT)
theorem ex_if_lt : Ru_if_lt Ex := fun _ _ _ _ _ _ _ _ _ h0 h1 p0 p1 T hT => cl_if_lt hT _ _ _ _ _ _ _ _ _ h0 h1 (fun c => p0 c T hT) (fun c => p1 c T hT)
theorem ex_if_ge : Ru_if_ge Ex := fun _ _ _ _ _ _ _ _ _ h0 h1 p0 p1 T hT => cl_if_ge hT _ _ _ _ _ _ _ _ _ h0 h1 (fun c => p0 c T hT) (fun c => p1 c T hT)
theorem ex_if_gt : Ru_if_gt Ex := fun _ _ _ _ _ _ _ _ _ h0 h1 p0 p1 T hT => cl_if_gt hT _ _ _ _ _ _ _ _ _ h0 h1 (fun c => p0 c T hT) (fun c => p1 c T hT)
theorem ex_if_le : Ru_if_le Ex := fun _ _ _ _ _ _ _ _ _ h0 h1 p0 p1 T hT => cl_if_le hT _ _ _ _ _ _ _ _ _ h0 h1 (fun c => p0 c T hT) (fun c => p1 c T hT)
theorem ex_icmp_eq : Ru_icmp_eq Ex := fun _ _ _ _ _ _ _ _ _ _ h0 h1 p0 p1 T hT => cl_icmp_eq hT _ _ _ _ _ _ _ _ _ _ h0 h1 (fun c => p0 c T hT) (fun c => p1 c T hT)
theorem ex_icmp_ne : Ru_icmp_ne Ex := fun _ _ _ _ _ _ _ _ _ _ h0 h1 p0 p1 T hT => cl_icmp_ne hT _ _ _ _ _ _ _ _ _ _ h0 h1 (fun c => p0 c T hT) (fun c => p1 c T hT)
theorem ex_icmp_lt : Ru_icmp_lt Ex := fun _ _ _ _ _ _ _ _ _ _ h0 h1 p0 p1 T hT => cl_icmp_lt hT _ _ _ _ _ _ _ _ _ _ h0 h1 (fun c => p0 c T hT) (fun c => p1 c T hT)
theorem ex_icmp_ge : Ru_icmp_ge Ex := fun _ _ _ _ _ _ _ _ _ _ h0 h1 p0 p1 T hT => cl_icmp_ge hT _ _ _ _ _ _ _ _ _ _ h0 h1 (fun c => p0 c T hT) (fun c => p1 c T hT)
theorem ex_icmp_gt : Ru_icmp_gt Ex := fun _ _ _ _ _ _ _ _ _ _ h0 h1 p0 p1 T hT => cl_icmp_gt hT _ _ _ _ _ _ _ _ _ _ h0 h1 (fun c => p0 c T hT) (fun c => p1 c T hT)
theorem ex_icmp_le : Ru_icmp_le Ex := fun _ _ _ _ _ _ _ _ _ _ h0 h1 p0 p1 T hT => cl_icmp_le hT _ _ _ _ _ _ _ _ _ _ h0 h1 (fun c => p0 c T hT) (fun c => p1 c T hT)
theorem ex_goto : Ru_goto Ex := fun _ _ _ _ _ _ _ _ h0 h1 p0 T hT => cl_goto hT _ _ _ _ _ _ _ _ h0 h1 (p0 T hT)
theorem ex_ifnull_r : Ru_ifnull_r Ex := fun _ _ _ _ _ _ _ _ h0 p0 T hT => cl_ifnull_r hT _ _ _ _ _ _ _ _ h0 (p0 T hT)
theorem ex_ifnull_n : Ru_ifnull_n Ex := fun _ _ _ _ _ _ _ _ h0 h1 p0 T hT => cl_ifnull_n hT _ _ _ _ _ _ _ _ h0 h1 (p0 T hT)
theorem ex_ifnonnull_r : Ru_ifnonnull_r Ex := fun _ _ _ _ _ _ _ _ _ h0 h1 p0 T hT => cl_ifnonnull_r hT _ _ _ _ _ _ _ _ _ h0 h1 (p0 T hT)
theorem ex_ifnonnull_n : Ru_ifnonnull_n Ex := fun _ _ _ _ _ _ _ h0 p0 T hT => cl_ifnonnull_n hT _ _ _ _ _ _ _ h0 (p0 T hT)
theorem ex_tswOut : Ru_tswOut Ex := fun _ _ _ _ _ _ _ _ _ _ _ _ _ h0 h1 h2 p0 T hT => cl_tswOut hT _ _ _ _ _ _ _ _ _ _ _ _ _ h0 h1 h2 (p0 T hT)
theorem ex_tswIn : Ru_tswIn Ex := fun _ _ _ _ _ _ _ _ _ _ _ _ _ _ h0 h1 h2 h3 h4 p0 T hT => cl_tswIn hT _ _ _ _ _ _ _ _ _ _ _ _ _ _ h0 h1 h2 h3 h4 (p0 T hT)
theorem ex_get : Ru_get Ex := fun _ _ _ _ _ _ _ _ _ _ _ _ _ _ h0 h1 h2 h3 p0 T hT => cl_get hT _ _ _ _ _ _ _ _ _ _ _ _ _ _ h0 h1 h2 h3 (p0 T hT)
theorem ex_put : Ru_put Ex := fun _ _ _ _ _ _ _ _ _ _ _ _ _ h0 h1 h2 h3 h4 h5 p0 T hT => cl_put hT _ _ _ _ _ _ _ _ _ _ _ _ _ h0 h1 h2 h3 h4 h5 (p0 T hT)
theorem ex_putF : Ru_putF Ex := fun _ _ _ _ _ _ _ _ _ _ _ _ _ h0 h1 h2 h3 h4 h5 h6 h7 p0 T hT => cl_putF hT _ _ _ _ _ _ _ _ _ _ _ _ _ h0 h1 h2 h3 h4 h5 h6 h7 (p0 T hT)
theorem ex_iald : Ru_iald Ex := fun _ _ _ _ _ _ _ _ _ _ h0 h1 h2 p0 T hT => cl_iald hT _ _ _ _ _ _ _ _ _ _ h0 h1 h2 (p0 T hT)
theorem ex_zald : Ru_zald Ex := fun _ _ _ _ _ _ _ _ _ _ h0 h1 h2 p0 T hT => cl_zald hT _ _ _ _ _ _ _ _ _ _ h0 h1 h2 (p0 T hT)
theorem ex_lald : Ru_lald Ex := fun _ _ _ _ _ _ _ _ _ _ h0 h1 h2 p0 T hT => cl_lald hT _ _ _ _ _ _ _ _ _ _ h0 h1 h2 (p0 T hT)
theorem ex_aald : Ru_aald Ex := fun _ _ _ _ _ _ _ _ _ _ h0 h1 h2 p0 T hT => cl_aald hT _ _ _ _ _ _ _ _ _ _ h0 h1 h2 (p0 T hT)
theorem ex_iast : Ru_iast Ex := fun _ _ _ _ _ _ _ _ _ _ _ h0 h1 h2 p0 T hT => cl_iast hT _ _ _ _ _ _ _ _ _ _ _ h0 h1 h2 (p0 T hT)
theorem ex_zast : Ru_zast Ex := fun _ _ _ _ _ _ _ _ _ _ _ h0 h1 h2 h3 p0 T hT => cl_zast hT _ _ _ _ _ _ _ _ _ _ _ h0 h1 h2 h3 (p0 T hT)
theorem ex_last : Ru_last Ex := fun _ _ _ _ _ _ _ _ _ _ _ h0 h1 h2 p0 T hT => cl_last hT _ _ _ _ _ _ _ _ _ _ _ h0 h1 h2 (p0 T hT)
theorem ex_aast : Ru_aast Ex := fun _ _ _ _ _ _ _ _ _ _ _ _ h0 h1 h2 h3 p0 T hT => cl_aast hT _ _ _ _ _ _ _ _ _ _ _ _ h0 h1 h2 h3 (p0 T hT)
theorem ex_alen : Ru_alen Ex := fun _ _ _ _ _ _ _ _ _ _ h0 h1 h2 h3 p0 T hT => cl_alen hT _ _ _ _ _ _ _ _ _ _ h0 h1 h2 h3 (p0 T hT)
theorem ex_sld : Ru_sld Ex := fun _ _ _ _ _ _ _ _ _ _ h0 h1 h2 p0 T hT => cl_sld hT _ _ _ _ _ _ _ _ _ _ h0 h1 h2 (p0 T hT)
theorem ex_slen : Ru_slen Ex := fun _ _ _ _ _ _ _ _ _ h0 h1 p0 T hT => cl_slen hT _ _ _ _ _ _ _ _ _ h0 h1 (p0 T hT)
theorem ex_new : Ru_new Ex := fun _ _ _ _ _ _ _ _ _ h0 h1 p0 T hT => cl_new hT _ _ _ _ _ _ _ _ _ h0 h1 (p0 T hT)
theorem ex_newi : Ru_newi Ex := fun _ _ _ _ _ _ _ _ h0 h1 h2 h3 p0 T hT => cl_newi hT _ _ _ _ _ _ _ _ h0 h1 h2 h3 (p0 T hT)
theorem ex_newl : Ru_newl Ex := fun _ _ _ _ _ _ _ _ h0 h1 h2 h3 p0 T hT => cl_newl hT _ _ _ _ _ _ _ _ h0 h1 h2 h3 (p0 T hT)
theorem ex_newz : Ru_newz Ex := fun _ _ _ _ _ _ _ _ h0 h1 h2 h3 p0 T hT => cl_newz hT _ _ _ _ _ _ _ _ h0 h1 h2 h3 (p0 T hT)
theorem ex_anew : Ru_anew Ex := fun _ _ _ _ _ _ _ _ _ h0 h1 h2 h3 h4 p0 T hT => cl_anew hT _ _ _ _ _ _ _ _ _ h0 h1 h2 h3 h4 (p0 T hT)
theorem ex_copyi : Ru_copyi Ex := fun _ _ _ _ _ _ _ _ _ _ _ _ _ _ _ _ h0 h1 h2 h3 h4 h5 h6 h7 h8 h9 h10 p0 T hT => cl_copyi hT _ _ _ _ _ _ _ _ _ _ _ _ _ _ _ _ h0 h1 h2 h3 h4 h5 h6 h7 h8 h9 h10 (p0 T hT)
theorem ex_copyl : Ru_copyl Ex := fun _ _ _ _ _ _ _ _ _ _ _ _ _ _ _ _ h0 h1 h2 h3 h4 h5 h6 h7 h8 h9 h10 p0 T hT => cl_copyl hT _ _ _ _ _ _ _ _ _ _ _ _ _ _ _ _ h0 h1 h2 h3 h4 h5 h6 h7 h8 h9 h10 (p0 T hT)
theorem ex_mmax : Ru_mmax Ex := fun _ _ _ _ _ _ _ _ _ h0 h1 h2 h3 p0 T hT => cl_mmax hT _ _ _ _ _ _ _ _ _ h0 h1 h2 h3 (p0 T hT)
theorem ex_mmin : Ru_mmin Ex := fun _ _ _ _ _ _ _ _ _ h0 h1 h2 h3 p0 T hT => cl_mmin hT _ _ _ _ _ _ _ _ _ h0 h1 h2 h3 (p0 T hT)
theorem ex_objI : Ru_objI Ex := fun _ _ _ _ _ _ _ _ h0 h1 h2 h3 p0 T hT => cl_objI hT _ _ _ _ _ _ _ _ h0 h1 h2 h3 (p0 T hT)
theorem ex_callV : Ru_callV Ex := fun _ _ _ _ _ _ _ _ _ _ _ _ _ _ h0 h1 h2 h3 h4 h5 h6 h7 h8 p0 p1 T hT => cl_callV hT _ _ _ _ _ _ _ _ _ _ _ _ _ _ h0 h1 h2 h3 h4 h5 h6 h7 h8 (p0 T hT) (p1 T hT)
theorem ex_callS : Ru_callS Ex := fun _ _ _ _ _ _ _ _ _ _ _ h0 h1 h2 h3 h4 h5 h6 p0 p1 T hT => cl_callS hT _ _ _ _ _ _ _ _ _ _ _ h0 h1 h2 h3 h4 h5 h6 (p0 T hT) (p1 T hT)
theorem ex_callN : Ru_callN Ex := fun _ _ _ _ _ _ _ _ _ _ _ h0 h1 h2 h3 h4 h5 h6 p0 p1 T hT => cl_callN hT _ _ _ _ _ _ _ _ _ _ _ h0 h1 h2 h3 h4 h5 h6 (p0 T hT) (p1 T hT)
theorem ex_callI : Ru_callI Ex := fun _ _ _ _ _ _ _ _ _ _ _ _ h0 h1 h2 h3 h4 h5 h6 p0 p1 T hT => cl_callI hT _ _ _ _ _ _ _ _ _ _ _ _ h0 h1 h2 h3 h4 h5 h6 (p0 T hT) (p1 T hT)
theorem ex_iret : Ru_iret Ex := fun _ _ _ _ _ _ h0 h1 h2 T hT => cl_iret hT _ _ _ _ _ _ h0 h1 h2 
theorem ex_lret : Ru_lret Ex := fun _ _ _ _ _ h0 h1 T hT => cl_lret hT _ _ _ _ _ h0 h1 
theorem ex_aret : Ru_aret Ex := fun _ _ _ _ _ _ h0 h1 h2 h3 T hT => cl_aret hT _ _ _ _ _ _ h0 h1 h2 h3 
theorem ex_vret : Ru_vret Ex := fun _ _ _ _ h0 h1 T hT => cl_vret hT _ _ _ _ h0 h1 
