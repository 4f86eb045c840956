/-- names of cells: kind, world, member (or which rows) -/
abbrev Nm : Type := Nat × Nat × Nat
/-- the store: int fields, long field, int arrays, long arrays, lengths, what is made, the heap's size, slots used -/
abbrev Sg : Type := (Nm → Nat → Int32) × (Nm → Int64) × (Nm → Nat → Int32) × (Nm → Nat → Int64) × (Nm → Nat) × (Nm → Bool) × Nat × Nat
def gI (g : Sg) : Nm → Nat → Int32 := g.1
def gJ (g : Sg) : Nm → Int64 := g.2.1
def gA (g : Sg) : Nm → Nat → Int32 := g.2.2.1
def gB (g : Sg) : Nm → Nat → Int64 := g.2.2.2.1
def gN (g : Sg) : Nm → Nat := g.2.2.2.2.1
def gF (g : Sg) : Nm → Bool := g.2.2.2.2.2.1
def gZ (g : Sg) : Nat := g.2.2.2.2.2.2.1
def gU (g : Sg) : Nat := g.2.2.2.2.2.2.2
def up3 {α : Type} (f : Nm → α) (n : Nm) (v : α) : Nm → α := fun n' => if n' = n then v else f n'
theorem up3_eq {α : Type} {f : Nm → α} {n : Nm} {v : α} : up3 f n v n = v := if_pos rfl
theorem up3_ne {α : Type} {f : Nm → α} {n n' : Nm} {v : α} (h : n' ≠ n) : up3 f n v n' = f n' := if_neg h
def sI (g : Sg) (n : Nm) (k : Nat) (x : Int32) : Sg := (up3 g.1 n (upd (g.1 n) k x), g.2)
def sJ (g : Sg) (n : Nm) (x : Int64) : Sg := (g.1, up3 g.2.1 n x, g.2.2)
def sA (g : Sg) (n : Nm) (f : Nat → Int32) : Sg := (g.1, g.2.1, up3 g.2.2.1 n f, g.2.2.2)
def sB (g : Sg) (n : Nm) (f : Nat → Int64) : Sg := (g.1, g.2.1, g.2.2.1, up3 g.2.2.2.1 n f, g.2.2.2.2)
def sN (g : Sg) (n : Nm) (k : Nat) : Sg := (g.1, g.2.1, g.2.2.1, g.2.2.2.1, up3 g.2.2.2.2.1 n k, g.2.2.2.2.2)
def sF (g : Sg) (n : Nm) : Sg := (g.1, g.2.1, g.2.2.1, g.2.2.2.1, g.2.2.2.2.1, up3 g.2.2.2.2.2.1 n true, g.2.2.2.2.2.2)
def sZ (g : Sg) (z u : Nat) : Sg := (g.1, g.2.1, g.2.2.1, g.2.2.2.1, g.2.2.2.2.1, g.2.2.2.2.2.1, z, u)
def wid (r : Nat) : Int32 := match r with
  | 0 => nI 8
  | 1 => nI 4
  | _ => nI 5
def mst (r : Nat) : Int32 := match r with
  | 0 => nI 1200
  | 1 => nI 20000
  | _ => nI 4000
def cellOf (ad : Nm → Nat) (F : Nm → Bool) (n : Nm) (I : Nat → Int32) (J : Int64) (A : Nat → Int32) (B : Nat → Int64) (N : Nat) : PE := match n with
  | (0, _, _) => .inr (6, [.ref (ad (10, 0, 0)), .ref (ad (1, 0, 0)), .ref (ad (3, 0, 0)), .ref (ad (5, 0, 0)), .ref (ad (6, 0, 0)), va_rf (if F (10, 1, 0) = true then some (ad (10, 1, 0)) else none), va_rf (if F (10, 2, 0) = true then some (ad (10, 2, 0)) else none)])
  | (1, _, _) => .inr (2, [.ref (ad (2, 0, 0)), .int (I 1)])
  | (2, _, _) => .inl (0, 11, .inl A)
  | (3, _, _) => .inr (4, [.ref (ad (4, 0, 0)), .int (I 1)])
  | (4, _, _) => .inl (0, N, .inl A)
  | (5, _, _) => .inl (0, 16, .inl A)
  | (6, _, _) => .inl (0, 64, .inl A)
  | (10, w, _) => .inr (5, [.ref (ad (11, w, 0)), .int (I 1), .ref (ad (12, w, 0)), .ref (ad (13, w, 0)), .ref (ad (20, w, 2)), .ref (ad (14, w, 0)), .ref (ad (15, w, 0)), .ref (ad (16, w, 0))])
  | (11, w, _) => .inl (3, 64, .inr (.inr (.inr (.inr (fun m => if F (30, w, m) = true then some (ad (30, w, m)) else none)))))
  | (12, _, _) => .inl (1, 64, .inr (.inl B))
  | (13, w, _) => .inr (0, [.ref (ad (20, w, 0)), .ref (ad (20, w, 1)), .int (I 2), .int (I 3)])
  | (14, _, _) => .inl (0, 12, .inl A)
  | (15, _, _) => .inl (0, 64, .inl A)
  | (16, _, _) => .inl (0, 64, .inl A)
  | (20, w, r) => .inr (3, [.int (wid r), .int (mst r), .ref (ad (21, w, r)), .int (I 3)])
  | (21, _, _) => .inl (0, N, .inl A)
  | (30, w, m) => .inr (1, [.int (nI m), .int (I 1), .int (I 2), .long J, .int (I 4), .int (I 5), .int (I 6), .int (I 7), .ref (ad (31, w, m)), .ref (ad (32, w, m)), .ref (ad (33, w, m)), .ref (ad (34, w, m)), .ref (ad (35, w, m)), .ref (ad (36, w, m)), .int (I 14), .int (I 15)])
  | (31, _, _) => .inl (0, 64, .inl A)
  | (32, _, _) => .inl (0, 64, .inl A)
  | (33, _, _) => .inl (0, 64, .inl A)
  | (34, _, _) => .inl (0, 64, .inl A)
  | (35, _, _) => .inl (0, 64, .inl A)
  | (36, _, _) => .inl (0, 64, .inl A)
  | (40, _, _) => .inr (7, [.ref (ad (41, 0, 0)), .ref (ad (42, 0, 0)), .ref (ad (43, 0, 0)), .ref (ad (44, 0, 0)), .int (I 4), .ref (ad (45, 0, 0)), .ref (ad (46, 0, 0)), .ref (ad (47, 0, 0)), .ref (ad (48, 0, 0)), .int (I 9), .int (I 10), .int (I 11), .ref (ad (49, 0, 0)), .int (I 13), .int (I 14), .int (I 15)])
  | (41, _, _) => .inl (0, 118735, .inl A)
  | (42, _, _) => .inl (0, 118735, .inl A)
  | (43, _, _) => .inl (1, 64, .inr (.inl B))
  | (44, _, _) => .inl (1, 64, .inr (.inl B))
  | (45, _, _) => .inl (0, 16, .inl A)
  | (46, _, _) => .inl (0, 1300, .inl A)
  | (47, _, _) => .inl (0, 11, .inl A)
  | (48, _, _) => .inl (0, 64, .inl A)
  | (49, _, _) => .inl (2, 64, .inl A)
  | (50, _, _) => .inl (9, N, .inl A)
  | _ => .inr (0, [])
/-- whose making makes the cell -/
def own (n : Nm) : Nm := match n with
  | (0, 0, 0) => (0, 0, 0)
  | (1, 0, 0) => (0, 0, 0)
  | (2, 0, 0) => (0, 0, 0)
  | (3, 0, 0) => (0, 0, 0)
  | (4, 0, 0) => (0, 0, 0)
  | (5, 0, 0) => (0, 0, 0)
  | (6, 0, 0) => (0, 0, 0)
  | (10, w, 0) => (10, w, 0)
  | (11, w, 0) => (10, w, 0)
  | (12, w, 0) => (10, w, 0)
  | (13, w, 0) => (10, w, 0)
  | (14, w, 0) => (10, w, 0)
  | (15, w, 0) => (10, w, 0)
  | (16, w, 0) => (10, w, 0)
  | (20, w, 0) => (10, w, 0)
  | (20, w, 1) => (10, w, 0)
  | (20, w, 2) => (10, w, 0)
  | (21, w, 0) => (10, w, 0)
  | (21, w, 1) => (10, w, 0)
  | (21, w, 2) => (10, w, 0)
  | (30, w, m) => (30, w, m)
  | (31, w, m) => (30, w, m)
  | (32, w, m) => (30, w, m)
  | (33, w, m) => (30, w, m)
  | (34, w, m) => (30, w, m)
  | (35, w, m) => (30, w, m)
  | (36, w, m) => (30, w, m)
  | (40, 0, 0) => (40, 0, 0)
  | (41, 0, 0) => (40, 0, 0)
  | (42, 0, 0) => (40, 0, 0)
  | (43, 0, 0) => (40, 0, 0)
  | (44, 0, 0) => (40, 0, 0)
  | (45, 0, 0) => (40, 0, 0)
  | (46, 0, 0) => (40, 0, 0)
  | (47, 0, 0) => (40, 0, 0)
  | (48, 0, 0) => (40, 0, 0)
  | (49, 0, 0) => (40, 0, 0)
  | (50, 0, 0) => (50, 0, 0)
  | _ => (99, 0, 0)
def al (g : Sg) (n : Nm) : Prop := gF g (own n) = true ∧ own n ≠ (99, 0, 0)
def cell (ad : Nm → Nat) (g : Sg) (n : Nm) : PE := cellOf ad (gF g) n (gI g n) (gJ g n) (gA g n) (gB g n) (gN g n)
def Rel (ad : Nm → Nat) (g : Sg) (G : PH) : Prop := G.1 = gZ g ∧ G.2.1 = gU g ∧ (∀ n, al g n → G.2.2 (ad n) = some (cell ad g n) ∧ ad n < gZ g) ∧ ∀ n n', al g n → al g n' → ad n = ad n' → n = n'
/-- the pure machine over a store, its addresses staying -/
abbrev PS (M : MI) (pc : Nat) (L : PLoc) (st : List Value) (ad : Nm → Nat) (g : Sg) (Q : Option Value → Sg → Prop) : Prop := PP M pc L st (Rel ad g) (fun v G => ∃ g', Rel ad g' G ∧ Q v g')
/-- a write to the cell of one name -/
theorem Rel.up {ad : Nm → Nat} {g g' : Sg} {G : PH} {n : Nm} (hR : Rel ad g G) (hn : al g n) (hF : gF g' = gF g) (hZ : gZ g' = gZ g) (hU : gU g' = gU g) (ho : ∀ n', n' ≠ n → cell ad g' n' = cell ad g n') : Rel ad g' (phUp G (ad n) (cell ad g' n)) := by
  obtain ⟨h1, h2, h3, h4⟩ := hR
  have hal : ∀ n', al g' n' ↔ al g n' := fun n' => by unfold al; rw [hF]
  refine ⟨by rw [hZ]; exact h1, by rw [hU]; exact h2, fun n' hn' => ?_, fun a b ha hb => h4 a b ((hal a).mp ha) ((hal b).mp hb)⟩
  have hn2 := (hal n').mp hn'
  refine ⟨?_, by rw [hZ]; exact (h3 n' hn2).2⟩
  by_cases h : n' = n
  · subst h
    simp [phUp]
  · rw [ho n' h, ← (h3 n' hn2).1]
    have : ad n' ≠ ad n := fun e => h (h4 n' n hn2 hn e)
    simp [phUp, this]
theorem cell_sI {ad : Nm → Nat} {g : Sg} {n n' : Nm} {k : Nat} {x : Int32} (h : n' ≠ n) : cell ad (sI g n k x) n' = cell ad g n' := by
  have e : gI (sI g n k x) n' = gI g n' := up3_ne h
  unfold cell
  rw [e]
  rfl
theorem cell_sJ {ad : Nm → Nat} {g : Sg} {n n' : Nm} {x : Int64} (h : n' ≠ n) : cell ad (sJ g n x) n' = cell ad g n' := by
  have e : gJ (sJ g n x) n' = gJ g n' := up3_ne h
  unfold cell
  rw [e]
  rfl
theorem cell_sA {ad : Nm → Nat} {g : Sg} {n n' : Nm} {f : Nat → Int32} (h : n' ≠ n) : cell ad (sA g n f) n' = cell ad g n' := by
  have e : gA (sA g n f) n' = gA g n' := up3_ne h
  unfold cell
  rw [e]
  rfl
theorem cell_sB {ad : Nm → Nat} {g : Sg} {n n' : Nm} {f : Nat → Int64} (h : n' ≠ n) : cell ad (sB g n f) n' = cell ad g n' := by
  have e : gB (sB g n f) n' = gB g n' := up3_ne h
  unfold cell
  rw [e]
  rfl
theorem cell_sI_eq {ad : Nm → Nat} {g : Sg} {n : Nm} {k : Nat} {x : Int32} : cell ad (sI g n k x) n = cellOf ad (gF g) n (upd (gI g n) k x) (gJ g n) (gA g n) (gB g n) (gN g n) := by
  have e : gI (sI g n k x) n = upd (gI g n) k x := up3_eq
  unfold cell
  rw [e]
  rfl
theorem cell_sJ_eq {ad : Nm → Nat} {g : Sg} {n : Nm} {x : Int64} : cell ad (sJ g n x) n = cellOf ad (gF g) n (gI g n) x (gA g n) (gB g n) (gN g n) := by
  have e : gJ (sJ g n x) n = x := up3_eq
  unfold cell
  rw [e]
  rfl
theorem cell_sA_eq {ad : Nm → Nat} {g : Sg} {n : Nm} {f : Nat → Int32} : cell ad (sA g n f) n = cellOf ad (gF g) n (gI g n) (gJ g n) f (gB g n) (gN g n) := by
  have e : gA (sA g n f) n = f := up3_eq
  unfold cell
  rw [e]
  rfl
theorem cell_sB_eq {ad : Nm → Nat} {g : Sg} {n : Nm} {f : Nat → Int64} : cell ad (sB g n f) n = cellOf ad (gF g) n (gI g n) (gJ g n) (gA g n) f (gN g n) := by
  have e : gB (sB g n f) n = f := up3_eq
  unfold cell
  rw [e]
  rfl
section PSR
variable {M : MI} {pc q : Nat} {L : PLoc} {st : List Value} {ad : Nm → Nat} {g : Sg} {Q : Option Value → PH → Prop} {n : Nm}
theorem Rel.c {G : PH} (hR : Rel ad g G) (hn : al g n) : G.2.2 (ad n) = some (cell ad g n) := (hR.2.2.1 n hn).1
theorem ps_get {idx ci k : Nat} {t : FieldType} {fin : Bool} {fs : List Value} {v : Value} (hd : decode (mC M) pc = .ok (.getfield idx, 3)) (hf : FL (mY M).cls idx ci k t fin) (hn : al g n) (hc : cell ad g n = .inr (ci, fs)) (hv : fs[k]? = some v) (hp : pc + 3 = q) (kk : PP M q L (v :: st) (Rel ad g) Q) : PP M pc L (.ref (ad n) :: st) (Rel ad g) Q :=
  pp_get hd hf (fun G hG => by rw [hG.c hn, hc]) hv hp kk
theorem ps_puti {idx ci k : Nat} {t : FieldType} {fs : List Value} {x : Int32} (hd : decode (mC M) pc = .ok (.putfield idx, 3)) (hf : FL (mY M).cls idx ci k t false) (hn : al g n) (hc : cell ad g n = .inr (ci, fs)) (hk : k < fs.length) (hnr : narrow t (.int x) = .int x) (hfit : fits t (.int x) = true) (hc' : cellOf ad (gF g) n (upd (gI g n) k x) (gJ g n) (gA g n) (gB g n) (gN g n) = .inr (ci, fs.set k (.int x))) (hp : pc + 3 = q) (kk : PP M q L st (Rel ad (sI g n k x)) Q) : PP M pc L (.int x :: .ref (ad n) :: st) (Rel ad g) Q :=
  pp_put hd hf (fun G hG => by rw [hG.c hn, hc]) hk hnr hfit (fun G hG => by
    have := hG.up (g' := sI g n k x) hn rfl rfl rfl (fun n' h => cell_sI h)
    rw [cell_sI_eq, hc'] at this
    exact this) hp kk
theorem ps_putl {idx ci k : Nat} {t : FieldType} {fs : List Value} {x : Int64} (hd : decode (mC M) pc = .ok (.putfield idx, 3)) (hf : FL (mY M).cls idx ci k t false) (hn : al g n) (hc : cell ad g n = .inr (ci, fs)) (hk : k < fs.length) (hnr : narrow t (.long x) = .long x) (hfit : fits t (.long x) = true) (hc' : cellOf ad (gF g) n (gI g n) x (gA g n) (gB g n) (gN g n) = .inr (ci, fs.set k (.long x))) (hp : pc + 3 = q) (kk : PP M q L st (Rel ad (sJ g n x)) Q) : PP M pc L (.long x :: .ref (ad n) :: st) (Rel ad g) Q :=
  pp_put hd hf (fun G hG => by rw [hG.c hn, hc]) hk hnr hfit (fun G hG => by
    have := hG.up (g' := sJ g n x) hn rfl rfl rfl (fun n' h => cell_sJ h)
    rw [cell_sJ_eq, hc'] at this
    exact this) hp kk
theorem clampI {i : Int32} {j N : Nat} (hi : i = nI j) (hj : j < N) (hN : N < 2 ^ 31) : vp_in i N ∧ i.toNatClampNeg = j := by
  subst hi
  exact ⟨vp_in_nI hj hN, nI_clamp (by omega)⟩
theorem ps_iald {N j : Nat} {i : Int32} {f : Nat → Int32} (hd : decode (mC M) pc = .ok (.iaload, 1)) (hn : al g n) (hc : cell ad g n = .inl (0, N, .inl f)) (hi : i = nI j) (hj : j < N) (hN : N < 2 ^ 31) (hp : pc + 1 = q) (kk : PP M q L (.int (f j) :: st) (Rel ad g) Q) : PP M pc L (.int i :: .ref (ad n) :: st) (Rel ad g) Q := by
  obtain ⟨h1, h2⟩ := clampI hi hj hN
  exact pp_iald hd (fun G hG => by rw [hG.c hn, hc]) h1 hp (by rw [h2]; exact kk)
theorem ps_zald {N j : Nat} {i : Int32} {f : Nat → Int32} (hd : decode (mC M) pc = .ok (.baload, 1)) (hn : al g n) (hc : cell ad g n = .inl (2, N, .inl f)) (hi : i = nI j) (hj : j < N) (hN : N < 2 ^ 31) (hp : pc + 1 = q) (kk : PP M q L (.int (f j) :: st) (Rel ad g) Q) : PP M pc L (.int i :: .ref (ad n) :: st) (Rel ad g) Q := by
  obtain ⟨h1, h2⟩ := clampI hi hj hN
  exact pp_zald hd (fun G hG => by rw [hG.c hn, hc]) h1 hp (by rw [h2]; exact kk)
theorem ps_sld {N j : Nat} {i : Int32} {f : Nat → Int32} (hd : decode (mC M) pc = .ok (.iaload, 1)) (hn : al g n) (hc : cell ad g n = .inl (9, N, .inl f)) (hi : i = nI j) (hj : j < N) (hN : N < 2 ^ 31) (hp : pc + 1 = q) (kk : PP M q L (.int (f j) :: st) (Rel ad g) Q) : PP M pc L (.int i :: .ref (ad n) :: st) (Rel ad g) Q := by
  obtain ⟨h1, h2⟩ := clampI hi hj hN
  exact pp_sld hd (fun G hG => by rw [hG.c hn, hc]) h1 hp (by rw [h2]; exact kk)
theorem ps_lald {N j : Nat} {i : Int32} {f : Nat → Int64} (hd : decode (mC M) pc = .ok (.laload, 1)) (hn : al g n) (hc : cell ad g n = .inl (1, N, .inr (.inl f))) (hi : i = nI j) (hj : j < N) (hN : N < 2 ^ 31) (hp : pc + 1 = q) (kk : PP M q L (.long (f j) :: st) (Rel ad g) Q) : PP M pc L (.int i :: .ref (ad n) :: st) (Rel ad g) Q := by
  obtain ⟨h1, h2⟩ := clampI hi hj hN
  exact pp_lald hd (fun G hG => by rw [hG.c hn, hc]) h1 hp (by rw [h2]; exact kk)
theorem ps_aald {N j : Nat} {i : Int32} {f : Nat → Option Nat} (hd : decode (mC M) pc = .ok (.aaload, 1)) (hn : al g n) (hc : cell ad g n = .inl (3, N, .inr (.inr (.inr (.inr f))))) (hi : i = nI j) (hj : j < N) (hN : N < 2 ^ 31) (hp : pc + 1 = q) (kk : PP M q L (va_rf (f j) :: st) (Rel ad g) Q) : PP M pc L (.int i :: .ref (ad n) :: st) (Rel ad g) Q := by
  obtain ⟨h1, h2⟩ := clampI hi hj hN
  exact pp_aald hd (fun G hG => by rw [hG.c hn, hc]) h1 hp (by rw [h2]; exact kk)
theorem ps_iast {N j : Nat} {i x : Int32} (hd : decode (mC M) pc = .ok (.iastore, 1)) (hn : al g n) (hc : ∀ f, cellOf ad (gF g) n (gI g n) (gJ g n) f (gB g n) (gN g n) = .inl (0, N, .inl f)) (hi : i = nI j) (hj : j < N) (hN : N < 2 ^ 31) (hp : pc + 1 = q) (kk : PP M q L st (Rel ad (sA g n (upd (gA g n) j x))) Q) : PP M pc L (.int x :: .int i :: .ref (ad n) :: st) (Rel ad g) Q := by
  obtain ⟨h1, h2⟩ := clampI hi hj hN
  refine pp_iast hd (n := N) (f := gA g n) (fun G hG => by rw [hG.c hn]; exact congrArg some (hc (gA g n))) h1 (fun G hG => ?_) hp kk
  rw [h2]
  have := hG.up (g' := sA g n (upd (gA g n) j x)) hn rfl rfl rfl (fun n' h => cell_sA h)
  rw [cell_sA_eq, hc] at this
  exact this
theorem ps_zast {N j : Nat} {i x : Int32} (hd : decode (mC M) pc = .ok (.bastore, 1)) (hn : al g n) (hc : ∀ f, cellOf ad (gF g) n (gI g n) (gJ g n) f (gB g n) (gN g n) = .inl (2, N, .inl f)) (hi : i = nI j) (hj : j < N) (hN : N < 2 ^ 31) (hnr : vp_nar .boolean x = x) (hp : pc + 1 = q) (kk : PP M q L st (Rel ad (sA g n (upd (gA g n) j x))) Q) : PP M pc L (.int x :: .int i :: .ref (ad n) :: st) (Rel ad g) Q := by
  obtain ⟨h1, h2⟩ := clampI hi hj hN
  refine pp_zast hd (n := N) (f := gA g n) (fun G hG => by rw [hG.c hn]; exact congrArg some (hc (gA g n))) h1 hnr (fun G hG => ?_) hp kk
  rw [h2]
  have := hG.up (g' := sA g n (upd (gA g n) j x)) hn rfl rfl rfl (fun n' h => cell_sA h)
  rw [cell_sA_eq, hc] at this
  exact this
theorem ps_last {N j : Nat} {i : Int32} {x : Int64} (hd : decode (mC M) pc = .ok (.lastore, 1)) (hn : al g n) (hc : ∀ f, cellOf ad (gF g) n (gI g n) (gJ g n) (gA g n) f (gN g n) = .inl (1, N, .inr (.inl f))) (hi : i = nI j) (hj : j < N) (hN : N < 2 ^ 31) (hp : pc + 1 = q) (kk : PP M q L st (Rel ad (sB g n (vp_updL (gB g n) j x))) Q) : PP M pc L (.long x :: .int i :: .ref (ad n) :: st) (Rel ad g) Q := by
  obtain ⟨h1, h2⟩ := clampI hi hj hN
  refine pp_last hd (n := N) (f := gB g n) (fun G hG => by rw [hG.c hn]; exact congrArg some (hc (gB g n))) h1 (fun G hG => ?_) hp kk
  rw [h2]
  have := hG.up (g' := sB g n (vp_updL (gB g n) j x)) hn rfl rfl rfl (fun n' h => cell_sB h)
  rw [cell_sB_eq, hc] at this
  exact this
theorem ps_alen {t N : Nat} {x : (Nat → Int32) ⊕ (Nat → Int64) ⊕ (Nat → UInt32) ⊕ (Nat → UInt64) ⊕ (Nat → Option Nat)} (hd : decode (mC M) pc = .ok (.arraylength, 1)) (hn : al g n) (hc : cell ad g n = .inl (t, N, x)) (ht : t < 4) (hp : pc + 1 = q) (kk : PP M q L (.int (nI N) :: st) (Rel ad g) Q) : PP M pc L (.ref (ad n) :: st) (Rel ad g) Q :=
  pp_alen (x := (N, x)) (v := nI N) hd (fun G hG => by rw [hG.c hn, hc]) ht rfl hp kk
theorem ps_slen {N : Nat} {f : Nat → Int32} (hd : decode (mC M) pc = .ok (.arraylength, 1)) (hn : al g n) (hc : cell ad g n = .inl (9, N, .inl f)) (hp : pc + 1 = q) (kk : PP M q L (.int (nI N) :: st) (Rel ad g) Q) : PP M pc L (.ref (ad n) :: st) (Rel ad g) Q :=
  pp_slen hd (fun G hG => by rw [hG.c hn, hc]) hp kk
theorem ps_copyi {idx : Nat} {n m : Nm} {n1 n2 : Nat} {sp dp c : Int32} {a b k : Nat} (hd : decode (mC M) pc = .ok (.invokestatic idx, 3)) (hl : linkC (mY M).cls idx) (hn : al g n) (hm : al g m) (hcn : cell ad g n = .inl (0, n1, .inl (gA g n))) (hcm : ∀ f, cellOf ad (gF g) m (gI g m) (gJ g m) f (gB g m) (gN g m) = .inl (0, n2, .inl f)) (ha : sp = nI a) (hb : dp = nI b) (hk : c = nI k) (h1 : a + k ≤ n1) (h2 : b + k ≤ n2) (hN : n1 < 2 ^ 31 ∧ n2 < 2 ^ 31) (hf : 1 ≤ mFr M) (hlc : (st.map fun v => v.category).sum + 18 ≤ mLc M) (hp : pc + 3 = q) (kk : PP M q L st (Rel ad (sA g m (va_cpy (gA g n) (gA g m) a b k))) Q) : PP M pc L (.int c :: .int dp :: .ref (ad m) :: .int sp :: .ref (ad n) :: st) (Rel ad g) Q := by
  subst ha; subst hb; subst hk
  have ea : (nI a).toNatClampNeg = a := nI_clamp (by omega)
  have eb : (nI b).toNatClampNeg = b := nI_clamp (by omega)
  have ek : (nI k).toNatClampNeg = k := nI_clamp (by omega)
  refine pp_copyi hd hl (f := gA g n) (g := gA g m) (n1 := n1) (n2 := n2) (fun G hG => by rw [hG.c hn, hcn]) (fun G hG => by rw [hG.c hm]; exact congrArg some (hcm (gA g m))) (nI_pos (by omega)) (nI_pos (by omega)) (nI_pos (by omega)) (by rw [ea, ek]; exact h1) (by rw [eb, ek]; exact h2) hf hlc (fun G hG => ?_) hp kk
  rw [ea, eb, ek]
  have := hG.up (g' := sA g m (va_cpy (gA g n) (gA g m) a b k)) hm rfl rfl rfl (fun n' h => cell_sA h)
  rw [cell_sA_eq, hcm] at this
  exact this
theorem ps_copyl {idx : Nat} {n m : Nm} {n1 n2 : Nat} {sp dp c : Int32} {a b k : Nat} (hd : decode (mC M) pc = .ok (.invokestatic idx, 3)) (hl : linkC (mY M).cls idx) (hn : al g n) (hm : al g m) (hcn : cell ad g n = .inl (1, n1, .inr (.inl (gB g n)))) (hcm : ∀ f, cellOf ad (gF g) m (gI g m) (gJ g m) (gA g m) f (gN g m) = .inl (1, n2, .inr (.inl f))) (ha : sp = nI a) (hb : dp = nI b) (hk : c = nI k) (h1 : a + k ≤ n1) (h2 : b + k ≤ n2) (hN : n1 < 2 ^ 31 ∧ n2 < 2 ^ 31) (hf : 1 ≤ mFr M) (hlc : (st.map fun v => v.category).sum + 18 ≤ mLc M) (hp : pc + 3 = q) (kk : PP M q L st (Rel ad (sB g m (va_cpy (gB g n) (gB g m) a b k))) Q) : PP M pc L (.int c :: .int dp :: .ref (ad m) :: .int sp :: .ref (ad n) :: st) (Rel ad g) Q := by
  subst ha; subst hb; subst hk
  have ea : (nI a).toNatClampNeg = a := nI_clamp (by omega)
  have eb : (nI b).toNatClampNeg = b := nI_clamp (by omega)
  have ek : (nI k).toNatClampNeg = k := nI_clamp (by omega)
  refine pp_copyl hd hl (f := gB g n) (g := gB g m) (n1 := n1) (n2 := n2) (fun G hG => by rw [hG.c hn, hcn]) (fun G hG => by rw [hG.c hm]; exact congrArg some (hcm (gB g m))) (nI_pos (by omega)) (nI_pos (by omega)) (nI_pos (by omega)) (by rw [ea, ek]; exact h1) (by rw [eb, ek]; exact h2) hf hlc (fun G hG => ?_) hp kk
  rw [ea, eb, ek]
  have := hG.up (g' := sB g m (va_cpy (gB g n) (gB g m) a b k)) hm rfl rfl rfl (fun n' h => cell_sB h)
  rw [cell_sB_eq, hcm] at this
  exact this
/-- a call whose contract leaves the addresses -/
theorem ps_callV {idx ci : Nat} {N : MI} {As fs : List Value} {S0 : List Value} {Q1 : Option Value → Sg → Prop} (hd : decode (mC M) pc = .ok (.invokevirtual idx, 3)) (hl : linkV (mY M).cls idx N) (hn : al g n) (hc : cell ad g n = .inr (ci, fs)) (hcl : (vwCl[ci]?).map (fun q => q.1) = some (mY N).cls) (hS : S0 = As.reverse ++ .ref (ad n) :: st) (hE : PS N 0 (ent N (.ref (ad n) :: As)) [] ad g Q1) (hnp : As.length = mNp N) (hcat : (st.map fun v => v.category).sum ≤ 8) (hfr : mFr N + 1 ≤ mFr M) (hlc : 8 + (mL N + 11) + mLc N ≤ mLc M) (hel : (entL (.ref (ad n) :: As)).length ≤ mL N) (hp : pc + 3 = q) (kk : ∀ v g', Q1 v g' → PP M q L (v.toList ++ st) (Rel ad g') Q) : PP M pc L S0 (Rel ad g) Q :=
  pp_callV hd hl (fun G hG => ⟨fs, by rw [hG.c hn, hc]⟩) hcl hnp hcat hfr hlc hel hS hE hp (fun v G ⟨g', h1, h2⟩ => kk v g' h2 G h1)
theorem ps_callS {idx : Nat} {N : MI} {As : List Value} {S0 : List Value} {Q1 : Option Value → Sg → Prop} (hd : decode (mC M) pc = .ok (.invokestatic idx, 3)) (hl : linkS (mY M).cls idx N) (hS : S0 = As.reverse ++ st) (hE : PS N 0 (ent N As) [] ad g Q1) (hnp : As.length = mNp N) (hcat : (st.map fun v => v.category).sum ≤ 8) (hfr : mFr N + 1 ≤ mFr M) (hlc : 8 + (mL N + 11) + mLc N ≤ mLc M) (hel : (entL As).length ≤ mL N) (hp : pc + 3 = q) (kk : ∀ v g', Q1 v g' → PP M q L (v.toList ++ st) (Rel ad g') Q) : PP M pc L S0 (Rel ad g) Q :=
  pp_callS hd hl hnp hcat hfr hlc hel hS hE hp (fun v G ⟨g', h1, h2⟩ => kk v g' h2 G h1)
theorem ps_callN {idx : Nat} {N : MI} {As : List Value} {S0 : List Value} {Q1 : Option Value → Sg → Prop} (hd : decode (mC M) pc = .ok (.invokestatic idx, 3)) (hl : linkN (mY M).cls idx N) (hS : S0 = As.reverse ++ st) (hE : PS N 0 (ent N As) [] ad g Q1) (hnp : As.length = mNp N) (hcat : (st.map fun v => v.category).sum ≤ 8) (hfr : mFr N + 1 ≤ mFr M) (hlc : 8 + (mL N + 11) + mLc N ≤ mLc M) (hel : (entL As).length ≤ mL N) (hp : pc + 3 = q) (kk : ∀ v g', Q1 v g' → PP M q L (v.toList ++ st) (Rel ad g') Q) : PP M pc L S0 (Rel ad g) Q :=
  pp_callN hd hl hnp hcat hfr hlc hel hS hE hp (fun v G ⟨g', h1, h2⟩ => kk v g' h2 G h1)
end PSR
theorem PS.ret {g : Sg} {ad : Nm → Nat} {Q : Option Value → Sg → Prop} {v : Option Value} (h : Q v g) : ∀ G, Rel ad g G → ∃ g', Rel ad g' G ∧ Q v g' := fun _ hG => ⟨g, hG, h⟩
