abbrev tysOf (cA : Nat → ClassId) : List (ClassId × FieldType) := [(cA 0, .int), (cA 1, .long), (cA 2, .boolean), (cA 3, .object RX1)]
def hr_at (D : va_G) (cA : Nat → ClassId) (U : State) (H : Heap) (a : Nat) (e : PE) : Prop := match e with
  | .inl (t, x) => (t < 4 ∧ va_at D vwCl (a, .inl (cA t, x)) H) ∨ (t = 9 ∧ ∃ xs, x.2 = .inl xs ∧ va_X a x.1 xs U H)
  | .inr o => va_at D vwCl (a, .inr o) H
/-- the machine's heap holds the pure one: its size, every cell; what may be written lies from base on -/
def HR (D : va_G) (cA : Nat → ClassId) (base : Nat) (U : State) (G : PH) (H : Heap) : Prop := H.size = G.1 ∧ base ≤ H.size ∧ ∀ (a : Nat) (e : PE), G.2.2 a = some e → hr_at D cA U H a e ∧ ((∃ x, e = .inl (9, x)) ∨ base ≤ a)
theorem va_X_kept {b L : Nat} {xs : Nat → Int32} {U : State} {H H1 : Heap} (h : va_X b L xs U H) (hq : H1[b]? = H[b]?) : va_X b L xs U H1 := by
  obtain ⟨scr, h1, h2⟩ := h
  exact ⟨scr, hq.trans h1, h2⟩
theorem va_X_moved {b L : Nat} {xs : Nat → Int32} {u U : State} {H : Heap} (hvm : u.vm.Alike U.vm) (h : va_X b L xs u H) : va_X b L xs U H := by
  obtain ⟨scr, h1, h2, h3⟩ := h
  exact ⟨scr, h1, State.isArrayOf_alike hvm h2, h3⟩
theorem hr_at.kept {D : va_G} {cA : Nat → ClassId} {U : State} {H H1 : Heap} {a : Nat} {e : PE} (h : hr_at D cA U H a e) (hq : H1[a]? = H[a]?) : hr_at D cA U H1 a e := by
  match e, h with
  | .inl (t, x), h =>
    rcases h with ⟨h1, h2⟩ | ⟨h1, xs, h2, h3⟩
    · exact Or.inl ⟨h1, h2.kept hq⟩
    · exact Or.inr ⟨h1, xs, h2, va_X_kept h3 hq⟩
  | .inr o, h => exact va_at.kept (q := (a, .inr o)) h hq
theorem hr_at.moved {D : va_G} {cA : Nat → ClassId} {u U : State} {H : Heap} {a : Nat} {e : PE} (hvm : u.vm.Alike U.vm) (h : hr_at D cA u H a e) : hr_at D cA U H a e := by
  match e, h with
  | .inl (t, x), h =>
    rcases h with h | ⟨h1, xs, h2, h3⟩
    · exact Or.inl h
    · exact Or.inr ⟨h1, xs, h2, va_X_moved hvm h3⟩
  | .inr o, h => exact h
theorem hr_at.lt {D : va_G} {cA : Nat → ClassId} {U : State} {H : Heap} {a : Nat} {e : PE} (h : hr_at D cA U H a e) : a < H.size := by
  match e, h with
  | .inl (t, x), h =>
    rcases h with ⟨h1, h2⟩ | ⟨h1, xs, h2, scr, h3, h4⟩
    · exact va_at.lt h2
    · exact (Array.getElem?_eq_some_iff.mp h3).1
  | .inr o, h => exact va_at.lt (q := (a, .inr o)) h
theorem HR.moved {D : va_G} {cA : Nat → ClassId} {base : Nat} {u U : State} {G : PH} {H : Heap} (hvm : u.vm.Alike U.vm) (h : HR D cA base u G H) : HR D cA base U G H := ⟨h.1, h.2.1, fun a e he => ⟨(h.2.2 a e he).1.moved hvm, (h.2.2 a e he).2⟩⟩
theorem HR.up {D : va_G} {cA : Nat → ClassId} {base : Nat} {U : State} {G : PH} {H H1 : Heap} {a : Nat} {e : PE} (h : HR D cA base U G H) (hz : H1.size = H.size) (oq : ∀ q, q ≠ a → H1[q]? = H[q]?) (ha : base ≤ a) (he : hr_at D cA U H1 a e) : HR D cA base U (phUp G a e) H1 := by
  refine ⟨hz.trans h.1, by rw [hz]; exact h.2.1, fun b e' hb => ?_⟩
  by_cases hba : b = a
  · subst hba
    have : e' = e := by simpa [phUp] using hb.symm
    subst this
    exact ⟨he, Or.inr ha⟩
  · have hb' : G.2.2 b = some e' := by simpa [phUp, hba] using hb
    obtain ⟨h1, h2⟩ := h.2.2 b e' hb'
    exact ⟨h1.kept (oq b hba), h2⟩
theorem HR.new {D : va_G} {cA : Nat → ClassId} {base : Nat} {U : State} {G : PH} {H H1 : Heap} {n : Nat} {e : PE} (h : HR D cA base U G H) (hz : H1.size = H.size + 1) (oq : ∀ q, q < H.size → H1[q]? = H[q]?) (he : hr_at D cA U H1 H.size e) : HR D cA base U (phNew G n e) H1 := by
  refine ⟨by rw [hz, h.1]; rfl, by rw [hz]; have := h.2.1; omega, fun b e' hb => ?_⟩
  by_cases hba : b = G.1
  · subst hba
    have : e' = e := by simpa [phNew] using hb.symm
    subst this
    rw [h.1] at he
    exact ⟨he, Or.inr (by rw [← h.1]; exact h.2.1)⟩
  · have hb' : G.2.2 b = some e' := by simpa [phNew, hba] using hb
    obtain ⟨h1, h2⟩ := h.2.2 b e' hb'
    exact ⟨h1.kept (oq b h1.lt), h2⟩
theorem vP1 {D : va_G} {cl : List vw_C} {a : Nat} {e : va_E} {H : Heap} (h : va_at D cl (a, e) H) : va_P D cl [(a, e)] H := by
  intro k q hk
  match k, hk with
  | 0, hk => cases hk; exact h
  | k + 1, hk => simp at hk
theorem lw_g_of {w : Cond} (h : w ∈ lw_tbl) (hg : goodWord w = true) : w ∈ lw_g := List.mem_filter.mpr ⟨h, hg⟩
theorem lw_gIn {ws : List Cond} (h : ∀ w ∈ ws, w ∈ lw_tbl ∧ goodWord w = true) : GoodIn lw_g ws := fun w hw => ⟨lw_g_of (h w hw).1 (h w hw).2, good_of_word (h w hw).2⟩
theorem u_ws_good {C : String} {T : u_T} {n : Nat} : ∀ w ∈ u_ws C T n, goodWord w = true := by
  intro w hw
  unfold u_ws at hw
  obtain ⟨k, -, rfl⟩ := List.mem_map.mp hw
  unfold u_lay
  split <;> rfl
theorem CF.hin {ci : Nat} {C : String} {T : u_T} {n : Nat} {ty : Nat → FieldType} (h : CF ci C T n ty) : ∀ w ∈ u_ws C T n, w ∈ lw_g := fun w hw => lw_g_of (h.2.1 w hw) (u_ws_good w hw)
def wd (N : MI) : List Cond := Cond.code (mY N) (mC N) (mL N) (mR N) :: lw_g
def rmN (N : MI) (mc ms : Nat) : Room := { frames := mFr N, cells := mc, slots := ms, locals := mLc N }
theorem wd_good {N : MI} (h : okM N) : ∀ w ∈ wd N, w ∈ lw_tbl ∧ goodWord w = true := by
  intro w hw
  rcases List.mem_cons.mp hw with rfl | hw
  · exact ⟨h.1, rfl⟩
  · exact List.mem_filter.mp hw
def retOk (M : MI) (pc : Nat) (v : Option Value) : Prop :=
  (∃ (x : Int32) (ty : FieldType), v = some (.int x) ∧ decode (mC M) pc = .ok (.ireturn, 1) ∧ mR M = some ty ∧ narrow ty (.int x) = .int x) ∨
  (∃ x : Int64, v = some (.long x) ∧ decode (mC M) pc = .ok (.lreturn, 1) ∧ mR M = some .long) ∨
  (∃ (x : Value) (rt : FieldType), v = some x ∧ decode (mC M) pc = .ok (.areturn, 1) ∧ mR M = some rt ∧ ((∃ n, rt = .object n) ∨ ∃ t, rt = .array t) ∧ isRf x) ∨
  (v = none ∧ decode (mC M) pc = .ok (.return_, 1) ∧ mR M = none)
def CxS (l : Launch) (D : va_G) (cA : Nat → ClassId) (base : Nat) (p : Program) (e : Env) (R : Room) (s : State) (m : MethodId) (args : Array Value) (below : List Frame) (meth : Method) (cd : Code) (M : MI) (r : Rs) (mc ms : Nat) (Q : State → Prop) : Prop :=
  p.tables.exec = Jvm.exec ∧ cd.code = mC M ∧ cd.maxLocals = mL M ∧ s.vm.findClass (mY M).cls = some m.cls ∧ ((mY M).name = "<init>" → meth.name = "<init>") ∧ (∀ w ∈ lw_g, w.before args s = true) ∧ (∀ w ∈ lw_n, va_Nw w s) ∧ va_AO RX1 s ∧ va_K D vwCl (tysOf cA) s ∧ base ≤ s.heap.size ∧ (mc ≤ R.cells ∧ ms ≤ R.slots) ∧ (mFr M ≤ R.frames ∧ mLc M ≤ R.locals) ∧
  ∀ (pc' : Nat) (ls' : Array Slot) (H' : Heap) (locs' : List Loc), HR D cA base s r.2 H' → va_S (fun q => base ≤ q) s.heap H' locs' → retOk M pc' r.1 → W p l e R s m args below meth cd H' locs' mc ms Q (F0 m pc' ls' r.1.toList)
def CxD (D : va_G) (cA : Nat → ClassId) (base : Nat) (s : State) (M : MI) (L : PLoc) (G : PH) (r : Rs) (mc ms : Nat) (H : Heap) (locs : List Loc) (cells slots : Nat) (ls : Array Slot) : Prop :=
  pl ls (mL M) L ∧ HR D cA base s G H ∧ va_S (fun q => base ≤ q) s.heap H locs ∧ cells + (r.2.1 - G.1) ≤ mc ∧ slots + (r.2.2.1 - G.2.1) ≤ ms
def Sn (l : Launch) (D : va_G) (cA : Nat → ClassId) (base : Nat) : TT := fun M pc L st G r => G.1 ≤ r.2.1 ∧ G.2.1 ≤ r.2.2.1 ∧
  ∀ (p : Program) (e : Env) (R : Room) (s : State) (m : MethodId) (args : Array Value) (below : List Frame) (meth : Method) (cd : Code) (mc ms : Nat) (Q : State → Prop), CxS l D cA base p e R s m args below meth cd M r mc ms Q →
  ∀ (H : Heap) (locs : List Loc) (cells slots : Nat) (ls : Array Slot), CxD D cA base s M L G r mc ms H locs cells slots ls → W p l e R s m args below meth cd H locs cells slots Q (F0 m pc ls st)
section SND
variable {l : Launch} {D : va_G} {cA : Nat → ClassId} {base : Nat} {M : MI} {pc pc' : Nat} {L L' : PLoc} {st st' : List Value} {G G1 : PH} {r : Rs}
/-- one step that changes neither heap nor locals -/
theorem Sn.stA (h : Sn l D cA base M pc' L st' G r)
    (row : ∀ (p : Program) (e : Env) (R : Room) (s : State) (m : MethodId) (args : Array Value) (below : List Frame) (meth : Method) (cd : Code) (mc ms : Nat) (Q : State → Prop) (H : Heap) (locs : List Loc) (cells slots : Nat) (ls : Array Slot), CxS l D cA base p e R s m args below meth cd M r mc ms Q → CxD D cA base s M L G r mc ms H locs cells slots ls → W p l e R s m args below meth cd H locs cells slots Q (F0 m pc' ls st') → W p l e R s m args below meth cd H locs cells slots Q (F0 m pc ls st)) : Sn l D cA base M pc L st G r :=
  ⟨h.1, h.2.1, fun p e R s m args below meth cd mc ms Q S H locs cells slots ls Dn => row p e R s m args below meth cd mc ms Q H locs cells slots ls S Dn (h.2.2 p e R s m args below meth cd mc ms Q S H locs cells slots ls Dn)⟩
/-- one step that changes the locals -/
theorem Sn.stL (h : Sn l D cA base M pc' L' st' G r)
    (row : ∀ (p : Program) (e : Env) (R : Room) (s : State) (m : MethodId) (args : Array Value) (below : List Frame) (meth : Method) (cd : Code) (mc ms : Nat) (Q : State → Prop) (H : Heap) (locs : List Loc) (cells slots : Nat) (ls : Array Slot), CxS l D cA base p e R s m args below meth cd M r mc ms Q → CxD D cA base s M L G r mc ms H locs cells slots ls → (∀ ls' : Array Slot, pl ls' (mL M) L' → W p l e R s m args below meth cd H locs cells slots Q (F0 m pc' ls' st')) → W p l e R s m args below meth cd H locs cells slots Q (F0 m pc ls st)) : Sn l D cA base M pc L st G r :=
  ⟨h.1, h.2.1, fun p e R s m args below meth cd mc ms Q S H locs cells slots ls Dn => row p e R s m args below meth cd mc ms Q H locs cells slots ls S Dn (fun ls' hl => h.2.2 p e R s m args below meth cd mc ms Q S H locs cells slots ls' ⟨hl, Dn.2⟩)⟩
/-- one step that writes a cell -/
theorem Sn.stU {a : Nat} {x : PE} (h : Sn l D cA base M pc' L st' (phUp G a x) r)
    (row : ∀ (p : Program) (e : Env) (R : Room) (s : State) (m : MethodId) (args : Array Value) (below : List Frame) (meth : Method) (cd : Code) (mc ms : Nat) (Q : State → Prop) (H : Heap) (locs : List Loc) (cells slots : Nat) (ls : Array Slot), CxS l D cA base p e R s m args below meth cd M r mc ms Q → CxD D cA base s M L G r mc ms H locs cells slots ls → (∀ (H1 : Heap) (locs1 : List Loc), HR D cA base s (phUp G a x) H1 → va_S (fun q => base ≤ q) s.heap H1 locs1 → W p l e R s m args below meth cd H1 locs1 cells slots Q (F0 m pc' ls st')) → W p l e R s m args below meth cd H locs cells slots Q (F0 m pc ls st)) : Sn l D cA base M pc L st G r :=
  ⟨h.1, h.2.1, fun p e R s m args below meth cd mc ms Q S H locs cells slots ls Dn => row p e R s m args below meth cd mc ms Q H locs cells slots ls S Dn (fun H1 locs1 h1 h2 => h.2.2 p e R s m args below meth cd mc ms Q S H1 locs1 cells slots ls ⟨Dn.1, h1, h2, Dn.2.2.2⟩)⟩
/-- one step that makes a cell -/
theorem Sn.stN {n : Nat} {x : PE} (h : Sn l D cA base M pc' L st' (phNew G n x) r)
    (row : ∀ (p : Program) (e : Env) (R : Room) (s : State) (m : MethodId) (args : Array Value) (below : List Frame) (meth : Method) (cd : Code) (mc ms : Nat) (Q : State → Prop) (H : Heap) (locs : List Loc) (cells slots : Nat) (ls : Array Slot), CxS l D cA base p e R s m args below meth cd M r mc ms Q → CxD D cA base s M L G r mc ms H locs cells slots ls → cells + 1 ≤ R.cells → slots + n ≤ R.slots → (∀ H1 : Heap, HR D cA base s (phNew G n x) H1 → va_S (fun q => base ≤ q) s.heap H1 locs → W p l e R s m args below meth cd H1 locs (cells + 1) (slots + n) Q (F0 m pc' ls st')) → W p l e R s m args below meth cd H locs cells slots Q (F0 m pc ls st)) : Sn l D cA base M pc L st G r := by
  have h1 : G.1 + 1 ≤ r.2.1 := h.1
  have h2 : G.2.1 + n ≤ r.2.2.1 := h.2.1
  refine ⟨by omega, by omega, fun p e R s m args below meth cd mc ms Q S H locs cells slots ls Dn => ?_⟩
  obtain ⟨d1, d2, d3, d4, d5⟩ := id Dn
  obtain ⟨g1, g2⟩ := S.2.2.2.2.2.2.2.2.2.2.1
  refine row p e R s m args below meth cd mc ms Q H locs cells slots ls S Dn (by omega) (by omega) (fun H1 k1 k2 => h.2.2 p e R s m args below meth cd mc ms Q S H1 locs (cells + 1) (slots + n) ls ⟨d1, k1, k2, ?_, ?_⟩)
  · show cells + 1 + (r.2.1 - (G.1 + 1)) ≤ mc
    omega
  · show slots + n + (r.2.2.1 - (G.2.1 + n)) ≤ ms
    omega
theorem CxS.tb {p : Program} {e : Env} {R : Room} {s : State} {m : MethodId} {args : Array Value} {below : List Frame} {meth : Method} {cd : Code} {mc ms : Nat} {Q : State → Prop} (S : CxS l D cA base p e R s m args below meth cd M r mc ms Q) {w : Cond} (h : w ∈ lw_tbl) (hg : goodWord w = true) : w.before args s = true := S.2.2.2.2.2.1 w (lw_g_of h hg)
end SND
