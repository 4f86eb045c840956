/-! all that a roll holds: acts, image's acts, refusals, the latest, the way, the table -/
abbrev CS : Type := List Act × Option (List Act) × (Nat → Int32) × Int32 × List Int32 × (Nat → Int32)
def sH (S : CS) : List Act := S.1
def sK (S : CS) : Option (List Act) := S.2.1
def sC (S : CS) : Nat → Int32 := S.2.2.1
def sLt (S : CS) : Int32 := S.2.2.2.1
def sY (S : CS) : List Int32 := S.2.2.2.2.1
def sT (S : CS) : Nat → Int32 := S.2.2.2.2.2
def noW (g : Sg) (w : Nat) : Prop := ¬ gF g (10, w, 0) = true ∧ ∀ m, ¬ gF g (30, w, m) = true
def KpR (g : Sg) (K : Option (List Act)) : Prop := match K with
  | none => noW g 1
  | some K => okH K ∧ RX g 1 (runA K) K
def RC (g : Sg) (S : CS) : Prop := al g (0, 0, 0) ∧ (okH (sH S) ∧ RX g 0 (runA (sH S)) (sH S)) ∧ KpR g (sK S) ∧ (noW g 2 ∨ ∃ A H, RX g 2 A H) ∧ (∀ k, k < 11 → gA g (2, 0, 0) k = sC S k) ∧ gI g (1, 0, 0) 1 = sLt S ∧ RY g (sY S) ∧ ∀ i, i < 16 → gA g (5, 0, 0) i = sT S i
def Pw (g : Sg) (w : Nat) : Nat := if gF g (10, w, 0) = true then Bd g w else 360000
def Cst (sz : Nat) (g : Sg) : Prop := gU g + Pw g 0 + Pw g 1 + Pw g 2 + phY g ≤ 1500000 ∧ 16 * gZ g ≤ 16 * sz + gU g
def EqC (ad : Nm → Nat) (g : Sg) (ad' : Nm → Nat) (g' : Sg) : Prop := (∀ n, al g n → al g' n) ∧ (∀ n, al g n → 40 ≤ n.1 ∨ n = (0, 0, 0) → ad' n = ad n) ∧ ∀ n, 40 ≤ n.1 → gI g' n = gI g n ∧ gJ g' n = gJ g n ∧ gA g' n = gA g n ∧ gB g' n = gB g n ∧ gN g' n = gN g n ∧ gF g' n = gF g n
theorem EqC.rf {ad : Nm → Nat} {g : Sg} : EqC ad g ad g := ⟨fun _ h => h, fun _ _ _ => rfl, fun _ _ => ⟨rfl, rfl, rfl, rfl, rfl, rfl⟩⟩
theorem EqC.tr {ad ad' ad'' : Nm → Nat} {g g' g'' : Sg} (h : EqC ad g ad' g') (h' : EqC ad' g' ad'' g'') : EqC ad g ad'' g'' := by
  obtain ⟨a1, a2, a3⟩ := h
  obtain ⟨b1, b2, b3⟩ := h'
  refine ⟨fun n hn => b1 n (a1 n hn), fun n hn hk => (b2 n (a1 n hn) hk).trans (a2 n hn hk), fun n hn => ?_⟩
  obtain ⟨c1, c2, c3, c4, c5, c6⟩ := a3 n hn
  obtain ⟨d1, d2, d3, d4, d5, d6⟩ := b3 n hn
  exact ⟨d1.trans c1, d2.trans c2, d3.trans c3, d4.trans c4, d5.trans c5, d6.trans c6⟩
theorem EqW.c {w : Nat} {ad ad' : Nm → Nat} {g g' : Sg} (h : EqW w ad g ad' g') : EqC ad g ad' g' := by
  obtain ⟨a1, a2, a3, -⟩ := h
  refine ⟨a1, fun n hn hk => a2 n hn (fun e => ?_), fun n hn => a3 n (fun q => by have := q.2.2; omega)⟩
  rcases hk with h | h
  · omega
  · rw [h] at e; cases e
theorem EqY.c {ad ad' : Nm → Nat} {g g' : Sg} (h : EqY ad g ad' g') : EqC ad g ad' g' := by
  obtain ⟨a1, a2, a3, a4, -⟩ := h
  refine ⟨a1, fun n hn hk => a2 n hn (fun e => ?_), fun n hn => ?_⟩
  · rcases hk with h | h
    · omega
    · rw [h] at e; cases e
  · obtain ⟨c1, c2, c3, c4, c5⟩ := a3 n (by omega) (by omega)
    exact ⟨c1, c2, c3, c4, c5, by rw [a4]⟩
theorem EqX.c {S : Nm → Prop} {ad : Nm → Nat} {g g' : Sg} (h : EqX S g g') (hS : ∀ n, S n → n.1 < 40) : EqC ad g ad g' := by
  obtain ⟨a1, a2, a3, a4, a5⟩ := h
  refine ⟨fun n hn => by unfold al; rw [a3]; exact hn, fun _ _ _ => rfl, fun n hn => ?_⟩
  obtain ⟨c1, c2, c3, c4⟩ := a1 n (fun q => by have := hS n q; omega)
  exact ⟨c1, c2, c3, c4, by rw [a2], by rw [a3]⟩
/-- a world's cells are the same -/
def SmW (w : Nat) (g g' : Sg) : Prop := ∀ k b, 10 ≤ k → k ≤ 36 → gI g' (k, w, b) = gI g (k, w, b) ∧ gJ g' (k, w, b) = gJ g (k, w, b) ∧ gA g' (k, w, b) = gA g (k, w, b) ∧ gB g' (k, w, b) = gB g (k, w, b) ∧ gN g' (k, w, b) = gN g (k, w, b) ∧ gF g' (k, w, b) = gF g (k, w, b)
theorem SmW.rx {w : Nat} {g g' : Sg} {A : AW} {H : List Act} (h : SmW w g g') (hX : RX g w A H) : RX g' w A H := by
  have eI : ∀ k b, 10 ≤ k → k ≤ 36 → gI g' (k, w, b) = gI g (k, w, b) := fun k b h1 h2 => (h k b h1 h2).1
  have eJ : ∀ k b, 10 ≤ k → k ≤ 36 → gJ g' (k, w, b) = gJ g (k, w, b) := fun k b h1 h2 => (h k b h1 h2).2.1
  have eA : ∀ k b, 10 ≤ k → k ≤ 36 → gA g' (k, w, b) = gA g (k, w, b) := fun k b h1 h2 => (h k b h1 h2).2.2.1
  have eB : ∀ k b, 10 ≤ k → k ≤ 36 → gB g' (k, w, b) = gB g (k, w, b) := fun k b h1 h2 => (h k b h1 h2).2.2.2.1
  have eN : ∀ k b, 10 ≤ k → k ≤ 36 → gN g' (k, w, b) = gN g (k, w, b) := fun k b h1 h2 => (h k b h1 h2).2.2.2.2.1
  have eF : ∀ k b, 10 ≤ k → k ≤ 36 → gF g' (k, w, b) = gF g (k, w, b) := fun k b h1 h2 => (h k b h1 h2).2.2.2.2.2
  obtain ⟨⟨h1, h2, h3, h4, h5, h6, h7⟩, hR, hC⟩ := hX
  have a10 : al g' (10, w, 0) := ⟨by rw [show own (10, w, 0) = (10, w, 0) from rfl, eF 10 0 (by omega) (by omega)]; exact h1.1, h1.2⟩
  have a30 : ∀ m, al g' (30, w, m) ↔ al g (30, w, m) := fun m => by
    unfold al
    rw [show own (30, w, m) = (30, w, m) from rfl, eF 30 m (by omega) (by omega)]
  have r : ∀ r n, rOk g w r n → rOk g' w r n := fun r n hr => ⟨hr.1, by rw [eI _ _ (by omega) (by omega)]; exact hr.2.1, by rw [eN _ _ (by omega) (by omega)]; exact hr.2.2.1, by rw [eN _ _ (by omega) (by omega)]; exact hr.2.2.2⟩
  have hb : RB g' w (aB A) := by
    obtain ⟨b1, b2, b3, b4, b5, b6⟩ := h2
    exact ⟨r _ _ b1, r _ _ b2, by rw [eI _ _ (by omega) (by omega)]; exact b3, by rw [eI _ _ (by omega) (by omega)]; exact b4, fun l c hl hc => by unfold rv; rw [eA _ _ (by omega) (by omega)]; exact b5 l c hl hc, fun p c hp hc => by unfold rv; rw [eA _ _ (by omega) (by omega)]; exact b6 p c hp hc⟩
  refine ⟨⟨a10, hb, by rw [eI _ _ (by omega) (by omega)]; exact h3, by rw [eB _ _ (by omega) (by omega)]; exact h4, by rw [eA _ _ (by omega) (by omega)]; exact h5, fun m hm hd => ?_, fun m hm hd ha => ?_⟩, ⟨r _ _ hR.1, fun i x c hx hc => by unfold rv; rw [eA _ _ (by omega) (by omega)]; exact hR.2 i x c hx hc⟩, fun r hr => by rw [eN _ _ (by omega) (by omega)]; exact hC r hr⟩
  · obtain ⟨b1, b2, b3, b4, ⟨n, c1, c2, c3⟩, b6⟩ := h6 m hm hd
    exact ⟨(a30 m).mpr b1, by rw [eI _ _ (by omega) (by omega)]; exact b2, by rw [eJ _ _ (by omega) (by omega)]; exact b3, fun k x y => by rw [eA _ _ (by omega) (by omega)]; exact b4 k x y, ⟨n, c1, c2, by rw [eA _ _ (by omega) (by omega)]; exact c3⟩, b6⟩
  · obtain ⟨c1, c2⟩ := h7 m hm hd ((a30 m).mp ha)
    exact ⟨by rw [eI _ _ (by omega) (by omega)]; exact c1, fun k j a b hj => by rw [eA _ _ (by omega) (by omega)]; exact c2 k j a b hj⟩
theorem SmW.bd {w : Nat} {g g' : Sg} (h : SmW w g g') : Bd g' w = Bd g w := by
  have e : ∀ r, bdR (gN g') w r = bdR (gN g) w r := fun r => by unfold bdR; rw [(h 21 r (by omega) (by omega)).2.2.2.2.1]
  have e2 : ∀ k, bdM (gF g') w k = bdM (gF g) w k := fun k => by
    induction k with
    | zero => rfl
    | succ k ih => unfold bdM; rw [ih, (h 30 k (by omega) (by omega)).2.2.2.2.2]
  unfold Bd
  rw [e, e, e, e2]
theorem SmW.pw {w : Nat} {g g' : Sg} (h : SmW w g g') : Pw g' w = Pw g w := by
  unfold Pw
  rw [(h 10 0 (by omega) (by omega)).2.2.2.2.2, h.bd]
theorem SmW.no {w : Nat} {g g' : Sg} (h : SmW w g g') (hn : noW g w) : noW g' w := ⟨by rw [(h 10 0 (by omega) (by omega)).2.2.2.2.2]; exact hn.1, fun m => by rw [(h 30 m (by omega) (by omega)).2.2.2.2.2]; exact hn.2 m⟩
theorem SmW.kp {g g' : Sg} {K : Option (List Act)} (h : SmW 1 g g') (hK : KpR g K) : KpR g' K := by
  cases K with
  | none => exact h.no hK
  | some K => exact ⟨hK.1, h.rx hK.2⟩
theorem SmW.bs {g g' : Sg} (h : SmW 2 g g') (hK : noW g 2 ∨ ∃ A H, RX g 2 A H) : noW g' 2 ∨ ∃ A H, RX g' 2 A H := hK.imp h.no (fun ⟨A, H, q⟩ => ⟨A, H, h.rx q⟩)
theorem EqW.sm {w w' : Nat} {ad ad' : Nm → Nat} {g g' : Sg} (h : EqW w ad g ad' g') (hw : w' ≠ w) : SmW w' g g' := fun k b _ _ => h.2.2.1 (k, w', b) (fun q => hw q.1)
theorem EqX.sm {S : Nm → Prop} {w : Nat} {g g' : Sg} (h : EqX S g g') (hS : ∀ n, S n → n.1 < 10 ∨ 37 ≤ n.1) : SmW w g g' := fun k b h1 h2 => by
  obtain ⟨c1, c2, c3, c4⟩ := h.1 (k, w, b) (fun q => by have := hS _ q; dsimp only at this; omega)
  exact ⟨c1, c2, c3, c4, by rw [h.2.1], by rw [h.2.2.1]⟩
theorem EqY.sm {w : Nat} {ad ad' : Nm → Nat} {g g' : Sg} (h : EqY ad g ad' g') : SmW w g g' := fun k b h1 h2 => by
  obtain ⟨c1, c2, c3, c4, c5⟩ := h.2.2.1 (k, w, b) (by show k ≠ 3; omega) (by show k ≠ 4; omega)
  exact ⟨c1, c2, c3, c4, c5, by rw [h.2.2.2.1]⟩
theorem EqX.cst {S : Nm → Prop} {sz : Nat} {g g' : Sg} (h : EqX S g g') (hc : Cst sz g) : Cst sz g' := by
  obtain ⟨a1, a2, a3, a4, a5⟩ := h
  unfold Cst Pw Bd phY at hc ⊢
  rw [a2, a3, a4, a5]
  exact hc
theorem RY_eqx {S : Nm → Prop} {g g' : Sg} {Y : List Int32} (h : EqX S g g') (hS : ∀ n, S n → n.1 ≠ 3 ∧ n.1 ≠ 4) (hY : RY g Y) : RY g' Y := by
  obtain ⟨a1, a2, a3, a4, a5, a6⟩ := hY
  have e3 := h.1 (3, 0, 0) (fun q => (hS _ q).1 rfl)
  have e4 := h.1 (4, 0, 0) (fun q => (hS _ q).2 rfl)
  exact ⟨h.al' a1, by rw [e3.1]; exact a2, by rw [h.2.1]; exact a3, by rw [h.2.1]; exact a4, by rw [h.2.1]; exact a5, fun i v hv => by rw [e4.2.2.1]; exact a6 i v hv⟩
/-- calls of the reference leave the roll -/
theorem EqX.rc {S : Nm → Prop} {g g' : Sg} {C : CS} (h : EqX S g g') (hS : ∀ n, S n → 37 ≤ n.1) (hR : RC g C) : RC g' C := by
  obtain ⟨r1, ⟨r2, r3⟩, r4, r5, r6, r7, r8, r9⟩ := hR
  have hs : ∀ w, SmW w g g' := fun w => h.sm (fun n q => Or.inr (hS n q))
  have ne : ∀ n : Nm, n.1 < 37 → ¬ S n := fun n hn q => by have := hS n q; omega
  exact ⟨h.al' r1, ⟨r2, (hs 0).rx r3⟩, (hs 1).kp r4, (hs 2).bs r5, fun k hk => by rw [(h.1 (2, 0, 0) (ne _ (by decide))).2.2.1]; exact r6 k hk, by rw [(h.1 (1, 0, 0) (ne _ (by decide))).1]; exact r7, RY_eqx h (fun n q => by have := hS n q; omega) r8, fun i hi => by rw [(h.1 (5, 0, 0) (ne _ (by decide))).2.2.1]; exact r9 i hi⟩
def smS : Nm → Prop := fun n => n.1 = 1 ∨ n.1 = 2 ∨ n.1 = 5 ∨ n.1 = 6
/-- refusals, the latest, the table, the spare row -/
theorem RC.sm {g g' : Sg} {S S' : CS} (hR : RC g S) (h : EqX smS g g') (e1 : sH S' = sH S) (e2 : sK S' = sK S) (e5 : sY S' = sY S) (h3 : ∀ k, k < 11 → gA g' (2, 0, 0) k = sC S' k) (h4 : gI g' (1, 0, 0) 1 = sLt S') (h6 : ∀ i, i < 16 → gA g' (5, 0, 0) i = sT S' i) : RC g' S' := by
  obtain ⟨r1, ⟨r2, r3⟩, r4, r5, r6, r7, r8, r9⟩ := hR
  have q : ∀ n, smS n → n.1 < 10 ∨ 37 ≤ n.1 := fun n q => by unfold smS at q; omega
  refine ⟨h.al' r1, ⟨by rw [e1]; exact r2, by rw [e1]; exact (h.sm q).rx r3⟩, by rw [e2]; exact (h.sm q).kp r4, (h.sm q).bs r5, h3, h4, by rw [e5]; exact RY_eqx h (fun n q => by unfold smS at q; omega) r8, h6⟩
def rfS (S : CS) (k : Nat) : Int32 × CS := (- nI k, (S.1, S.2.1, upd S.2.2.1 k (S.2.2.1 k + nI 1), - nI k, S.2.2.2.2))
theorem keG_x {g : Sg} {k : Nat} {v : Int32} : EqX smS g (keG g k v) := (EqX.rf.sA (Or.inr (Or.inl rfl))).sI (Or.inl rfl)
theorem RC_rf {g : Sg} {S : CS} {k : Nat} (hR : RC g S) (hk : isW k) : RC (keG g k (- nI k)) (rfS S k).2 := by
  obtain ⟨-, -, -, -, r6, r7, r8, r9⟩ := id hR
  refine hR.sm keG_x rfl rfl rfl (fun j hj => ?_) rfl (fun i hi => r9 i hi)
  have e : gA (keG g k (- nI k)) (2, 0, 0) = upd (gA g (2, 0, 0)) k (gA g (2, 0, 0) k + nI 1) := rfl
  rw [e]
  show upd _ k _ j = upd (sC S) k (sC S k + nI 1) j
  unfold upd
  split
  · rw [r6 k (by have := hk.2; omega)]
  · exact r6 j hj
def anS (S : CS) (q : Nat ⊕ Int32) : Int32 × CS := match q with
  | .inl k => rfS S k
  | .inr x => (x, S)
def CQ (sz : Nat) (ad : Nm → Nat) (g : Sg) (R : Int32 × CS) : Option Value → PH → Prop := PQ (fun v ad' g' => v = some (.int R.1) ∧ RC g' R.2 ∧ Cst sz g' ∧ EqC ad g ad' g')
theorem QR.cq {sz : Nat} {M : MI} {L : PLoc} {st : List Value} {pc : Nat} {ad : Nm → Nat} {g : Sg} {S : CS} {q : Nat ⊕ Int32} (h : PS M pc L st ad g (Ri (fun v g' => QR g q v g'))) (hR : RC g S) (hc : Cst sz g) : PP M pc L st (Rel ad g) (CQ sz ad g (anS S q)) := by
  refine h.weak (fun v G hG => ?_)
  obtain ⟨g', h1, r, rfl, h3⟩ := hG
  cases q with
  | inl k =>
    obtain ⟨hk, rfl, rfl⟩ := h3
    exact ⟨ad, _, h1, rfl, RC_rf hR hk.1, keG_x.cst hc, keG_x.c (fun n q => by unfold smS at q; omega)⟩
  | inr x =>
    obtain ⟨rfl, rfl⟩ := h3
    exact ⟨ad, _, h1, rfl, hR, hc, EqC.rf⟩
theorem RC.a {g : Sg} {S : CS} (h : RC g S) : RW g 0 (runA (sH S)) := h.2.1.2.1
theorem RC.i {g : Sg} {S : CS} (h : RC g S) : INV ((sH S).length + 1) ((sH S).length + 1) (runA (sH S)) := inv_run h.2.1.1
/-! acts -/
noncomputable def spAct (v : Nat) (a b : Int32) (sd : Int64) (S : CS) : Int32 × CS := cIf (whyA (runA (sH S)) (sH S).length v a b = nI 0) ((stA (runA (sH S)) v a b sd).2, (S.1 ++ [(nI v, a, b, sd)], S.2)) (rfS S (cl (- whyA (runA (sH S)) (sH S).length v a b)))
theorem cst_w {sz w : Nat} {ad ad' : Nm → Nat} {g g' : Sg} {A : AW} {H : List Act} (hE : EqW w ad g ad' g') (hX : RX g w A H) (hw : w < 3) (h4 : phY g' = phY g) (hc : Cst sz g) : Cst sz g' := by
  have hF : gF g (10, w, 0) = true := hX.1.1.1
  have hp : Pw g w = Bd g w := if_pos hF
  have hp' : Pw g' w = Bd g' w := if_pos (by rw [hE.2.2.2.1]; exact hF)
  have ho : ∀ w', w' ≠ w → Pw g' w' = Pw g w' := fun w' h => (hE.sm h).pw
  obtain ⟨c1, c2⟩ := hc
  have h5 := hE.2.2.2.2.1
  have h6 := hE.2.2.2.2.2
  unfold Cst
  rw [h4]
  obtain rfl | rfl | rfl : w = 0 ∨ w = 1 ∨ w = 2 := by omega
  · rw [ho 1 (by omega), ho 2 (by omega)]
    constructor <;> omega
  · rw [ho 0 (by omega), ho 2 (by omega)]
    constructor <;> omega
  · rw [ho 0 (by omega), ho 1 (by omega)]
    constructor <;> omega
theorem EqW.phy {w : Nat} {ad ad' : Nm → Nat} {g g' : Sg} (h : EqW w ad g ad' g') : phY g' = phY g := by
  unfold phY
  rw [(h.2.2.1 (4, 0, 0) (fun q => by have := q.2.1; simp at this)).2.2.2.2.1]
theorem EqW.ry {w : Nat} {ad ad' : Nm → Nat} {g g' : Sg} {Y : List Int32} (h : EqW w ad g ad' g') (hY : RY g Y) : RY g' Y := by
  obtain ⟨a1, a2, a3, a4, a5, a6⟩ := hY
  have e3 := h.2.2.1 (3, 0, 0) (fun q => by have := q.2.1; simp at this)
  have e4 := h.2.2.1 (4, 0, 0) (fun q => by have := q.2.1; simp at this)
  exact ⟨h.1 _ a1, by rw [e3.1]; exact a2, by rw [e4.2.2.2.2.1]; exact a3, by rw [e4.2.2.2.2.1]; exact a4, by rw [e4.2.2.2.2.1]; exact a5, fun i v hv => by rw [e4.2.2.1]; exact a6 i v hv⟩
/-- a change of one world -/
theorem RC_w {w : Nat} {ad ad' : Nm → Nat} {g g' : Sg} {S S' : CS} (hR : RC g S) (hE : EqW w ad g ad' g') (e3 : S'.2.2 = S.2.2) (h0 : okH (sH S') ∧ RX g' 0 (runA (sH S')) (sH S')) (h1 : KpR g' (sK S')) (h2 : noW g' 2 ∨ ∃ A H, RX g' 2 A H) : RC g' S' := by
  obtain ⟨r1, -, -, -, r6, r7, r8, r9⟩ := hR
  have q : ∀ k a b, k < 10 → ¬ wA w (k, a, b) := fun k a b hk q => by have := q.2.1; dsimp only at this; omega
  have eC : sC S' = sC S := congrArg (fun z => z.1) e3
  have eL : sLt S' = sLt S := congrArg (fun z => z.2.1) e3
  have eY : sY S' = sY S := congrArg (fun z => z.2.2.1) e3
  have eT : sT S' = sT S := congrArg (fun z => z.2.2.2) e3
  refine ⟨hE.1 _ r1, h0, h1, h2, fun k hk => ?_, ?_, ?_, fun i hi => ?_⟩
  · rw [(hE.2.2.1 _ (q 2 0 0 (by omega))).2.2.1, eC]; exact r6 k hk
  · rw [(hE.2.2.1 _ (q 1 0 0 (by omega))).1, eL]; exact r7
  · rw [eY]; exact hE.ry r8
  · rw [(hE.2.2.1 _ (q 5 0 0 (by omega))).2.2.1, eT]; exact r9 i hi
theorem neg_cl {k : Nat} (hk : isW k) : cl (- (- nI k)) = k := by
  rw [(neg_k ⟨k, by have := hk.2; omega⟩).1]
  exact cl_nI (by have := hk.2; omega)
set_option maxRecDepth 20000 in
set_option maxHeartbeats 4000000 in
theorem x_member {sz : Nat} {ad : Nm → Nat} {g : Sg} {S : CS} {a : Int32} {sd : Int64} (hR : RC g S) (hc : Cst sz g) : PP mX6_member 0 (ent mX6_member [.ref (ad (0, 0, 0)), .int a, .long sd]) [] (Rel ad g) (CQ sz ad g (spAct 1 a (nI 0) sd S)) := by
  have hr := hR.1
  have hX := hR.2.1.2
  have hW := hX.1.1
  show PP mX6_member 0 [some (.ref (ad (0, 0, 0))), some (.int a), some (.long sd), none] [] (Rel ad g) _
  refine pp_aload_n dX6_member_0 rfl isRf_r (q := 1) rfl ?_
  refine pp_aload_n dX6_member_1 rfl isRf_r (q := 2) rfl ?_
  refine ps_get dX6_member_2 fl_X6_10 hr rfl rfl (q := 5) rfl ?_
  refine pp_iconst dX6_member_5 ci_1 (q := 6) rfl ?_
  refine pp_iload_n dX6_member_6 rfl (q := 7) rfl ?_
  refine pp_iconst dX6_member_7 ci_0 (q := 8) rfl ?_
  refine pp_lload_n dX6_member_8 rfl (q := 9) rfl ?_
  refine ps_callVq dX6_member_9 lk_X6_49 (by exact hW) (by rfl) (by rfl) (by rfl) (c_perf1 hX hR.i.x) (by rfl) (by exact Nat.le_of_ble_eq_true rfl) (by decide) (by decide) (by exact Nat.le_of_ble_eq_true rfl) (q := 12) rfl (fun v9 ad9 g9 h9 => ?_)
  skip
  obtain ⟨hE, h9⟩ := h9
  have hr9 := hE.1 _ hr
  rw [← hE.2.1 (0, 0, 0) hr (by show 0 ≠ 21; omega)]
  rcases h9 with ⟨hw, rfl, hX9⟩ | ⟨hw, rfl, hX9⟩
  · change PP mX6_member 12 _ [Value.int (stA (runA (sH S)) 1 a (nI 0) sd).2, Value.ref (ad9 (0, 0, 0))] _ _
    refine ps_callVi dX6_member_12 lk_X6_53 (by exact hr9) (by rfl) (by rfl) (by rfl) (c_settled hr9 (stA_ge hR.i (by have := okH_len hR.2.1.1; omega) ⟨by omega, by omega⟩ hw)) (by rfl) (by exact Nat.le_of_ble_eq_true rfl) (by decide) (by decide) (by exact Nat.le_of_ble_eq_true rfl) (q := 15) rfl (fun r2 g2 h2 => ?_)
    obtain ⟨rfl, rfl⟩ := h2
    refine pp_iret dX6_member_15 rfl rfl (fun G hG => ⟨_, _, hG, ?_⟩)
    unfold spAct
    rw [cIf_t hw]
    refine ⟨rfl, RC_w (S' := (S.1 ++ [(nI 1, a, (nI 0), sd)], S.2)) hR hE rfl ⟨okH_snoc hR.2.1.1 ⟨by omega, by omega⟩ hw, ?_⟩ ((hE.sm (by omega)).kp hR.2.2.1) ((hE.sm (by omega)).bs hR.2.2.2.1), cst_w hE hR.2.1.2 (by omega) hE.phy hc, hE.c⟩
    show RX _ 0 (runA (S.1 ++ [(nI 1, a, (nI 0), sd)])) _
    rw [runA_snoc, actF_v (by omega)]
    exact hX9
  · change PP mX6_member 12 _ [Value.int (whyA (runA (sH S)) (sH S).length 1 a (nI 0)), Value.ref (ad9 (0, 0, 0))] _ _
    obtain ⟨k, hk, ek⟩ := whyA_k hw
    rw [ek]
    refine ps_callVi dX6_member_12 lk_X6_53 (by exact hr9) (by rfl) (by rfl) (by rfl) (c_settled_no hr9 hk.1) (by rfl) (by exact Nat.le_of_ble_eq_true rfl) (by decide) (by decide) (by exact Nat.le_of_ble_eq_true rfl) (q := 15) rfl (fun r2 g2 h2 => ?_)
    obtain ⟨rfl, rfl⟩ := h2
    refine pp_iret dX6_member_15 rfl rfl (fun G hG => ⟨_, _, hG, ?_⟩)
    unfold spAct
    rw [cIf_f hw, ek, neg_cl hk.1]
    have hR9 : RC g9 S := RC_w (S' := S) hR hE rfl ⟨hR.2.1.1, hX9⟩ ((hE.sm (by omega)).kp hR.2.2.1) ((hE.sm (by omega)).bs hR.2.2.2.1)
    exact ⟨rfl, RC_rf hR9 hk.1, keG_x.cst (cst_w hE hR.2.1.2 (by omega) hE.phy hc), hE.c.tr (keG_x.c (fun n q => by unfold smS at q; omega))⟩
set_option maxRecDepth 20000 in
set_option maxHeartbeats 4000000 in
theorem x_join {sz : Nat} {ad : Nm → Nat} {g : Sg} {S : CS} {a b : Int32} (hR : RC g S) (hc : Cst sz g) : PP mX6_join 0 (ent mX6_join [.ref (ad (0, 0, 0)), .int a, .int b]) [] (Rel ad g) (CQ sz ad g (spAct 2 a b (lN 0) S)) := by
  have hr := hR.1
  have hX := hR.2.1.2
  have hW := hX.1.1
  show PP mX6_join 0 [some (.ref (ad (0, 0, 0))), some (.int a), some (.int b)] [] (Rel ad g) _
  refine pp_aload_n dX6_join_0 rfl isRf_r (q := 1) rfl ?_
  refine pp_aload_n dX6_join_1 rfl isRf_r (q := 2) rfl ?_
  refine ps_get dX6_join_2 fl_X6_10 hr rfl rfl (q := 5) rfl ?_
  refine pp_iconst dX6_join_5 ci_2 (q := 6) rfl ?_
  refine pp_iload_n dX6_join_6 rfl (q := 7) rfl ?_
  refine pp_iload_n dX6_join_7 rfl (q := 8) rfl ?_
  refine pp_lconst (v := lN 0) dX6_join_8 rfl (q := 9) rfl ?_
  refine ps_callVq dX6_join_9 lk_X6_49 (by exact hW) (by rfl) (by rfl) (by rfl) (c_perf2 hX hR.i.x) (by rfl) (by exact Nat.le_of_ble_eq_true rfl) (by decide) (by decide) (by exact Nat.le_of_ble_eq_true rfl) (q := 12) rfl (fun v9 ad9 g9 h9 => ?_)
  skip
  obtain ⟨hE, h9⟩ := h9
  have hr9 := hE.1 _ hr
  rw [← hE.2.1 (0, 0, 0) hr (by show 0 ≠ 21; omega)]
  rcases h9 with ⟨hw, rfl, hX9⟩ | ⟨hw, rfl, hX9⟩
  · change PP mX6_join 12 _ [Value.int (stA (runA (sH S)) 2 a b (lN 0)).2, Value.ref (ad9 (0, 0, 0))] _ _
    refine ps_callVi dX6_join_12 lk_X6_53 (by exact hr9) (by rfl) (by rfl) (by rfl) (c_settled hr9 (stA_ge hR.i (by have := okH_len hR.2.1.1; omega) ⟨by omega, by omega⟩ hw)) (by rfl) (by exact Nat.le_of_ble_eq_true rfl) (by decide) (by decide) (by exact Nat.le_of_ble_eq_true rfl) (q := 15) rfl (fun r2 g2 h2 => ?_)
    obtain ⟨rfl, rfl⟩ := h2
    refine pp_iret dX6_join_15 rfl rfl (fun G hG => ⟨_, _, hG, ?_⟩)
    unfold spAct
    rw [cIf_t hw]
    refine ⟨rfl, RC_w (S' := (S.1 ++ [(nI 2, a, b, (lN 0))], S.2)) hR hE rfl ⟨okH_snoc hR.2.1.1 ⟨by omega, by omega⟩ hw, ?_⟩ ((hE.sm (by omega)).kp hR.2.2.1) ((hE.sm (by omega)).bs hR.2.2.2.1), cst_w hE hR.2.1.2 (by omega) hE.phy hc, hE.c⟩
    show RX _ 0 (runA (S.1 ++ [(nI 2, a, b, (lN 0))])) _
    rw [runA_snoc, actF_v (by omega)]
    exact hX9
  · change PP mX6_join 12 _ [Value.int (whyA (runA (sH S)) (sH S).length 2 a b), Value.ref (ad9 (0, 0, 0))] _ _
    obtain ⟨k, hk, ek⟩ := whyA_k hw
    rw [ek]
    refine ps_callVi dX6_join_12 lk_X6_53 (by exact hr9) (by rfl) (by rfl) (by rfl) (c_settled_no hr9 hk.1) (by rfl) (by exact Nat.le_of_ble_eq_true rfl) (by decide) (by decide) (by exact Nat.le_of_ble_eq_true rfl) (q := 15) rfl (fun r2 g2 h2 => ?_)
    obtain ⟨rfl, rfl⟩ := h2
    refine pp_iret dX6_join_15 rfl rfl (fun G hG => ⟨_, _, hG, ?_⟩)
    unfold spAct
    rw [cIf_f hw, ek, neg_cl hk.1]
    have hR9 : RC g9 S := RC_w (S' := S) hR hE rfl ⟨hR.2.1.1, hX9⟩ ((hE.sm (by omega)).kp hR.2.2.1) ((hE.sm (by omega)).bs hR.2.2.2.1)
    exact ⟨rfl, RC_rf hR9 hk.1, keG_x.cst (cst_w hE hR.2.1.2 (by omega) hE.phy hc), hE.c.tr (keG_x.c (fun n q => by unfold smS at q; omega))⟩
set_option maxRecDepth 20000 in
set_option maxHeartbeats 4000000 in
theorem x_leave {sz : Nat} {ad : Nm → Nat} {g : Sg} {S : CS} {a : Int32} (hR : RC g S) (hc : Cst sz g) : PP mX6_leave 0 (ent mX6_leave [.ref (ad (0, 0, 0)), .int a]) [] (Rel ad g) (CQ sz ad g (spAct 3 a (nI 0) (lN 0) S)) := by
  have hr := hR.1
  have hX := hR.2.1.2
  have hW := hX.1.1
  show PP mX6_leave 0 [some (.ref (ad (0, 0, 0))), some (.int a)] [] (Rel ad g) _
  refine pp_aload_n dX6_leave_0 rfl isRf_r (q := 1) rfl ?_
  refine pp_aload_n dX6_leave_1 rfl isRf_r (q := 2) rfl ?_
  refine ps_get dX6_leave_2 fl_X6_10 hr rfl rfl (q := 5) rfl ?_
  refine pp_iconst dX6_leave_5 ci_3 (q := 6) rfl ?_
  refine pp_iload_n dX6_leave_6 rfl (q := 7) rfl ?_
  refine pp_iconst dX6_leave_7 ci_0 (q := 8) rfl ?_
  refine pp_lconst (v := lN 0) dX6_leave_8 rfl (q := 9) rfl ?_
  refine ps_callVq dX6_leave_9 lk_X6_49 (by exact hW) (by rfl) (by rfl) (by rfl) (c_perf3 hX hR.i.x) (by rfl) (by exact Nat.le_of_ble_eq_true rfl) (by decide) (by decide) (by exact Nat.le_of_ble_eq_true rfl) (q := 12) rfl (fun v9 ad9 g9 h9 => ?_)
  skip
  obtain ⟨hE, h9⟩ := h9
  have hr9 := hE.1 _ hr
  rw [← hE.2.1 (0, 0, 0) hr (by show 0 ≠ 21; omega)]
  rcases h9 with ⟨hw, rfl, hX9⟩ | ⟨hw, rfl, hX9⟩
  · change PP mX6_leave 12 _ [Value.int (stA (runA (sH S)) 3 a (nI 0) (lN 0)).2, Value.ref (ad9 (0, 0, 0))] _ _
    refine ps_callVi dX6_leave_12 lk_X6_53 (by exact hr9) (by rfl) (by rfl) (by rfl) (c_settled hr9 (stA_ge hR.i (by have := okH_len hR.2.1.1; omega) ⟨by omega, by omega⟩ hw)) (by rfl) (by exact Nat.le_of_ble_eq_true rfl) (by decide) (by decide) (by exact Nat.le_of_ble_eq_true rfl) (q := 15) rfl (fun r2 g2 h2 => ?_)
    obtain ⟨rfl, rfl⟩ := h2
    refine pp_iret dX6_leave_15 rfl rfl (fun G hG => ⟨_, _, hG, ?_⟩)
    unfold spAct
    rw [cIf_t hw]
    refine ⟨rfl, RC_w (S' := (S.1 ++ [(nI 3, a, (nI 0), (lN 0))], S.2)) hR hE rfl ⟨okH_snoc hR.2.1.1 ⟨by omega, by omega⟩ hw, ?_⟩ ((hE.sm (by omega)).kp hR.2.2.1) ((hE.sm (by omega)).bs hR.2.2.2.1), cst_w hE hR.2.1.2 (by omega) hE.phy hc, hE.c⟩
    show RX _ 0 (runA (S.1 ++ [(nI 3, a, (nI 0), (lN 0))])) _
    rw [runA_snoc, actF_v (by omega)]
    exact hX9
  · change PP mX6_leave 12 _ [Value.int (whyA (runA (sH S)) (sH S).length 3 a (nI 0)), Value.ref (ad9 (0, 0, 0))] _ _
    obtain ⟨k, hk, ek⟩ := whyA_k hw
    rw [ek]
    refine ps_callVi dX6_leave_12 lk_X6_53 (by exact hr9) (by rfl) (by rfl) (by rfl) (c_settled_no hr9 hk.1) (by rfl) (by exact Nat.le_of_ble_eq_true rfl) (by decide) (by decide) (by exact Nat.le_of_ble_eq_true rfl) (q := 15) rfl (fun r2 g2 h2 => ?_)
    obtain ⟨rfl, rfl⟩ := h2
    refine pp_iret dX6_leave_15 rfl rfl (fun G hG => ⟨_, _, hG, ?_⟩)
    unfold spAct
    rw [cIf_f hw, ek, neg_cl hk.1]
    have hR9 : RC g9 S := RC_w (S' := S) hR hE rfl ⟨hR.2.1.1, hX9⟩ ((hE.sm (by omega)).kp hR.2.2.1) ((hE.sm (by omega)).bs hR.2.2.2.1)
    exact ⟨rfl, RC_rf hR9 hk.1, keG_x.cst (cst_w hE hR.2.1.2 (by omega) hE.phy hc), hE.c.tr (keG_x.c (fun n q => by unfold smS at q; omega))⟩
set_option maxRecDepth 20000 in
set_option maxHeartbeats 4000000 in
theorem x_turn {sz : Nat} {ad : Nm → Nat} {g : Sg} {S : CS} {a : Int32} (hR : RC g S) (hc : Cst sz g) : PP mX6_turn 0 (ent mX6_turn [.ref (ad (0, 0, 0)), .int a]) [] (Rel ad g) (CQ sz ad g (spAct 4 a (nI 0) (lN 0) S)) := by
  have hr := hR.1
  have hX := hR.2.1.2
  have hW := hX.1.1
  show PP mX6_turn 0 [some (.ref (ad (0, 0, 0))), some (.int a)] [] (Rel ad g) _
  refine pp_aload_n dX6_turn_0 rfl isRf_r (q := 1) rfl ?_
  refine pp_aload_n dX6_turn_1 rfl isRf_r (q := 2) rfl ?_
  refine ps_get dX6_turn_2 fl_X6_10 hr rfl rfl (q := 5) rfl ?_
  refine pp_iconst dX6_turn_5 ci_4 (q := 6) rfl ?_
  refine pp_iload_n dX6_turn_6 rfl (q := 7) rfl ?_
  refine pp_iconst dX6_turn_7 ci_0 (q := 8) rfl ?_
  refine pp_lconst (v := lN 0) dX6_turn_8 rfl (q := 9) rfl ?_
  refine ps_callVq dX6_turn_9 lk_X6_49 (by exact hW) (by rfl) (by rfl) (by rfl) (c_perf4 hX hR.i.x) (by rfl) (by exact Nat.le_of_ble_eq_true rfl) (by decide) (by decide) (by exact Nat.le_of_ble_eq_true rfl) (q := 12) rfl (fun v9 ad9 g9 h9 => ?_)
  skip
  obtain ⟨hE, h9⟩ := h9
  have hr9 := hE.1 _ hr
  rw [← hE.2.1 (0, 0, 0) hr (by show 0 ≠ 21; omega)]
  rcases h9 with ⟨hw, rfl, hX9⟩ | ⟨hw, rfl, hX9⟩
  · change PP mX6_turn 12 _ [Value.int (stA (runA (sH S)) 4 a (nI 0) (lN 0)).2, Value.ref (ad9 (0, 0, 0))] _ _
    refine ps_callVi dX6_turn_12 lk_X6_53 (by exact hr9) (by rfl) (by rfl) (by rfl) (c_settled hr9 (stA_ge hR.i (by have := okH_len hR.2.1.1; omega) ⟨by omega, by omega⟩ hw)) (by rfl) (by exact Nat.le_of_ble_eq_true rfl) (by decide) (by decide) (by exact Nat.le_of_ble_eq_true rfl) (q := 15) rfl (fun r2 g2 h2 => ?_)
    obtain ⟨rfl, rfl⟩ := h2
    refine pp_iret dX6_turn_15 rfl rfl (fun G hG => ⟨_, _, hG, ?_⟩)
    unfold spAct
    rw [cIf_t hw]
    refine ⟨rfl, RC_w (S' := (S.1 ++ [(nI 4, a, (nI 0), (lN 0))], S.2)) hR hE rfl ⟨okH_snoc hR.2.1.1 ⟨by omega, by omega⟩ hw, ?_⟩ ((hE.sm (by omega)).kp hR.2.2.1) ((hE.sm (by omega)).bs hR.2.2.2.1), cst_w hE hR.2.1.2 (by omega) hE.phy hc, hE.c⟩
    show RX _ 0 (runA (S.1 ++ [(nI 4, a, (nI 0), (lN 0))])) _
    rw [runA_snoc, actF_v (by omega)]
    exact hX9
  · change PP mX6_turn 12 _ [Value.int (whyA (runA (sH S)) (sH S).length 4 a (nI 0)), Value.ref (ad9 (0, 0, 0))] _ _
    obtain ⟨k, hk, ek⟩ := whyA_k hw
    rw [ek]
    refine ps_callVi dX6_turn_12 lk_X6_53 (by exact hr9) (by rfl) (by rfl) (by rfl) (c_settled_no hr9 hk.1) (by rfl) (by exact Nat.le_of_ble_eq_true rfl) (by decide) (by decide) (by exact Nat.le_of_ble_eq_true rfl) (q := 15) rfl (fun r2 g2 h2 => ?_)
    obtain ⟨rfl, rfl⟩ := h2
    refine pp_iret dX6_turn_15 rfl rfl (fun G hG => ⟨_, _, hG, ?_⟩)
    unfold spAct
    rw [cIf_f hw, ek, neg_cl hk.1]
    have hR9 : RC g9 S := RC_w (S' := S) hR hE rfl ⟨hR.2.1.1, hX9⟩ ((hE.sm (by omega)).kp hR.2.2.1) ((hE.sm (by omega)).bs hR.2.2.2.1)
    exact ⟨rfl, RC_rf hR9 hk.1, keG_x.cst (cst_w hE hR.2.1.2 (by omega) hE.phy hc), hE.c.tr (keG_x.c (fun n q => by unfold smS at q; omega))⟩
set_option maxRecDepth 20000 in
set_option maxHeartbeats 4000000 in
theorem x_fall {sz : Nat} {ad : Nm → Nat} {g : Sg} {S : CS} {a : Int32} (hR : RC g S) (hc : Cst sz g) : PP mX6_fall 0 (ent mX6_fall [.ref (ad (0, 0, 0)), .int a]) [] (Rel ad g) (CQ sz ad g (spAct 5 a (nI 0) (lN 0) S)) := by
  have hr := hR.1
  have hX := hR.2.1.2
  have hW := hX.1.1
  show PP mX6_fall 0 [some (.ref (ad (0, 0, 0))), some (.int a)] [] (Rel ad g) _
  refine pp_aload_n dX6_fall_0 rfl isRf_r (q := 1) rfl ?_
  refine pp_aload_n dX6_fall_1 rfl isRf_r (q := 2) rfl ?_
  refine ps_get dX6_fall_2 fl_X6_10 hr rfl rfl (q := 5) rfl ?_
  refine pp_iconst dX6_fall_5 ci_5 (q := 6) rfl ?_
  refine pp_iload_n dX6_fall_6 rfl (q := 7) rfl ?_
  refine pp_iconst dX6_fall_7 ci_0 (q := 8) rfl ?_
  refine pp_lconst (v := lN 0) dX6_fall_8 rfl (q := 9) rfl ?_
  refine ps_callVq dX6_fall_9 lk_X6_49 (by exact hW) (by rfl) (by rfl) (by rfl) (c_perf5 hX hR.i.x) (by rfl) (by exact Nat.le_of_ble_eq_true rfl) (by decide) (by decide) (by exact Nat.le_of_ble_eq_true rfl) (q := 12) rfl (fun v9 ad9 g9 h9 => ?_)
  skip
  obtain ⟨hE, h9⟩ := h9
  have hr9 := hE.1 _ hr
  rw [← hE.2.1 (0, 0, 0) hr (by show 0 ≠ 21; omega)]
  rcases h9 with ⟨hw, rfl, hX9⟩ | ⟨hw, rfl, hX9⟩
  · change PP mX6_fall 12 _ [Value.int (stA (runA (sH S)) 5 a (nI 0) (lN 0)).2, Value.ref (ad9 (0, 0, 0))] _ _
    refine ps_callVi dX6_fall_12 lk_X6_53 (by exact hr9) (by rfl) (by rfl) (by rfl) (c_settled hr9 (stA_ge hR.i (by have := okH_len hR.2.1.1; omega) ⟨by omega, by omega⟩ hw)) (by rfl) (by exact Nat.le_of_ble_eq_true rfl) (by decide) (by decide) (by exact Nat.le_of_ble_eq_true rfl) (q := 15) rfl (fun r2 g2 h2 => ?_)
    obtain ⟨rfl, rfl⟩ := h2
    refine pp_iret dX6_fall_15 rfl rfl (fun G hG => ⟨_, _, hG, ?_⟩)
    unfold spAct
    rw [cIf_t hw]
    refine ⟨rfl, RC_w (S' := (S.1 ++ [(nI 5, a, (nI 0), (lN 0))], S.2)) hR hE rfl ⟨okH_snoc hR.2.1.1 ⟨by omega, by omega⟩ hw, ?_⟩ ((hE.sm (by omega)).kp hR.2.2.1) ((hE.sm (by omega)).bs hR.2.2.2.1), cst_w hE hR.2.1.2 (by omega) hE.phy hc, hE.c⟩
    show RX _ 0 (runA (S.1 ++ [(nI 5, a, (nI 0), (lN 0))])) _
    rw [runA_snoc, actF_v (by omega)]
    exact hX9
  · change PP mX6_fall 12 _ [Value.int (whyA (runA (sH S)) (sH S).length 5 a (nI 0)), Value.ref (ad9 (0, 0, 0))] _ _
    obtain ⟨k, hk, ek⟩ := whyA_k hw
    rw [ek]
    refine ps_callVi dX6_fall_12 lk_X6_53 (by exact hr9) (by rfl) (by rfl) (by rfl) (c_settled_no hr9 hk.1) (by rfl) (by exact Nat.le_of_ble_eq_true rfl) (by decide) (by decide) (by exact Nat.le_of_ble_eq_true rfl) (q := 15) rfl (fun r2 g2 h2 => ?_)
    obtain ⟨rfl, rfl⟩ := h2
    refine pp_iret dX6_fall_15 rfl rfl (fun G hG => ⟨_, _, hG, ?_⟩)
    unfold spAct
    rw [cIf_f hw, ek, neg_cl hk.1]
    have hR9 : RC g9 S := RC_w (S' := S) hR hE rfl ⟨hR.2.1.1, hX9⟩ ((hE.sm (by omega)).kp hR.2.2.1) ((hE.sm (by omega)).bs hR.2.2.2.1)
    exact ⟨rfl, RC_rf hR9 hk.1, keG_x.cst (cst_w hE hR.2.1.2 (by omega) hE.phy hc), hE.c.tr (keG_x.c (fun n q => by unfold smS at q; omega))⟩
set_option maxRecDepth 20000 in
set_option maxHeartbeats 4000000 in
theorem x_rise {sz : Nat} {ad : Nm → Nat} {g : Sg} {S : CS} {a : Int32} (hR : RC g S) (hc : Cst sz g) : PP mX6_rise 0 (ent mX6_rise [.ref (ad (0, 0, 0)), .int a]) [] (Rel ad g) (CQ sz ad g (spAct 6 a (nI 0) (lN 0) S)) := by
  have hr := hR.1
  have hX := hR.2.1.2
  have hW := hX.1.1
  show PP mX6_rise 0 [some (.ref (ad (0, 0, 0))), some (.int a)] [] (Rel ad g) _
  refine pp_aload_n dX6_rise_0 rfl isRf_r (q := 1) rfl ?_
  refine pp_aload_n dX6_rise_1 rfl isRf_r (q := 2) rfl ?_
  refine ps_get dX6_rise_2 fl_X6_10 hr rfl rfl (q := 5) rfl ?_
  refine pp_bipush dX6_rise_5 cb_6 (q := 7) rfl ?_
  refine pp_iload_n dX6_rise_7 rfl (q := 8) rfl ?_
  refine pp_iconst dX6_rise_8 ci_0 (q := 9) rfl ?_
  refine pp_lconst (v := lN 0) dX6_rise_9 rfl (q := 10) rfl ?_
  refine ps_callVq dX6_rise_10 lk_X6_49 (by exact hW) (by rfl) (by rfl) (by rfl) (c_perf6 hX hR.i.x) (by rfl) (by exact Nat.le_of_ble_eq_true rfl) (by decide) (by decide) (by exact Nat.le_of_ble_eq_true rfl) (q := 13) rfl (fun v10 ad10 g10 h10 => ?_)
  skip
  obtain ⟨hE, h9⟩ := h10
  have hr9 := hE.1 _ hr
  rw [← hE.2.1 (0, 0, 0) hr (by show 0 ≠ 21; omega)]
  rcases h9 with ⟨hw, rfl, hX9⟩ | ⟨hw, rfl, hX9⟩
  · change PP mX6_rise 13 _ [Value.int (stA (runA (sH S)) 6 a (nI 0) (lN 0)).2, Value.ref (ad10 (0, 0, 0))] _ _
    refine ps_callVi dX6_rise_13 lk_X6_53 (by exact hr9) (by rfl) (by rfl) (by rfl) (c_settled hr9 (stA_ge hR.i (by have := okH_len hR.2.1.1; omega) ⟨by omega, by omega⟩ hw)) (by rfl) (by exact Nat.le_of_ble_eq_true rfl) (by decide) (by decide) (by exact Nat.le_of_ble_eq_true rfl) (q := 16) rfl (fun r2 g2 h2 => ?_)
    obtain ⟨rfl, rfl⟩ := h2
    refine pp_iret dX6_rise_16 rfl rfl (fun G hG => ⟨_, _, hG, ?_⟩)
    unfold spAct
    rw [cIf_t hw]
    refine ⟨rfl, RC_w (S' := (S.1 ++ [(nI 6, a, (nI 0), (lN 0))], S.2)) hR hE rfl ⟨okH_snoc hR.2.1.1 ⟨by omega, by omega⟩ hw, ?_⟩ ((hE.sm (by omega)).kp hR.2.2.1) ((hE.sm (by omega)).bs hR.2.2.2.1), cst_w hE hR.2.1.2 (by omega) hE.phy hc, hE.c⟩
    show RX _ 0 (runA (S.1 ++ [(nI 6, a, (nI 0), (lN 0))])) _
    rw [runA_snoc, actF_v (by omega)]
    exact hX9
  · change PP mX6_rise 13 _ [Value.int (whyA (runA (sH S)) (sH S).length 6 a (nI 0)), Value.ref (ad10 (0, 0, 0))] _ _
    obtain ⟨k, hk, ek⟩ := whyA_k hw
    rw [ek]
    refine ps_callVi dX6_rise_13 lk_X6_53 (by exact hr9) (by rfl) (by rfl) (by rfl) (c_settled_no hr9 hk.1) (by rfl) (by exact Nat.le_of_ble_eq_true rfl) (by decide) (by decide) (by exact Nat.le_of_ble_eq_true rfl) (q := 16) rfl (fun r2 g2 h2 => ?_)
    obtain ⟨rfl, rfl⟩ := h2
    refine pp_iret dX6_rise_16 rfl rfl (fun G hG => ⟨_, _, hG, ?_⟩)
    unfold spAct
    rw [cIf_f hw, ek, neg_cl hk.1]
    have hR9 : RC g10 S := RC_w (S' := S) hR hE rfl ⟨hR.2.1.1, hX9⟩ ((hE.sm (by omega)).kp hR.2.2.1) ((hE.sm (by omega)).bs hR.2.2.2.1)
    exact ⟨rfl, RC_rf hR9 hk.1, keG_x.cst (cst_w hE hR.2.1.2 (by omega) hE.phy hc), hE.c.tr (keG_x.c (fun n q => by unfold smS at q; omega))⟩
set_option maxRecDepth 20000 in
set_option maxHeartbeats 4000000 in
theorem x_deliver {sz : Nat} {ad : Nm → Nat} {g : Sg} {S : CS} {a : Int32} (hR : RC g S) (hc : Cst sz g) : PP mX6_deliver 0 (ent mX6_deliver [.ref (ad (0, 0, 0)), .int a]) [] (Rel ad g) (CQ sz ad g (spAct 7 a (nI 0) (lN 0) S)) := by
  have hr := hR.1
  have hX := hR.2.1.2
  have hW := hX.1.1
  show PP mX6_deliver 0 [some (.ref (ad (0, 0, 0))), some (.int a)] [] (Rel ad g) _
  refine pp_aload_n dX6_deliver_0 rfl isRf_r (q := 1) rfl ?_
  refine pp_aload_n dX6_deliver_1 rfl isRf_r (q := 2) rfl ?_
  refine ps_get dX6_deliver_2 fl_X6_10 hr rfl rfl (q := 5) rfl ?_
  refine pp_bipush dX6_deliver_5 cb_7 (q := 7) rfl ?_
  refine pp_iload_n dX6_deliver_7 rfl (q := 8) rfl ?_
  refine pp_iconst dX6_deliver_8 ci_0 (q := 9) rfl ?_
  refine pp_lconst (v := lN 0) dX6_deliver_9 rfl (q := 10) rfl ?_
  refine ps_callVq dX6_deliver_10 lk_X6_49 (by exact hW) (by rfl) (by rfl) (by rfl) (c_perf7 hX hR.i.x) (by rfl) (by exact Nat.le_of_ble_eq_true rfl) (by decide) (by decide) (by exact Nat.le_of_ble_eq_true rfl) (q := 13) rfl (fun v10 ad10 g10 h10 => ?_)
  skip
  obtain ⟨hE, h9⟩ := h10
  have hr9 := hE.1 _ hr
  rw [← hE.2.1 (0, 0, 0) hr (by show 0 ≠ 21; omega)]
  rcases h9 with ⟨hw, rfl, hX9⟩ | ⟨hw, rfl, hX9⟩
  · change PP mX6_deliver 13 _ [Value.int (stA (runA (sH S)) 7 a (nI 0) (lN 0)).2, Value.ref (ad10 (0, 0, 0))] _ _
    refine ps_callVi dX6_deliver_13 lk_X6_53 (by exact hr9) (by rfl) (by rfl) (by rfl) (c_settled hr9 (stA_ge hR.i (by have := okH_len hR.2.1.1; omega) ⟨by omega, by omega⟩ hw)) (by rfl) (by exact Nat.le_of_ble_eq_true rfl) (by decide) (by decide) (by exact Nat.le_of_ble_eq_true rfl) (q := 16) rfl (fun r2 g2 h2 => ?_)
    obtain ⟨rfl, rfl⟩ := h2
    refine pp_iret dX6_deliver_16 rfl rfl (fun G hG => ⟨_, _, hG, ?_⟩)
    unfold spAct
    rw [cIf_t hw]
    refine ⟨rfl, RC_w (S' := (S.1 ++ [(nI 7, a, (nI 0), (lN 0))], S.2)) hR hE rfl ⟨okH_snoc hR.2.1.1 ⟨by omega, by omega⟩ hw, ?_⟩ ((hE.sm (by omega)).kp hR.2.2.1) ((hE.sm (by omega)).bs hR.2.2.2.1), cst_w hE hR.2.1.2 (by omega) hE.phy hc, hE.c⟩
    show RX _ 0 (runA (S.1 ++ [(nI 7, a, (nI 0), (lN 0))])) _
    rw [runA_snoc, actF_v (by omega)]
    exact hX9
  · change PP mX6_deliver 13 _ [Value.int (whyA (runA (sH S)) (sH S).length 7 a (nI 0)), Value.ref (ad10 (0, 0, 0))] _ _
    obtain ⟨k, hk, ek⟩ := whyA_k hw
    rw [ek]
    refine ps_callVi dX6_deliver_13 lk_X6_53 (by exact hr9) (by rfl) (by rfl) (by rfl) (c_settled_no hr9 hk.1) (by rfl) (by exact Nat.le_of_ble_eq_true rfl) (by decide) (by decide) (by exact Nat.le_of_ble_eq_true rfl) (q := 16) rfl (fun r2 g2 h2 => ?_)
    obtain ⟨rfl, rfl⟩ := h2
    refine pp_iret dX6_deliver_16 rfl rfl (fun G hG => ⟨_, _, hG, ?_⟩)
    unfold spAct
    rw [cIf_f hw, ek, neg_cl hk.1]
    have hR9 : RC g10 S := RC_w (S' := S) hR hE rfl ⟨hR.2.1.1, hX9⟩ ((hE.sm (by omega)).kp hR.2.2.1) ((hE.sm (by omega)).bs hR.2.2.2.1)
    exact ⟨rfl, RC_rf hR9 hk.1, keG_x.cst (cst_w hE hR.2.1.2 (by omega) hE.phy hc), hE.c.tr (keG_x.c (fun n q => by unfold smS at q; omega))⟩
set_option maxRecDepth 20000 in
set_option maxHeartbeats 4000000 in
theorem x_lose {sz : Nat} {ad : Nm → Nat} {g : Sg} {S : CS} {a : Int32} (hR : RC g S) (hc : Cst sz g) : PP mX6_lose 0 (ent mX6_lose [.ref (ad (0, 0, 0)), .int a]) [] (Rel ad g) (CQ sz ad g (spAct 8 a (nI 0) (lN 0) S)) := by
  have hr := hR.1
  have hX := hR.2.1.2
  have hW := hX.1.1
  show PP mX6_lose 0 [some (.ref (ad (0, 0, 0))), some (.int a)] [] (Rel ad g) _
  refine pp_aload_n dX6_lose_0 rfl isRf_r (q := 1) rfl ?_
  refine pp_aload_n dX6_lose_1 rfl isRf_r (q := 2) rfl ?_
  refine ps_get dX6_lose_2 fl_X6_10 hr rfl rfl (q := 5) rfl ?_
  refine pp_bipush dX6_lose_5 cb_8 (q := 7) rfl ?_
  refine pp_iload_n dX6_lose_7 rfl (q := 8) rfl ?_
  refine pp_iconst dX6_lose_8 ci_0 (q := 9) rfl ?_
  refine pp_lconst (v := lN 0) dX6_lose_9 rfl (q := 10) rfl ?_
  refine ps_callVq dX6_lose_10 lk_X6_49 (by exact hW) (by rfl) (by rfl) (by rfl) (c_perf8 hX hR.i.x) (by rfl) (by exact Nat.le_of_ble_eq_true rfl) (by decide) (by decide) (by exact Nat.le_of_ble_eq_true rfl) (q := 13) rfl (fun v10 ad10 g10 h10 => ?_)
  skip
  obtain ⟨hE, h9⟩ := h10
  have hr9 := hE.1 _ hr
  rw [← hE.2.1 (0, 0, 0) hr (by show 0 ≠ 21; omega)]
  rcases h9 with ⟨hw, rfl, hX9⟩ | ⟨hw, rfl, hX9⟩
  · change PP mX6_lose 13 _ [Value.int (stA (runA (sH S)) 8 a (nI 0) (lN 0)).2, Value.ref (ad10 (0, 0, 0))] _ _
    refine ps_callVi dX6_lose_13 lk_X6_53 (by exact hr9) (by rfl) (by rfl) (by rfl) (c_settled hr9 (stA_ge hR.i (by have := okH_len hR.2.1.1; omega) ⟨by omega, by omega⟩ hw)) (by rfl) (by exact Nat.le_of_ble_eq_true rfl) (by decide) (by decide) (by exact Nat.le_of_ble_eq_true rfl) (q := 16) rfl (fun r2 g2 h2 => ?_)
    obtain ⟨rfl, rfl⟩ := h2
    refine pp_iret dX6_lose_16 rfl rfl (fun G hG => ⟨_, _, hG, ?_⟩)
    unfold spAct
    rw [cIf_t hw]
    refine ⟨rfl, RC_w (S' := (S.1 ++ [(nI 8, a, (nI 0), (lN 0))], S.2)) hR hE rfl ⟨okH_snoc hR.2.1.1 ⟨by omega, by omega⟩ hw, ?_⟩ ((hE.sm (by omega)).kp hR.2.2.1) ((hE.sm (by omega)).bs hR.2.2.2.1), cst_w hE hR.2.1.2 (by omega) hE.phy hc, hE.c⟩
    show RX _ 0 (runA (S.1 ++ [(nI 8, a, (nI 0), (lN 0))])) _
    rw [runA_snoc, actF_v (by omega)]
    exact hX9
  · change PP mX6_lose 13 _ [Value.int (whyA (runA (sH S)) (sH S).length 8 a (nI 0)), Value.ref (ad10 (0, 0, 0))] _ _
    obtain ⟨k, hk, ek⟩ := whyA_k hw
    rw [ek]
    refine ps_callVi dX6_lose_13 lk_X6_53 (by exact hr9) (by rfl) (by rfl) (by rfl) (c_settled_no hr9 hk.1) (by rfl) (by exact Nat.le_of_ble_eq_true rfl) (by decide) (by decide) (by exact Nat.le_of_ble_eq_true rfl) (q := 16) rfl (fun r2 g2 h2 => ?_)
    obtain ⟨rfl, rfl⟩ := h2
    refine pp_iret dX6_lose_16 rfl rfl (fun G hG => ⟨_, _, hG, ?_⟩)
    unfold spAct
    rw [cIf_f hw, ek, neg_cl hk.1]
    have hR9 : RC g10 S := RC_w (S' := S) hR hE rfl ⟨hR.2.1.1, hX9⟩ ((hE.sm (by omega)).kp hR.2.2.1) ((hE.sm (by omega)).bs hR.2.2.2.1)
    exact ⟨rfl, RC_rf hR9 hk.1, keG_x.cst (cst_w hE hR.2.1.2 (by omega) hE.phy hc), hE.c.tr (keG_x.c (fun n q => by unfold smS at q; omega))⟩
set_option maxRecDepth 20000 in
set_option maxHeartbeats 4000000 in
theorem x_twice {sz : Nat} {ad : Nm → Nat} {g : Sg} {S : CS} {a : Int32} (hR : RC g S) (hc : Cst sz g) : PP mX6_twice 0 (ent mX6_twice [.ref (ad (0, 0, 0)), .int a]) [] (Rel ad g) (CQ sz ad g (spAct 9 a (nI 0) (lN 0) S)) := by
  have hr := hR.1
  have hX := hR.2.1.2
  have hW := hX.1.1
  show PP mX6_twice 0 [some (.ref (ad (0, 0, 0))), some (.int a)] [] (Rel ad g) _
  refine pp_aload_n dX6_twice_0 rfl isRf_r (q := 1) rfl ?_
  refine pp_aload_n dX6_twice_1 rfl isRf_r (q := 2) rfl ?_
  refine ps_get dX6_twice_2 fl_X6_10 hr rfl rfl (q := 5) rfl ?_
  refine pp_bipush dX6_twice_5 cb_9 (q := 7) rfl ?_
  refine pp_iload_n dX6_twice_7 rfl (q := 8) rfl ?_
  refine pp_iconst dX6_twice_8 ci_0 (q := 9) rfl ?_
  refine pp_lconst (v := lN 0) dX6_twice_9 rfl (q := 10) rfl ?_
  refine ps_callVq dX6_twice_10 lk_X6_49 (by exact hW) (by rfl) (by rfl) (by rfl) (c_perf9 hX hR.i.x) (by rfl) (by exact Nat.le_of_ble_eq_true rfl) (by decide) (by decide) (by exact Nat.le_of_ble_eq_true rfl) (q := 13) rfl (fun v10 ad10 g10 h10 => ?_)
  skip
  obtain ⟨hE, h9⟩ := h10
  have hr9 := hE.1 _ hr
  rw [← hE.2.1 (0, 0, 0) hr (by show 0 ≠ 21; omega)]
  rcases h9 with ⟨hw, rfl, hX9⟩ | ⟨hw, rfl, hX9⟩
  · change PP mX6_twice 13 _ [Value.int (stA (runA (sH S)) 9 a (nI 0) (lN 0)).2, Value.ref (ad10 (0, 0, 0))] _ _
    refine ps_callVi dX6_twice_13 lk_X6_53 (by exact hr9) (by rfl) (by rfl) (by rfl) (c_settled hr9 (stA_ge hR.i (by have := okH_len hR.2.1.1; omega) ⟨by omega, by omega⟩ hw)) (by rfl) (by exact Nat.le_of_ble_eq_true rfl) (by decide) (by decide) (by exact Nat.le_of_ble_eq_true rfl) (q := 16) rfl (fun r2 g2 h2 => ?_)
    obtain ⟨rfl, rfl⟩ := h2
    refine pp_iret dX6_twice_16 rfl rfl (fun G hG => ⟨_, _, hG, ?_⟩)
    unfold spAct
    rw [cIf_t hw]
    refine ⟨rfl, RC_w (S' := (S.1 ++ [(nI 9, a, (nI 0), (lN 0))], S.2)) hR hE rfl ⟨okH_snoc hR.2.1.1 ⟨by omega, by omega⟩ hw, ?_⟩ ((hE.sm (by omega)).kp hR.2.2.1) ((hE.sm (by omega)).bs hR.2.2.2.1), cst_w hE hR.2.1.2 (by omega) hE.phy hc, hE.c⟩
    show RX _ 0 (runA (S.1 ++ [(nI 9, a, (nI 0), (lN 0))])) _
    rw [runA_snoc, actF_v (by omega)]
    exact hX9
  · change PP mX6_twice 13 _ [Value.int (whyA (runA (sH S)) (sH S).length 9 a (nI 0)), Value.ref (ad10 (0, 0, 0))] _ _
    obtain ⟨k, hk, ek⟩ := whyA_k hw
    rw [ek]
    refine ps_callVi dX6_twice_13 lk_X6_53 (by exact hr9) (by rfl) (by rfl) (by rfl) (c_settled_no hr9 hk.1) (by rfl) (by exact Nat.le_of_ble_eq_true rfl) (by decide) (by decide) (by exact Nat.le_of_ble_eq_true rfl) (q := 16) rfl (fun r2 g2 h2 => ?_)
    obtain ⟨rfl, rfl⟩ := h2
    refine pp_iret dX6_twice_16 rfl rfl (fun G hG => ⟨_, _, hG, ?_⟩)
    unfold spAct
    rw [cIf_f hw, ek, neg_cl hk.1]
    have hR9 : RC g10 S := RC_w (S' := S) hR hE rfl ⟨hR.2.1.1, hX9⟩ ((hE.sm (by omega)).kp hR.2.2.1) ((hE.sm (by omega)).bs hR.2.2.2.1)
    exact ⟨rfl, RC_rf hR9 hk.1, keG_x.cst (cst_w hE hR.2.1.2 (by omega) hE.phy hc), hE.c.tr (keG_x.c (fun n q => by unfold smS at q; omega))⟩
set_option maxRecDepth 20000 in
set_option maxHeartbeats 4000000 in
theorem x_cut {sz : Nat} {ad : Nm → Nat} {g : Sg} {S : CS} {a b : Int32} (hR : RC g S) (hc : Cst sz g) : PP mX6_cut 0 (ent mX6_cut [.ref (ad (0, 0, 0)), .int a, .int b]) [] (Rel ad g) (CQ sz ad g (spAct 10 a b (lN 0) S)) := by
  have hr := hR.1
  have hX := hR.2.1.2
  have hW := hX.1.1
  show PP mX6_cut 0 [some (.ref (ad (0, 0, 0))), some (.int a), some (.int b)] [] (Rel ad g) _
  refine pp_aload_n dX6_cut_0 rfl isRf_r (q := 1) rfl ?_
  refine pp_aload_n dX6_cut_1 rfl isRf_r (q := 2) rfl ?_
  refine ps_get dX6_cut_2 fl_X6_10 hr rfl rfl (q := 5) rfl ?_
  refine pp_bipush dX6_cut_5 cb_10 (q := 7) rfl ?_
  refine pp_iload_n dX6_cut_7 rfl (q := 8) rfl ?_
  refine pp_iload_n dX6_cut_8 rfl (q := 9) rfl ?_
  refine pp_lconst (v := lN 0) dX6_cut_9 rfl (q := 10) rfl ?_
  refine ps_callVq dX6_cut_10 lk_X6_49 (by exact hW) (by rfl) (by rfl) (by rfl) (c_perf10 hX hR.i.x) (by rfl) (by exact Nat.le_of_ble_eq_true rfl) (by decide) (by decide) (by exact Nat.le_of_ble_eq_true rfl) (q := 13) rfl (fun v10 ad10 g10 h10 => ?_)
  skip
  obtain ⟨hE, h9⟩ := h10
  have hr9 := hE.1 _ hr
  rw [← hE.2.1 (0, 0, 0) hr (by show 0 ≠ 21; omega)]
  rcases h9 with ⟨hw, rfl, hX9⟩ | ⟨hw, rfl, hX9⟩
  · change PP mX6_cut 13 _ [Value.int (stA (runA (sH S)) 10 a b (lN 0)).2, Value.ref (ad10 (0, 0, 0))] _ _
    refine ps_callVi dX6_cut_13 lk_X6_53 (by exact hr9) (by rfl) (by rfl) (by rfl) (c_settled hr9 (stA_ge hR.i (by have := okH_len hR.2.1.1; omega) ⟨by omega, by omega⟩ hw)) (by rfl) (by exact Nat.le_of_ble_eq_true rfl) (by decide) (by decide) (by exact Nat.le_of_ble_eq_true rfl) (q := 16) rfl (fun r2 g2 h2 => ?_)
    obtain ⟨rfl, rfl⟩ := h2
    refine pp_iret dX6_cut_16 rfl rfl (fun G hG => ⟨_, _, hG, ?_⟩)
    unfold spAct
    rw [cIf_t hw]
    refine ⟨rfl, RC_w (S' := (S.1 ++ [(nI 10, a, b, (lN 0))], S.2)) hR hE rfl ⟨okH_snoc hR.2.1.1 ⟨by omega, by omega⟩ hw, ?_⟩ ((hE.sm (by omega)).kp hR.2.2.1) ((hE.sm (by omega)).bs hR.2.2.2.1), cst_w hE hR.2.1.2 (by omega) hE.phy hc, hE.c⟩
    show RX _ 0 (runA (S.1 ++ [(nI 10, a, b, (lN 0))])) _
    rw [runA_snoc, actF_v (by omega)]
    exact hX9
  · change PP mX6_cut 13 _ [Value.int (whyA (runA (sH S)) (sH S).length 10 a b), Value.ref (ad10 (0, 0, 0))] _ _
    obtain ⟨k, hk, ek⟩ := whyA_k hw
    rw [ek]
    refine ps_callVi dX6_cut_13 lk_X6_53 (by exact hr9) (by rfl) (by rfl) (by rfl) (c_settled_no hr9 hk.1) (by rfl) (by exact Nat.le_of_ble_eq_true rfl) (by decide) (by decide) (by exact Nat.le_of_ble_eq_true rfl) (q := 16) rfl (fun r2 g2 h2 => ?_)
    obtain ⟨rfl, rfl⟩ := h2
    refine pp_iret dX6_cut_16 rfl rfl (fun G hG => ⟨_, _, hG, ?_⟩)
    unfold spAct
    rw [cIf_f hw, ek, neg_cl hk.1]
    have hR9 : RC g10 S := RC_w (S' := S) hR hE rfl ⟨hR.2.1.1, hX9⟩ ((hE.sm (by omega)).kp hR.2.2.1) ((hE.sm (by omega)).bs hR.2.2.2.1)
    exact ⟨rfl, RC_rf hR9 hk.1, keG_x.cst (cst_w hE hR.2.1.2 (by omega) hE.phy hc), hE.c.tr (keG_x.c (fun n q => by unfold smS at q; omega))⟩
set_option maxRecDepth 20000 in
set_option maxHeartbeats 4000000 in
theorem x_heal {sz : Nat} {ad : Nm → Nat} {g : Sg} {S : CS} {a b : Int32} (hR : RC g S) (hc : Cst sz g) : PP mX6_heal 0 (ent mX6_heal [.ref (ad (0, 0, 0)), .int a, .int b]) [] (Rel ad g) (CQ sz ad g (spAct 11 a b (lN 0) S)) := by
  have hr := hR.1
  have hX := hR.2.1.2
  have hW := hX.1.1
  show PP mX6_heal 0 [some (.ref (ad (0, 0, 0))), some (.int a), some (.int b)] [] (Rel ad g) _
  refine pp_aload_n dX6_heal_0 rfl isRf_r (q := 1) rfl ?_
  refine pp_aload_n dX6_heal_1 rfl isRf_r (q := 2) rfl ?_
  refine ps_get dX6_heal_2 fl_X6_10 hr rfl rfl (q := 5) rfl ?_
  refine pp_bipush dX6_heal_5 cb_11 (q := 7) rfl ?_
  refine pp_iload_n dX6_heal_7 rfl (q := 8) rfl ?_
  refine pp_iload_n dX6_heal_8 rfl (q := 9) rfl ?_
  refine pp_lconst (v := lN 0) dX6_heal_9 rfl (q := 10) rfl ?_
  refine ps_callVq dX6_heal_10 lk_X6_49 (by exact hW) (by rfl) (by rfl) (by rfl) (c_perf11 hX hR.i.x) (by rfl) (by exact Nat.le_of_ble_eq_true rfl) (by decide) (by decide) (by exact Nat.le_of_ble_eq_true rfl) (q := 13) rfl (fun v10 ad10 g10 h10 => ?_)
  skip
  obtain ⟨hE, h9⟩ := h10
  have hr9 := hE.1 _ hr
  rw [← hE.2.1 (0, 0, 0) hr (by show 0 ≠ 21; omega)]
  rcases h9 with ⟨hw, rfl, hX9⟩ | ⟨hw, rfl, hX9⟩
  · change PP mX6_heal 13 _ [Value.int (stA (runA (sH S)) 11 a b (lN 0)).2, Value.ref (ad10 (0, 0, 0))] _ _
    refine ps_callVi dX6_heal_13 lk_X6_53 (by exact hr9) (by rfl) (by rfl) (by rfl) (c_settled hr9 (stA_ge hR.i (by have := okH_len hR.2.1.1; omega) ⟨by omega, by omega⟩ hw)) (by rfl) (by exact Nat.le_of_ble_eq_true rfl) (by decide) (by decide) (by exact Nat.le_of_ble_eq_true rfl) (q := 16) rfl (fun r2 g2 h2 => ?_)
    obtain ⟨rfl, rfl⟩ := h2
    refine pp_iret dX6_heal_16 rfl rfl (fun G hG => ⟨_, _, hG, ?_⟩)
    unfold spAct
    rw [cIf_t hw]
    refine ⟨rfl, RC_w (S' := (S.1 ++ [(nI 11, a, b, (lN 0))], S.2)) hR hE rfl ⟨okH_snoc hR.2.1.1 ⟨by omega, by omega⟩ hw, ?_⟩ ((hE.sm (by omega)).kp hR.2.2.1) ((hE.sm (by omega)).bs hR.2.2.2.1), cst_w hE hR.2.1.2 (by omega) hE.phy hc, hE.c⟩
    show RX _ 0 (runA (S.1 ++ [(nI 11, a, b, (lN 0))])) _
    rw [runA_snoc, actF_v (by omega)]
    exact hX9
  · change PP mX6_heal 13 _ [Value.int (whyA (runA (sH S)) (sH S).length 11 a b), Value.ref (ad10 (0, 0, 0))] _ _
    obtain ⟨k, hk, ek⟩ := whyA_k hw
    rw [ek]
    refine ps_callVi dX6_heal_13 lk_X6_53 (by exact hr9) (by rfl) (by rfl) (by rfl) (c_settled_no hr9 hk.1) (by rfl) (by exact Nat.le_of_ble_eq_true rfl) (by decide) (by decide) (by exact Nat.le_of_ble_eq_true rfl) (q := 16) rfl (fun r2 g2 h2 => ?_)
    obtain ⟨rfl, rfl⟩ := h2
    refine pp_iret dX6_heal_16 rfl rfl (fun G hG => ⟨_, _, hG, ?_⟩)
    unfold spAct
    rw [cIf_f hw, ek, neg_cl hk.1]
    have hR9 : RC g10 S := RC_w (S' := S) hR hE rfl ⟨hR.2.1.1, hX9⟩ ((hE.sm (by omega)).kp hR.2.2.1) ((hE.sm (by omega)).bs hR.2.2.2.1)
    exact ⟨rfl, RC_rf hR9 hk.1, keG_x.cst (cst_w hE hR.2.1.2 (by omega) hE.phy hc), hE.c.tr (keG_x.c (fun n q => by unfold smS at q; omega))⟩
