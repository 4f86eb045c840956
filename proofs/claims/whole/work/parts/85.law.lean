/-! the law: both sides, call by call -/
theorem RR_c {ad ad' : Nm → Nat} {g g' : Sg} {S : CS} (hR : RR g S) (h : EqC ad g ad' g') : RR g' S := by
  obtain ⟨⟨r0, r1⟩, r2, r3, r4, ⟨r5, r6, r7⟩, r8⟩ := hR
  have e : ∀ k, 40 ≤ k → gI g' (k, 0, 0) = gI g (k, 0, 0) ∧ gA g' (k, 0, 0) = gA g (k, 0, 0) ∧ gB g' (k, 0, 0) = gB g (k, 0, 0) := fun k hk => ⟨(h.2.2 (k, 0, 0) hk).1, (h.2.2 (k, 0, 0) hk).2.2.1, (h.2.2 (k, 0, 0) hk).2.2.2.1⟩
  refine ⟨⟨h.1 _ r0, ?_⟩, ?_, fun k hk => ?_, ?_, ?_, fun i hi => ?_⟩
  · rw [(e 41 (by omega)).2.1, (e 43 (by omega)).2.2]; exact r1
  · unfold RK at r2 ⊢
    rw [(e 40 (by omega)).1]
    revert r2
    cases sK S with
    | none => intro r2; exact r2
    | some K => intro r2; exact ⟨r2.1, by rw [(e 42 (by omega)).2.1, (e 44 (by omega)).2.2]; exact r2.2⟩
  · rw [(e 47 (by omega)).2.1]; exact r3 k hk
  · rw [(e 40 (by omega)).1]; exact r4
  · rw [(e 40 (by omega)).1, (e 46 (by omega)).2.1]; exact ⟨r5, r6, r7⟩
  · rw [(e 45 (by omega)).2.1]; exact r8 i hi
def LwS (L : Nat) (xs : Nat → Int32) (g : Sg) : Prop := al g (50, 0, 0) ∧ gN g (50, 0, 0) = L ∧ gA g (50, 0, 0) = xs
def LwI (sz L : Nat) (xs : Nat → Int32) (g : Sg) (S : CS) : Prop := RC g S ∧ Cst sz g ∧ RR g S ∧ LwS L xs g
theorem LwS_sc {L : Nat} {xs : Nat → Int32} {ad : Nm → Nat} {g : Sg} (h : LwS L xs g) : cell ad g (50, 0, 0) = .inl (9, L, .inl xs) := by
  obtain ⟨_, rfl, rfl⟩ := h
  rfl
theorem LwS_c {L : Nat} {xs : Nat → Int32} {ad ad' : Nm → Nat} {g g' : Sg} (h : LwS L xs g) (hE : EqC ad g ad' g') : LwS L xs g' := by
  obtain ⟨h1, h2, h3⟩ := h
  have e := hE.2.2 (50, 0, 0) (by decide)
  exact ⟨hE.1 _ h1, e.2.2.2.2.1.trans h2, e.2.2.1.trans h3⟩
theorem LwS_x {L : Nat} {xs : Nat → Int32} {g g' : Sg} (h : LwS L xs g) (hE : EqX mdS g g') : LwS L xs g' := by
  obtain ⟨h1, h2, h3⟩ := h
  have e := hE.1 (50, 0, 0) (fun q => by unfold mdS at q; dsimp only at q; omega)
  exact ⟨hE.al' h1, by rw [hE.2.1]; exact h2, e.2.2.1.trans h3⟩
theorem LwI_x {sz L : Nat} {xs : Nat → Int32} {g g' : Sg} {S : CS} (hR : RC g S) (hc : Cst sz g) (hs : LwS L xs g) (hm : RR g' S) (hX : EqX mdS g g') : LwI sz L xs g' S := ⟨hX.rc (fun n q => by unfold mdS at q; omega) hR, hX.cst hc, hm, LwS_x hs hX⟩
theorem lw_gt {L i : Nat} (hL : L ≤ 2560) (hi : i ≤ 2570) : (nI L - nI 5 < nI i) ↔ L < i + 5 := by
  rw [Int32.lt_iff_toInt_lt, nI_subT (by omega) (by omega), nI_toInt (by omega)]
  omega
