/-! the law: both sides, call by call -/
theorem RR_c {ad ad' : Nm → Nat} {g g' : Sg} {S : CS} (hR : RR g S) (h : EqC ad g ad' g') : RR g' S := by
  obtain ⟨⟨r0, r1⟩, r2, r3, r4, ⟨r5, r6, r7⟩, r8⟩ := hR
  have e : ∀ k, 40 ≤ k → gI g' (k, 0, 0) = gI g (k, 0, 0) ∧ gA g' (k, 0, 0) = gA g (k, 0, 0) ∧ gB g' (k, 0, 0) = gB g (k, 0, 0) := fun k hk => ⟨(h.2.2 (k, 0, 0) hk).1, (h.2.2 (k, 0, 0) hk).2.2.1, (h.2.2 (k, 0, 0) hk).2.2.2.1⟩
  refine ⟨⟨h.1 _ r0, ?_⟩, ?_, fun k hk => ?_, ?_, ?_, fun i hi => ?_⟩
  · rw [(e 41 (by omega)).2.1, (e 43 (by omega)).2.2]; exact r1
  · unfold RK at r2 ⊢
    rw [(e 40 (by omega)).1]
    revert r2
    cases sK S with
    | none => intro r2; exact r2
    | some K => intro r2; exact ⟨r2.1, by rw [(e 42 (by omega)).2.1, (e 44 (by omega)).2.2]; exact r2.2⟩
  · rw [(e 47 (by omega)).2.1]; exact r3 k hk
  · rw [(e 40 (by omega)).1]; exact r4
  · rw [(e 40 (by omega)).1, (e 46 (by omega)).2.1]; exact ⟨r5, r6, r7⟩
  · rw [(e 45 (by omega)).2.1]; exact r8 i hi
def LI (sz b L : Nat) (xs : Nat → Int32) (ad : Nm → Nat) (g : Sg) (S : CS) : Prop := RC g S ∧ Cst sz g ∧ RR g S ∧ (al g (50, 0, 0) ∧ gN g (50, 0, 0) = L ∧ gA g (50, 0, 0) = xs ∧ ad (50, 0, 0) = b)
