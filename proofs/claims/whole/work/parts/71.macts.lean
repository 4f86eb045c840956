/-! the reference holds what the roll holds -/
def rLt (v : Int32) : Int32 := if v = -7 then nI 0 else v
def RK (g : Sg) (K : Option (List Act)) : Prop := match K with
  | none => gI g (40, 0, 0) 4 = nI 0
  | some K => gI g (40, 0, 0) 4 = nI 1 ∧ RF (gA g (42, 0, 0)) (gB g (44, 0, 0)) (runA K) K.length False
def RR (g : Sg) (S : CS) : Prop := RS g (runA (sH S)) (sH S).length False ∧ RK g (sK S) ∧ (∀ k, k < 11 → gA g (47, 0, 0) k = sC S k) ∧ (gI g (40, 0, 0) 10 = rLt (sLt S) ∧ ¬ sLt S = 0) ∧ (gI g (40, 0, 0) 9 = nI (sY S).length ∧ (sY S).length ≤ 1200 ∧ ∀ i v, (sY S)[i]? = some v → gA g (46, 0, 0) i = v) ∧ ∀ i, i < 16 → gA g (45, 0, 0) i = sT S i
def mdS (n : Nm) : Prop := 40 ≤ n.1 ∧ n.1 ≤ 49
theorem EqM.d {g g' : Sg} (h : EqM g g') : EqX mdS g g' := h.1.mono (fun n q => by unfold msS at q; unfold mdS; omega)
theorem RR_m {g g' : Sg} {S S' : CS} (hR : RR g S) (h : EqM g g') (e : S'.2 = S.2) (hS : RS g' (runA (sH S')) (sH S').length False) : RR g' S' := by
  obtain ⟨r1, r2, r3, r4, ⟨r5, r6, r7⟩, r8⟩ := hR
  have q : ∀ k, k = 42 ∨ k = 44 ∨ k = 45 ∨ k = 46 ∨ k = 47 → ¬ msS (k, 0, 0) := fun k hk q => by unfold msS at q; dsimp only at q; omega
  have eK : sK S' = sK S := congrArg (fun z => z.1) e
  have eC : sC S' = sC S := congrArg (fun z => z.2.1) e
  have eL : sLt S' = sLt S := congrArg (fun z => z.2.2.1) e
  have eY : sY S' = sY S := congrArg (fun z => z.2.2.2.1) e
  have eT : sT S' = sT S := congrArg (fun z => z.2.2.2.2) e
  refine ⟨hS, ?_, fun k hk => ?_, ?_, ?_, fun i hi => ?_⟩
  · rw [eK]
    unfold RK at r2 ⊢
    revert r2
    cases sK S with
    | none => intro r2; exact (h.2 4 (by omega) (by omega)).trans r2
    | some K => intro r2; exact ⟨(h.2 4 (by omega) (by omega)).trans r2.1, by rw [(h.1.1 _ (q 42 (by omega))).2.2.1, (h.1.1 _ (q 44 (by omega))).2.2.2]; exact r2.2⟩
  · rw [(h.1.1 _ (q 47 (by omega))).2.2.1, eC]; exact r3 k hk
  · rw [h.2 10 (by omega) (by omega), eL]; exact r4
  · rw [h.2 9 (by omega) (by omega), eY]
    exact ⟨r5, r6, fun i v hv => by rw [(h.1.1 _ (q 46 (by omega))).2.2.1]; exact r7 i v hv⟩
  · rw [(h.1.1 _ (q 45 (by omega))).2.2.1, eT]; exact r8 i hi
theorem RR_no {g : Sg} {S : CS} {k : Nat} (hR : RR g S) (hk : isW k ∧ k ≠ 7) : RR (noG g k) (rfS S k).2 ∧ EqX mdS g (noG g k) := by
  obtain ⟨r1, r2, r3, r4, r5, r8⟩ := hR
  have hI : ∀ j, j ≠ 10 → gI (noG g k) (40, 0, 0) j = gI g (40, 0, 0) j := fun j hj => by
    unfold noG
    rw [gI_sI, if_neg (fun q => hj q.2)]
    rfl
  refine ⟨⟨r1, ?_, fun j hj => ?_, ?_, ⟨(hI 9 (by omega)).trans r5.1, r5.2⟩, r8⟩, (EqX.rf.sA ⟨by show 40 ≤ 47; omega, by show 47 ≤ 49; omega⟩).sI ⟨by show 40 ≤ 40; omega, by show 40 ≤ 49; omega⟩⟩
  · show RK (noG g k) (sK S)
    unfold RK at r2 ⊢
    revert r2
    cases sK S with
    | none => intro r2; exact (hI 4 (by omega)).trans r2
    | some K => intro r2; exact ⟨(hI 4 (by omega)).trans r2.1, r2.2⟩
  · show upd (gA g (47, 0, 0)) k (gA g (47, 0, 0) k + nI 1) j = upd (sC S) k (sC S k + nI 1) j
    unfold upd
    split
    · rw [r3 k (by have := hk.1.2; omega)]
    · exact r3 j hj
  · show gI (noG g k) (40, 0, 0) 10 = rLt (- nI k) ∧ ¬ - nI k = 0
    refine ⟨?_, ngk_ne hk.1⟩
    unfold noG
    rw [gI_sI, if_pos ⟨rfl, rfl⟩]
    unfold rLt
    rw [if_neg]
    have e : ∀ k : Fin 11, k.val < 2 ∨ k.val = 7 ∨ ¬ - nI k.val = -7 := by decide
    rcases e ⟨k, by have := hk.1.2; omega⟩ with q | q | q
    · exact absurd (show k < 2 from q) (by have := hk.1.1; omega)
    · exact absurd (show k = 7 from q) hk.2
    · exact q
abbrev MdQ (g : Sg) (R : Int32 × CS) : Option Value → Sg → Prop := Ri (fun v g' => v = R.1 ∧ RR g' R.2 ∧ EqX mdS g g')
theorem mq_no {g : Sg} {S : CS} {k : Nat} {R : Int32 × CS} (hR : RR g S) (hk : isW k ∧ k ≠ 7) (e : R = rfS S k) : - nI k = R.1 ∧ RR (noG g k) R.2 ∧ EqX mdS g (noG g k) := by
  subst e
  exact ⟨rfl, (RR_no hR hk).1, (RR_no hR hk).2⟩
theorem mq_ok {g g' : Sg} {S : CS} {v : Nat} {a b : Int32} {sd : Int64} (hR : RR g S) (hv : v ≤ 11) (hw : whyA (runA (sH S)) (sH S).length v a b = nI 0) (hE : EqM g g') (hS : RS g' (stA (runA (sH S)) v a b sd).1 ((sH S).length + 1) False) : (stA (runA (sH S)) v a b sd).2 = (spAct v a b sd S).1 ∧ RR g' (spAct v a b sd S).2 ∧ EqX mdS g g' := by
  unfold spAct
  rw [cIf_t hw]
  refine ⟨rfl, RR_m hR hE rfl ?_, hE.d⟩
  show RS g' (runA (S.1 ++ [(nI v, a, b, sd)])) (S.1 ++ [(nI v, a, b, sd)]).length False
  rw [runA_snoc, actF_v hv, List.length_append]
  exact hS
theorem sp_no {S : CS} {v k : Nat} {a b : Int32} {sd : Int64} (hw : whyA (runA (sH S)) (sH S).length v a b = - nI k) (hk : isW k) : spAct v a b sd S = rfS S k := by
  unfold spAct
  rw [hw, cIf_f (show ¬ - nI k = nI 0 from ngk_ne hk), neg_cl hk]
theorem wy3 {A : AW} {n v : Nat} {a b : Int32} (h : beyP A v a b) : whyA A n v a b = - nI 3 := by unfold whyA; rw [cIf_t h]; decide
theorem wy2 {A : AW} {n v : Nat} {a b : Int32} (h1 : ¬ beyP A v a b) (h : misP A v a b) : whyA A n v a b = - nI 2 := by unfold whyA; rw [cIf_f h1, cIf_t h]; decide
theorem wy8 {A : AW} {n v : Nat} {a b : Int32} (h1 : ¬ beyP A v a b) (h2 : ¬ misP A v a b) (h : dwnP A v a) : whyA A n v a b = - nI 8 := by unfold whyA; rw [cIf_f h1, cIf_f h2, cIf_t h]; decide
theorem wy9 {A : AW} {n v : Nat} {a b : Int32} (h1 : ¬ beyP A v a b) (h2 : ¬ misP A v a b) (h3 : ¬ dwnP A v a) (h : natP A v a b) : whyA A n v a b = - nI 9 := by unfold whyA; rw [cIf_f h1, cIf_f h2, cIf_f h3, cIf_t h]; decide
theorem wyA {A : AW} {n v : Nat} {a b : Int32} (h1 : ¬ beyP A v a b) (h2 : ¬ misP A v a b) (h3 : ¬ dwnP A v a) (h4 : ¬ natP A v a b) (h : ¬ ((bL (aB A) ≤ 1196 ∧ bP (aB A) ≤ 19800) ∧ n < 4000)) : whyA A n v a b = - nI 10 := by unfold whyA; rw [cIf_f h1, cIf_f h2, cIf_f h3, cIf_f h4, cIf_f h]; decide
theorem wy0 {A : AW} {n v : Nat} {a b : Int32} (h1 : ¬ beyP A v a b) (h2 : ¬ misP A v a b) (h3 : ¬ dwnP A v a) (h4 : ¬ natP A v a b) (h : (bL (aB A) ≤ 1196 ∧ bP (aB A) ≤ 19800) ∧ n < 4000) : whyA A n v a b = nI 0 := by unfold whyA; rw [cIf_f h1, cIf_f h2, cIf_f h3, cIf_f h4, cIf_t h]
theorem nnM {m : Nat} (hm : m < 64) : ¬ ¬ isM (nI m) := fun q => q ⟨m, hm, rfl⟩
theorem nnD {A : AW} {m : Nat} (hm : m < 64) (h : mdA A m) : ¬ ¬ mdX A (nI m) := fun q => q ⟨m, hm, rfl, h⟩
theorem nnU {A : AW} {m : Nat} (hm : m < 64) (h : upA A m) : ¬ ¬ upX A (nI m) := fun q => q ⟨m, hm, rfl, h⟩
/-- how a member stands, in the array -/
theorem RF.st {f : Nat → Int32} {sd : Nat → Int64} {A : AW} {N n m : Nat} {o : Prop} (h : RF f sd A n o) (hI : INV N N A) (hm : m < 64) : (¬ f (7 * m) = 0 ↔ mdA A m) ∧ (f (7 * m) = nI 1 ↔ upA A m) := by
  by_cases hd : mdA A m
  · obtain ⟨st, hs, es⟩ := (hI.m hm hd).1
    have e := (h.o hm hd).1.1
    rw [es, nI_add] at e
    rw [e]
    refine ⟨⟨fun _ => hd, fun _ q => ?_⟩, ⟨fun q => ⟨hd, ?_⟩, fun q => ?_⟩⟩
    · have := eqT (b := 0) q (by omega) (by omega)
      omega
    · have := eqT q (by omega) (by omega)
      rw [es]
      congr 1
      omega
    · have := eqT (es.symm.trans q.2) (by omega) (by omega)
      rw [this]
  · have e := ((h.1 m hm).2 hd).1
    rw [e]
    exact ⟨⟨fun q => absurd rfl q, fun q => absurd q hd⟩, ⟨fun q => absurd q (by decide), fun q => absurd q.1 hd⟩⟩
theorem m_made {ad : Nm → Nat} {g : Sg} {A : AW} {N n : Nat} {m : Nat} (h : RS g A n False) (hI : INV N N A) (hmb : m < 64) : PS mX7_isMade 0 (ent mX7_isMade [.ref (ad (40, 0, 0)), .int (nI m)]) [] ad g (Ri (fun v g' => isB v (mdA A m) ∧ g' = g)) := by
  refine (m_isMade h.1 hmb).weak (fun v G hG => ?_)
  obtain ⟨g', h1, r, h2, h3, h4⟩ := hG
  refine ⟨g', h1, r, h2, ?_, h4⟩
  unfold isB at h3 ⊢
  rw [(h.2.st hI hmb).1] at h3
  exact h3
theorem m_full {ad : Nm → Nat} {g : Sg} {A : AW} {N n : Nat} (h : RS g A n False) (hn : n < 2 ^ 31) : PS mX7_isFull 0 (ent mX7_isFull [.ref (ad (40, 0, 0))]) [] ad g (Ri (fun v g' => isB v (¬ ((bL (aB A) ≤ 1196 ∧ bP (aB A) ≤ 19800) ∧ n < 4000)) ∧ g' = g)) := m_isFull h.1 h.2.2.2.1.2.1 h.2.2.2.1.2.2.1 h.2.2.2.2.2 (by have := h.2.2.2.1.1; omega)
set_option maxRecDepth 20000 in
set_option maxHeartbeats 4000000 in
theorem m_why1 {ad : Nm → Nat} {g : Sg} {A : AW} {N n : Nat} {a b : Int32} (h : RS g A n False) (hI : INV N N A) (hn : n < 2 ^ 31) : PS mX7_why 0 (ent mX7_why [.ref (ad (40, 0, 0)), .int a, .int (nI 1)]) [] ad g (Ri (fun v g' => v = whyA A n 3 a b ∧ g' = g)) := by
  show PP mX7_why 0 [some (.ref (ad (40, 0, 0))), some (.int a), some (.int (nI 1))] [] (Rel ad g) _
  refine pp_iload_n dX7_why_0 rfl (q := 1) rfl ?_
  refine ps_callSi dX7_why_1 lk_X7_121 (by rfl) m_isMem (by rfl) (by exact Nat.le_of_ble_eq_true rfl) (by decide) (by decide) (by exact Nat.le_of_ble_eq_true rfl) (q := 4) rfl (fun r1 g1 h1 => ?_)
  obtain ⟨hb1, rfl⟩ := And.intro h1.1 h1.2.symm
  refine pp_if_ne (tgt := 10) dX7_why_4 (by decide) (q := 7) rfl (fun c4 => ?_) (fun c4 => ?_)
  · have hM := isB_t hb1 c4
    obtain ⟨m, hm, rfl⟩ := hM
    refine pp_aload_n dX7_why_10 rfl isRf_r (q := 11) rfl ?_
    refine pp_iload_n dX7_why_11 rfl (q := 12) rfl ?_
    refine ps_callVi dX7_why_12 lk_X7_125 (by exact h.1) (by rfl) (by rfl) (by rfl) (m_made h hI hm) (by rfl) (by exact Nat.le_of_ble_eq_true rfl) (by decide) (by decide) (by exact Nat.le_of_ble_eq_true rfl) (q := 15) rfl (fun r12 g12 h12 => ?_)
    obtain ⟨hb12, rfl⟩ := And.intro h12.1 h12.2.symm
    refine pp_if_ne (tgt := 21) dX7_why_15 (by decide) (q := 18) rfl (fun c15 => ?_) (fun c15 => ?_)
    · have hd := isB_t hb12 c15
      refine pp_iload_n dX7_why_21 rfl (q := 22) rfl ?_
      refine pp_iconst dX7_why_22 ci_1 (q := 23) rfl ?_
      refine pp_icmp_ne (tgt := 39) dX7_why_23 (by decide) (q := 26) rfl (fun c23 => absurd rfl c23) (fun c23 => ?_)
      refine pp_aload_n dX7_why_26 rfl isRf_r (q := 27) rfl ?_
      refine pp_iload_n dX7_why_27 rfl (q := 28) rfl ?_
      refine pp_iconst dX7_why_28 ci_0 (q := 29) rfl ?_
      refine ps_callVi dX7_why_29 lk_X7_48 (by exact h.1) (by rfl) (by rfl) (by rfl) (m_of h.1 hm (by omega)) (by rfl) (by exact Nat.le_of_ble_eq_true rfl) (by decide) (by decide) (by exact Nat.le_of_ble_eq_true rfl) (q := 32) rfl (fun r29 g29 h29 => ?_)
      obtain ⟨rfl, rfl⟩ := And.intro h29.1.symm h29.2.symm
      rw [Nat.add_zero]
      refine pp_iconst dX7_why_32 ci_1 (q := 33) rfl ?_
      refine pp_icmp_eq (tgt := 39) dX7_why_33 (by decide) (q := 36) rfl (fun c33 => ?_) (fun c33 => ?_)
      · have hu := (h.2.st hI hm).2.mp c33
        refine pp_iload_n dX7_why_39 rfl (q := 40) rfl ?_
        refine pp_iconst dX7_why_40 ci_2 (q := 41) rfl ?_
        refine pp_icmp_ne (tgt := 57) dX7_why_41 (by decide) (q := 44) rfl (fun c41 => ?_) (fun c41 => absurd c41 (by decide))
        refine pp_aload_n dX7_why_57 rfl isRf_r (q := 58) rfl ?_
        refine ps_callVi dX7_why_58 lk_X7_128 (by exact h.1) (by rfl) (by rfl) (by rfl) (m_full (N := N) h hn) (by rfl) (by exact Nat.le_of_ble_eq_true rfl) (by decide) (by decide) (by exact Nat.le_of_ble_eq_true rfl) (q := 61) rfl (fun r58 g58 h58 => ?_)
        obtain ⟨hb58, rfl⟩ := And.intro h58.1 h58.2.symm
        refine pp_if_eq (tgt := 69) dX7_why_61 (by decide) (q := 64) rfl (fun c61 => ?_) (fun c61 => ?_)
        · have hf := Classical.not_not.mp (fun q => isB_f hb58 c61 q)
          refine pp_iconst dX7_why_69 ci_0 (q := 70) rfl ?_
          refine ri_ret dX7_why_70 rfl rfl ?_
          first | exact ⟨(wy0 (v := 3) (A := A) (n := n) (a := nI m) (b := b) (show ¬ beyP A 3 (nI m) b from nnM hm) (show ¬ misP A 3 (nI m) b from nnD hm hd) (show ¬ dwnP A 3 (nI m) from nnU hm hu) (show ¬ natP A 3 (nI m) b from fun q => q) hf).symm, rfl⟩ | exact ⟨(wyA (v := 3) (A := A) (n := n) (a := nI m) (b := b) (show ¬ beyP A 3 (nI m) b from nnM hm) (show ¬ misP A 3 (nI m) b from nnD hm hd) (show ¬ dwnP A 3 (nI m) from nnU hm hu) (show ¬ natP A 3 (nI m) b from fun q => q) hf).symm, rfl⟩
        · have hf := isB_t hb58 c61
          refine pp_bipush dX7_why_64 cb_m10 (q := 66) rfl ?_
          refine pp_goto (tgt := 70) dX7_why_66 (by decide) ?_
          refine ri_ret dX7_why_70 rfl rfl ?_
          first | exact ⟨(wy0 (v := 3) (A := A) (n := n) (a := nI m) (b := b) (show ¬ beyP A 3 (nI m) b from nnM hm) (show ¬ misP A 3 (nI m) b from nnD hm hd) (show ¬ dwnP A 3 (nI m) from nnU hm hu) (show ¬ natP A 3 (nI m) b from fun q => q) hf).symm, rfl⟩ | exact ⟨(wyA (v := 3) (A := A) (n := n) (a := nI m) (b := b) (show ¬ beyP A 3 (nI m) b from nnM hm) (show ¬ misP A 3 (nI m) b from nnD hm hd) (show ¬ dwnP A 3 (nI m) from nnU hm hu) (show ¬ natP A 3 (nI m) b from fun q => q) hf).symm, rfl⟩
      · have hu : ¬ upA A m := fun q => c33 ((h.2.st hI hm).2.mpr q)
        refine pp_bipush dX7_why_36 cb_m8 (q := 38) rfl ?_
        refine ri_ret dX7_why_38 rfl rfl ?_
        exact ⟨(wy8 (v := 3) (A := A) (n := n) (a := nI m) (b := b) (show ¬ beyP A 3 (nI m) b from nnM hm) (show ¬ misP A 3 (nI m) b from nnD hm hd) (show dwnP A 3 (nI m) from fun q => hu (upX_i hm q))).symm, rfl⟩
    · have hd := isB_f hb12 c15
      refine pp_bipush dX7_why_18 cb_m2 (q := 20) rfl ?_
      refine ri_ret dX7_why_20 rfl rfl ?_
      exact ⟨(wy2 (v := 3) (A := A) (n := n) (a := nI m) (b := b) (show ¬ beyP A 3 (nI m) b from nnM hm) (show misP A 3 (nI m) b from fun q => hd (mdX_i hm q))).symm, rfl⟩
  · have hM := isB_f hb1 c4
    refine pp_bipush dX7_why_7 cb_m3 (q := 9) rfl ?_
    refine ri_ret dX7_why_9 rfl rfl ?_
    exact ⟨(wy3 (v := 3) (A := A) (n := n) (a := a) (b := b) (show beyP A 3 a b from hM)).symm, rfl⟩
set_option maxRecDepth 20000 in
set_option maxHeartbeats 4000000 in
theorem m_why2 {ad : Nm → Nat} {g : Sg} {A : AW} {N n : Nat} {a b : Int32} (h : RS g A n False) (hI : INV N N A) (hn : n < 2 ^ 31) : PS mX7_why 0 (ent mX7_why [.ref (ad (40, 0, 0)), .int a, .int (nI 2)]) [] ad g (Ri (fun v g' => v = whyA A n 6 a b ∧ g' = g)) := by
  show PP mX7_why 0 [some (.ref (ad (40, 0, 0))), some (.int a), some (.int (nI 2))] [] (Rel ad g) _
  refine pp_iload_n dX7_why_0 rfl (q := 1) rfl ?_
  refine ps_callSi dX7_why_1 lk_X7_121 (by rfl) m_isMem (by rfl) (by exact Nat.le_of_ble_eq_true rfl) (by decide) (by decide) (by exact Nat.le_of_ble_eq_true rfl) (q := 4) rfl (fun r1 g1 h1 => ?_)
  obtain ⟨hb1, rfl⟩ := And.intro h1.1 h1.2.symm
  refine pp_if_ne (tgt := 10) dX7_why_4 (by decide) (q := 7) rfl (fun c4 => ?_) (fun c4 => ?_)
  · have hM := isB_t hb1 c4
    obtain ⟨m, hm, rfl⟩ := hM
    refine pp_aload_n dX7_why_10 rfl isRf_r (q := 11) rfl ?_
    refine pp_iload_n dX7_why_11 rfl (q := 12) rfl ?_
    refine ps_callVi dX7_why_12 lk_X7_125 (by exact h.1) (by rfl) (by rfl) (by rfl) (m_made h hI hm) (by rfl) (by exact Nat.le_of_ble_eq_true rfl) (by decide) (by decide) (by exact Nat.le_of_ble_eq_true rfl) (q := 15) rfl (fun r12 g12 h12 => ?_)
    obtain ⟨hb12, rfl⟩ := And.intro h12.1 h12.2.symm
    refine pp_if_ne (tgt := 21) dX7_why_15 (by decide) (q := 18) rfl (fun c15 => ?_) (fun c15 => ?_)
    · have hd := isB_t hb12 c15
      refine pp_iload_n dX7_why_21 rfl (q := 22) rfl ?_
      refine pp_iconst dX7_why_22 ci_1 (q := 23) rfl ?_
      refine pp_icmp_ne (tgt := 39) dX7_why_23 (by decide) (q := 26) rfl (fun c23 => ?_) (fun c23 => absurd c23 (by decide))
      refine pp_iload_n dX7_why_39 rfl (q := 40) rfl ?_
      refine pp_iconst dX7_why_40 ci_2 (q := 41) rfl ?_
      refine pp_icmp_ne (tgt := 57) dX7_why_41 (by decide) (q := 44) rfl (fun c41 => absurd rfl c41) (fun c41 => ?_)
      refine pp_aload_n dX7_why_44 rfl isRf_r (q := 45) rfl ?_
      refine pp_iload_n dX7_why_45 rfl (q := 46) rfl ?_
      refine pp_iconst dX7_why_46 ci_0 (q := 47) rfl ?_
      refine ps_callVi dX7_why_47 lk_X7_48 (by exact h.1) (by rfl) (by rfl) (by rfl) (m_of h.1 hm (by omega)) (by rfl) (by exact Nat.le_of_ble_eq_true rfl) (by decide) (by decide) (by exact Nat.le_of_ble_eq_true rfl) (q := 50) rfl (fun r47 g47 h47 => ?_)
      obtain ⟨rfl, rfl⟩ := And.intro h47.1.symm h47.2.symm
      rw [Nat.add_zero]
      refine pp_iconst dX7_why_50 ci_1 (q := 51) rfl ?_
      refine pp_icmp_ne (tgt := 57) dX7_why_51 (by decide) (q := 54) rfl (fun c51 => ?_) (fun c51 => ?_)
      · have hu : ¬ upA A m := fun q => c51 ((h.2.st hI hm).2.mpr q)
        refine pp_aload_n dX7_why_57 rfl isRf_r (q := 58) rfl ?_
        refine ps_callVi dX7_why_58 lk_X7_128 (by exact h.1) (by rfl) (by rfl) (by rfl) (m_full (N := N) h hn) (by rfl) (by exact Nat.le_of_ble_eq_true rfl) (by decide) (by decide) (by exact Nat.le_of_ble_eq_true rfl) (q := 61) rfl (fun r58 g58 h58 => ?_)
        obtain ⟨hb58, rfl⟩ := And.intro h58.1 h58.2.symm
        refine pp_if_eq (tgt := 69) dX7_why_61 (by decide) (q := 64) rfl (fun c61 => ?_) (fun c61 => ?_)
        · have hf := Classical.not_not.mp (fun q => isB_f hb58 c61 q)
          refine pp_iconst dX7_why_69 ci_0 (q := 70) rfl ?_
          refine ri_ret dX7_why_70 rfl rfl ?_
          first | exact ⟨(wy0 (v := 6) (A := A) (n := n) (a := nI m) (b := b) (show ¬ beyP A 6 (nI m) b from nnM hm) (show ¬ misP A 6 (nI m) b from nnD hm hd) (show ¬ dwnP A 6 (nI m) from fun q => q) (show ¬ natP A 6 (nI m) b from fun q => hu (upX_i hm q)) hf).symm, rfl⟩ | exact ⟨(wyA (v := 6) (A := A) (n := n) (a := nI m) (b := b) (show ¬ beyP A 6 (nI m) b from nnM hm) (show ¬ misP A 6 (nI m) b from nnD hm hd) (show ¬ dwnP A 6 (nI m) from fun q => q) (show ¬ natP A 6 (nI m) b from fun q => hu (upX_i hm q)) hf).symm, rfl⟩
        · have hf := isB_t hb58 c61
          refine pp_bipush dX7_why_64 cb_m10 (q := 66) rfl ?_
          refine pp_goto (tgt := 70) dX7_why_66 (by decide) ?_
          refine ri_ret dX7_why_70 rfl rfl ?_
          first | exact ⟨(wy0 (v := 6) (A := A) (n := n) (a := nI m) (b := b) (show ¬ beyP A 6 (nI m) b from nnM hm) (show ¬ misP A 6 (nI m) b from nnD hm hd) (show ¬ dwnP A 6 (nI m) from fun q => q) (show ¬ natP A 6 (nI m) b from fun q => hu (upX_i hm q)) hf).symm, rfl⟩ | exact ⟨(wyA (v := 6) (A := A) (n := n) (a := nI m) (b := b) (show ¬ beyP A 6 (nI m) b from nnM hm) (show ¬ misP A 6 (nI m) b from nnD hm hd) (show ¬ dwnP A 6 (nI m) from fun q => q) (show ¬ natP A 6 (nI m) b from fun q => hu (upX_i hm q)) hf).symm, rfl⟩
      · have hu := (h.2.st hI hm).2.mp c51
        refine pp_bipush dX7_why_54 cb_m9 (q := 56) rfl ?_
        refine ri_ret dX7_why_56 rfl rfl ?_
        exact ⟨(wy9 (v := 6) (A := A) (n := n) (a := nI m) (b := b) (show ¬ beyP A 6 (nI m) b from nnM hm) (show ¬ misP A 6 (nI m) b from nnD hm hd) (show ¬ dwnP A 6 (nI m) from fun q => q) (show natP A 6 (nI m) b from ⟨m, hm, rfl, hu⟩)).symm, rfl⟩
    · have hd := isB_f hb12 c15
      refine pp_bipush dX7_why_18 cb_m2 (q := 20) rfl ?_
      refine ri_ret dX7_why_20 rfl rfl ?_
      exact ⟨(wy2 (v := 6) (A := A) (n := n) (a := nI m) (b := b) (show ¬ beyP A 6 (nI m) b from nnM hm) (show misP A 6 (nI m) b from fun q => hd (mdX_i hm q))).symm, rfl⟩
  · have hM := isB_f hb1 c4
    refine pp_bipush dX7_why_7 cb_m3 (q := 9) rfl ?_
    refine ri_ret dX7_why_9 rfl rfl ?_
    exact ⟨(wy3 (v := 6) (A := A) (n := n) (a := a) (b := b) (show beyP A 6 a b from hM)).symm, rfl⟩
set_option maxRecDepth 20000 in
set_option maxHeartbeats 4000000 in
theorem m_whyL {ad : Nm → Nat} {g : Sg} {A : AW} {n : Nat} {a b : Int32} (h : RS g A n False) (hn : n < 2 ^ 31) : PS mX7_whyLetter 0 (ent mX7_whyLetter [.ref (ad (40, 0, 0)), .int a]) [] ad g (Ri (fun v g' => v = whyA A n 7 a b ∧ g' = g)) := by
  show PP mX7_whyLetter 0 [some (.ref (ad (40, 0, 0))), some (.int a)] [] (Rel ad g) _
  refine pp_aload_n dX7_whyLetter_0 rfl isRf_r (q := 1) rfl ?_
  refine pp_iload_n dX7_whyLetter_1 rfl (q := 2) rfl ?_
  refine ps_callVi dX7_whyLetter_2 lk_X7_147 (by exact h.1) (by rfl) (by rfl) (by rfl) (m_isLetter h.1 h.2.2.2.1.2.1 (by have := h.2.2.2.1.1; omega)) (by rfl) (by exact Nat.le_of_ble_eq_true rfl) (by decide) (by decide) (by exact Nat.le_of_ble_eq_true rfl) (q := 5) rfl (fun r2 g2 h2 => ?_)
  obtain ⟨hb2, rfl⟩ := And.intro h2.1 h2.2.symm
  refine pp_if_ne (tgt := 11) dX7_whyLetter_5 (by decide) (q := 8) rfl (fun c5 => ?_) (fun c5 => ?_)
  · obtain ⟨l, hl, rfl⟩ := isB_t hb2 c5
    refine pp_aload_n dX7_whyLetter_11 rfl isRf_r (q := 12) rfl ?_
    refine pp_iload_n dX7_whyLetter_12 rfl (q := 13) rfl ?_
    refine pp_bipush dX7_whyLetter_13 cb_6 (q := 15) rfl ?_
    refine ps_callVi dX7_whyLetter_15 lk_X7_83 (by exact h.1) (by rfl) (by rfl) (by rfl) (m_lt (c := 6) h hl (by omega)) (by rfl) (by exact Nat.le_of_ble_eq_true rfl) (by decide) (by decide) (by exact Nat.le_of_ble_eq_true rfl) (q := 18) rfl (fun r15 g15 h15 => ?_)
    obtain ⟨rfl, rfl⟩ := And.intro h15.1.symm h15.2.symm
    rw [show bl (aB A) l (lcx 6) = bl (aB A) l 5 from rfl]
    refine pp_if_eq (tgt := 24) dX7_whyLetter_18 (by decide) (q := 21) rfl (fun c18 => ?_) (fun c18 => ?_)
    · refine pp_aload_n dX7_whyLetter_24 rfl isRf_r (q := 25) rfl ?_
      refine ps_callVi dX7_whyLetter_25 lk_X7_128 (by exact h.1) (by rfl) (by rfl) (by rfl) (m_full (N := 0) h hn) (by rfl) (by exact Nat.le_of_ble_eq_true rfl) (by decide) (by decide) (by exact Nat.le_of_ble_eq_true rfl) (q := 28) rfl (fun r25 g25 h25 => ?_)
      obtain ⟨hb25, rfl⟩ := And.intro h25.1 h25.2.symm
      refine pp_if_eq (tgt := 36) dX7_whyLetter_28 (by decide) (q := 31) rfl (fun c28 => ?_) (fun c28 => ?_)
      · have hf := Classical.not_not.mp (fun q => isB_f hb25 c28 q)
        refine pp_iconst dX7_whyLetter_36 ci_0 (q := 37) rfl ?_
        refine ri_ret dX7_whyLetter_37 rfl rfl ?_
        first | exact ⟨(wy0 (v := 7) (A := A) (n := n) (a := nI l) (b := b) (show ¬ beyP A 7 (nI l) b from fun q => q ⟨l, hl, rfl⟩) (show ¬ misP A 7 (nI l) b from fun ⟨l', q1, q2, q3⟩ => q3 (by have e := eqT q2 (by have := h.2.2.2.1.1; omega) (by have := h.2.2.2.1.1; omega); subst e; exact c18)) (show ¬ dwnP A 7 (nI l) from fun q => q) (show ¬ natP A 7 (nI l) b from fun q => q) hf).symm, rfl⟩ | exact ⟨(wyA (v := 7) (A := A) (n := n) (a := nI l) (b := b) (show ¬ beyP A 7 (nI l) b from fun q => q ⟨l, hl, rfl⟩) (show ¬ misP A 7 (nI l) b from fun ⟨l', q1, q2, q3⟩ => q3 (by have e := eqT q2 (by have := h.2.2.2.1.1; omega) (by have := h.2.2.2.1.1; omega); subst e; exact c18)) (show ¬ dwnP A 7 (nI l) from fun q => q) (show ¬ natP A 7 (nI l) b from fun q => q) hf).symm, rfl⟩
      · have hf := isB_t hb25 c28
        refine pp_bipush dX7_whyLetter_31 cb_m10 (q := 33) rfl ?_
        refine pp_goto (tgt := 37) dX7_whyLetter_33 (by decide) ?_
        refine ri_ret dX7_whyLetter_37 rfl rfl ?_
        first | exact ⟨(wy0 (v := 7) (A := A) (n := n) (a := nI l) (b := b) (show ¬ beyP A 7 (nI l) b from fun q => q ⟨l, hl, rfl⟩) (show ¬ misP A 7 (nI l) b from fun ⟨l', q1, q2, q3⟩ => q3 (by have e := eqT q2 (by have := h.2.2.2.1.1; omega) (by have := h.2.2.2.1.1; omega); subst e; exact c18)) (show ¬ dwnP A 7 (nI l) from fun q => q) (show ¬ natP A 7 (nI l) b from fun q => q) hf).symm, rfl⟩ | exact ⟨(wyA (v := 7) (A := A) (n := n) (a := nI l) (b := b) (show ¬ beyP A 7 (nI l) b from fun q => q ⟨l, hl, rfl⟩) (show ¬ misP A 7 (nI l) b from fun ⟨l', q1, q2, q3⟩ => q3 (by have e := eqT q2 (by have := h.2.2.2.1.1; omega) (by have := h.2.2.2.1.1; omega); subst e; exact c18)) (show ¬ dwnP A 7 (nI l) from fun q => q) (show ¬ natP A 7 (nI l) b from fun q => q) hf).symm, rfl⟩
    · refine pp_bipush dX7_whyLetter_21 cb_m2 (q := 23) rfl ?_
      refine ri_ret dX7_whyLetter_23 rfl rfl ?_
      exact ⟨(wy2 (v := 7) (A := A) (n := n) (a := nI l) (b := b) (show ¬ beyP A 7 (nI l) b from fun q => q ⟨l, hl, rfl⟩) (show misP A 7 (nI l) b from ⟨l, hl, rfl, c18⟩)).symm, rfl⟩
  · have hl := isB_f hb2 c5
    refine pp_bipush dX7_whyLetter_8 cb_m3 (q := 10) rfl ?_
    refine ri_ret dX7_whyLetter_10 rfl rfl ?_
    exact ⟨(wy3 (v := 7) (A := A) (n := n) (a := a) (b := b) (show beyP A 7 a b from hl)).symm, rfl⟩
