/-! the way that was told last -/
def RY (g : Sg) (Y : List Int32) : Prop := al g (3, 0, 0) ∧ gI g (3, 0, 0) 1 = nI Y.length ∧ Y.length ≤ gN g (4, 0, 0) ∧ 16 ≤ gN g (4, 0, 0) ∧ gN g (4, 0, 0) ≤ 2400 ∧ ∀ i v, Y[i]? = some v → gA g (4, 0, 0) i = v
def phY (g : Sg) : Nat := 4800 - 2 * gN g (4, 0, 0)
def EqY (ad : Nm → Nat) (g : Sg) (ad' : Nm → Nat) (g' : Sg) : Prop := (∀ n, al g n → al g' n) ∧ (∀ n, al g n → n.1 ≠ 4 → ad' n = ad n) ∧ (∀ n, n.1 ≠ 3 → n.1 ≠ 4 → gI g' n = gI g n ∧ gJ g' n = gJ g n ∧ gA g' n = gA g n ∧ gB g' n = gB g n ∧ gN g' n = gN g n) ∧ gF g' = gF g ∧ gU g' + phY g' ≤ gU g + phY g ∧ 16 * gZ g' + gU g ≤ 16 * gZ g + gU g'
theorem EqY.rf {ad : Nm → Nat} {g : Sg} : EqY ad g ad g := ⟨fun _ h => h, fun _ _ _ => rfl, fun _ _ _ => ⟨rfl, rfl, rfl, rfl, rfl⟩, rfl, Nat.le_refl _, Nat.le_refl _⟩
theorem EqY.tr {ad ad' ad'' : Nm → Nat} {g g' g'' : Sg} (h : EqY ad g ad' g') (h' : EqY ad' g' ad'' g'') : EqY ad g ad'' g'' := by
  obtain ⟨a1, a2, a3, a4, a5, a6⟩ := h
  obtain ⟨b1, b2, b3, b4, b5, b6⟩ := h'
  refine ⟨fun n hn => b1 n (a1 n hn), fun n hn hk => (b2 n (a1 n hn) hk).trans (a2 n hn hk), fun n h3 h4 => ?_, b4.trans a4, by omega, by omega⟩
  obtain ⟨c1, c2, c3, c4, c5⟩ := a3 n h3 h4
  obtain ⟨d1, d2, d3, d4, d5⟩ := b3 n h3 h4
  exact ⟨d1.trans c1, d2.trans c2, d3.trans c3, d4.trans c4, d5.trans c5⟩
theorem EqX.Y {S : Nm → Prop} {ad : Nm → Nat} {g g' : Sg} (h : EqX S g g') (hS : ∀ n, S n → n.1 = 3 ∨ n.1 = 4) : EqY ad g ad g' := by
  obtain ⟨a1, a2, a3, a4, a5⟩ := h
  refine ⟨fun n hn => by unfold al; rw [a3]; exact hn, fun _ _ _ => rfl, fun n h3 h4 => ?_, a3, ?_, ?_⟩
  · obtain ⟨c1, c2, c3, c4⟩ := a1 n (fun q => (hS n q).elim h3 h4)
    exact ⟨c1, c2, c3, c4, by rw [a2]⟩
  · unfold phY; rw [a2, a5]; exact Nat.le_refl _
  · rw [a4, a5]; exact Nat.le_refl _
/-- worlds stay -/
theorem EqY.rb {ad ad' : Nm → Nat} {g g' : Sg} {w : Nat} {B : Bk} (h : EqY ad g ad' g') (hB : RB g w B) : RB g' w B := by
  obtain ⟨-, -, a3, -⟩ := h
  obtain ⟨b1, b2, b3, b4, b5, b6⟩ := hB
  have q : ∀ k a b, 5 ≤ k → _ := fun k a b hk => a3 (k, a, b) (by show k ≠ 3; omega) (by show k ≠ 4; omega)
  have r : ∀ r n, rOk g w r n → rOk g' w r n := fun r n hr => ⟨hr.1, by rw [(q 20 w r (by omega)).1]; exact hr.2.1, by rw [(q 21 w r (by omega)).2.2.2.2]; exact hr.2.2.1, by rw [(q 21 w r (by omega)).2.2.2.2]; exact hr.2.2.2⟩
  exact ⟨r _ _ b1, r _ _ b2, by rw [(q 13 w 0 (by omega)).1]; exact b3, by rw [(q 13 w 0 (by omega)).1]; exact b4, fun l c hl hc => by unfold rv; rw [(q 21 w 0 (by omega)).2.2.1]; exact b5 l c hl hc, fun p c hp hc => by unfold rv; rw [(q 21 w 1 (by omega)).2.2.1]; exact b6 p c hp hc⟩
def wyG (g : Sg) (n : Nat) (v : Int32) : Sg := sI (sA g (4, 0, 0) (upd (gA g (4, 0, 0)) n v)) (3, 0, 0) 1 (nI (n + 1))
theorem RY_add {g : Sg} {Y : List Int32} {v : Int32} (h : RY g Y) (hlt : Y.length < gN g (4, 0, 0)) : RY (wyG g Y.length v) (Y ++ [v]) := by
  obtain ⟨h1, h2, h3, h4, h5, h6⟩ := h
  refine ⟨h1, ?_, ?_, h4, h5, fun i u hu => ?_⟩
  · unfold wyG
    rw [gI_sI, if_pos ⟨rfl, rfl⟩, List.length_append]
    rfl
  · rw [List.length_append]
    exact hlt
  · have e4 : gA (wyG g Y.length v) (4, 0, 0) = upd (gA g (4, 0, 0)) Y.length v := rfl
    rw [e4]
    unfold upd
    by_cases e : i = Y.length
    · subst e
      rw [if_pos rfl]
      rw [List.getElem?_append_right (Nat.le_refl _), Nat.sub_self] at hu
      exact Option.some.inj hu
    · rw [if_neg e]
      have hlt2 := lt_of_getE hu
      rw [List.length_append] at hlt2
      have hl3 : i < Y.length + 1 := hlt2
      rw [List.getElem?_append_left (by omega)] at hu
      exact h6 i u hu
theorem wyG_Y {ad : Nm → Nat} {g : Sg} {n : Nat} {v : Int32} : EqY ad g ad (wyG g n v) := EqX.Y (S := fun n => n.1 = 3 ∨ n.1 = 4) ((EqX.rf.sA (Or.inr rfl)).sI (Or.inl rfl)) (fun _ h => h)
def grY (g : Sg) (k : Nat) (f : Nat → Int32) : Sg := sZ (sN (sA g (4, 0, 0) f) (4, 0, 0) k) (gZ g + 1) (gU g + k)
theorem Rel.growY {ad : Nm → Nat} {g : Sg} {G : PH} {k : Nat} {f : Nat → Int32} (hr : al g (3, 0, 0)) (h : RelN ad g k f G) : Rel (up3 ad (4, 0, 0) (gZ g)) (grY g k f) (phUp G (ad (3, 0, 0)) (.inr (4, [.ref (gZ g), .int (gI g (3, 0, 0) 1)]))) := by
  obtain ⟨h1, h2, h3, h4, h5⟩ := h
  have hal : ∀ n, al (grY g k f) n ↔ al g n := fun n => Iff.rfl
  have h34 : ∀ n, al g n → n.1 = 3 → n = (3, 0, 0) := fun n hn e => by
    obtain ⟨a, b, c⟩ := n
    dsimp only at e
    subst e
    match b, c, hn with
    | 0, 0, _ => rfl
    | 0, c + 1, hn => exact absurd rfl hn.2
    | b + 1, c, hn => exact absurd rfl hn.2
  have hcell : ∀ n, al g n → n ≠ (3, 0, 0) → n ≠ (4, 0, 0) → cell (up3 ad (4, 0, 0) (gZ g)) (grY g k f) n = cell ad g n := by
    intro n hn hn1 hn2
    unfold cell
    rw [cellOf_ad4 (w0 := 0) (r0 := 0) (fun e => hn1 (h34 n hn e))]
    have e1 : gA (grY g k f) n = gA g n := up3_ne hn2
    have e2 : gN (grY g k f) n = gN g n := up3_ne hn2
    rw [e1, e2]
    rfl
  refine ⟨h1, h2, fun n hn => ?_, fun n n' hn hn' e => ?_⟩
  · have hn' := (hal n).mp hn
    by_cases e1 : n = (4, 0, 0)
    · subst e1
      refine ⟨?_, by rw [up3_eq]; show gZ g < gZ g + 1; omega⟩
      rw [up3_eq]
      show (if gZ g = ad (3, 0, 0) then _ else _) = _
      rw [if_neg (by have := (h4 _ hr).2; omega), h3]
      rfl
    · rw [up3_ne e1]
      refine ⟨?_, by have := (h4 n hn').2; show ad n < gZ g + 1; omega⟩
      by_cases e2 : n = (3, 0, 0)
      · subst e2
        show (if ad (3, 0, 0) = ad (3, 0, 0) then _ else _) = _
        rw [if_pos rfl]
        show _ = some (Sum.inr (4, [Value.ref (up3 ad (4, 0, 0) (gZ g) (4, 0, 0)), Value.int (gI g (3, 0, 0) 1)]))
        rw [up3_eq]
      · rw [hcell n hn' e2 e1]
        show (if ad n = ad (3, 0, 0) then _ else _) = _
        rw [if_neg (fun e => e2 (h5 _ _ hn' hr e))]
        exact (h4 n hn').1
  · have b1 := (hal n).mp hn
    have b2 := (hal n').mp hn'
    by_cases e1 : n = (4, 0, 0) <;> by_cases e2 : n' = (4, 0, 0)
    · rw [e1, e2]
    · rw [e1, up3_eq, up3_ne e2] at e
      have := (h4 n' b2).2
      omega
    · rw [e2, up3_eq, up3_ne e1] at e
      have := (h4 n b1).2
      omega
    · rw [up3_ne e1, up3_ne e2] at e
      exact h5 n n' b1 b2 e
theorem grY_RY {g : Sg} {Y : List Int32} {k : Nat} {f : Nat → Int32} (h : RY g Y) (hk : gN g (4, 0, 0) ≤ k) (hk2 : k ≤ 2400) (hf : ∀ j, j < gN g (4, 0, 0) → f j = gA g (4, 0, 0) j) : RY (grY g k f) Y := by
  obtain ⟨h1, h2, h3, h4, h5, h6⟩ := h
  have eN : gN (grY g k f) (4, 0, 0) = k := rfl
  refine ⟨h1, h2, by rw [eN]; omega, by rw [eN]; omega, by rw [eN]; exact hk2, fun i v hv => ?_⟩
  show f i = v
  rw [hf i (by have := lt_of_getE hv; omega)]
  exact h6 i v hv
theorem grY_Y {ad : Nm → Nat} {g : Sg} {f : Nat → Int32} {N : Nat} (hN : gN g (4, 0, 0) = N) (h16 : 16 ≤ N) (h2 : 2 * N ≤ 2400) : EqY ad g (up3 ad (4, 0, 0) (gZ g)) (grY g (2 * N) f) := by
  have eN : gN (grY g (2 * N) f) (4, 0, 0) = 2 * N := rfl
  refine ⟨fun n hn => hn, fun n hn hk => up3_ne (fun e => hk (by rw [e])), fun n h3 h4 => ?_, rfl, ?_, ?_⟩
  · have hne : n ≠ (4, 0, 0) := fun e => h4 (by rw [e])
    exact ⟨rfl, rfl, up3_ne hne, rfl, up3_ne hne⟩
  · unfold phY
    rw [eN, hN]
    show gU g + 2 * N + _ ≤ _
    omega
  · show 16 * (gZ g + 1) + gU g ≤ 16 * gZ g + (gU g + 2 * N)
    omega
set_option maxRecDepth 20000 in
set_option maxHeartbeats 4000000 in
theorem t_wadd {ad : Nm → Nat} {g : Sg} {n : Nat} {v : Int32} (hy : al g (3, 0, 0)) (hsz : gI g (3, 0, 0) 1 = nI n) (hlt : n < gN g (4, 0, 0)) (hN : gN g (4, 0, 0) ≤ 2400) : PS mX4_add 30 [some (.ref (ad (3, 0, 0))), some (.int v)] [] ad g (Rv (fun g' => g' = wyG g n v)) := by
  refine pp_aload_n dX4_add_30 rfl isRf_r (q := 31) rfl ?_
  refine ps_get dX4_add_31 fl_X4_9 hy rfl rfl (q := 34) rfl ?_
  refine pp_aload_n dX4_add_34 rfl isRf_r (q := 35) rfl ?_
  refine ps_get dX4_add_35 fl_X4_15 hy rfl rfl (q := 38) rfl ?_
  rw [hsz]
  refine pp_iload_n dX4_add_38 rfl (q := 39) rfl ?_
  refine ps_iast (j := n) dX4_add_39 hy (fun _ => rfl) rfl hlt (by omega) (q := 40) rfl ?_
  refine pp_aload_n dX4_add_40 rfl isRf_r (q := 41) rfl ?_
  refine pp_dup dX4_add_41 rfl (q := 42) rfl ?_
  refine ps_get dX4_add_42 fl_X4_15 hy rfl rfl (q := 45) rfl ?_
  rw [show gI (sA g (4, 0, 0) (upd (gA g (4, 0, 0)) n v)) (3, 0, 0) 1 = nI n from hsz]
  refine pp_iconst dX4_add_45 ci_1 (q := 46) rfl ?_
  refine pp_iadd dX4_add_46 (q := 47) rfl ?_
  rw [nI_add]
  refine ps_puti dX4_add_47 fl_X4_15 hy rfl (by exact Nat.le_of_ble_eq_true rfl) rfl rfl rfl (q := 50) rfl ?_
  refine rv_ret dX4_add_50 rfl ?_
  exact rfl
set_option maxRecDepth 20000 in
set_option maxHeartbeats 4000000 in
theorem c_wadd {ad : Nm → Nat} {g : Sg} {Y : List Int32} {v : Int32} (hR : RY g Y) (hl : Y.length < 1200) : PP mX4_add 0 (ent mX4_add [.ref (ad (3, 0, 0)), .int v]) [] (Rel ad g) (PQ (fun r ad' g' => r = none ∧ EqY ad g ad' g' ∧ RY g' (Y ++ [v]))) := by
  obtain ⟨hy, hsz, hle, h16, hN, hv⟩ := id hR
  show PP mX4_add 0 [some (.ref (ad (3, 0, 0))), some (.int v)] [] (Rel ad g) _
  refine pp_aload_n dX4_add_0 rfl isRf_r (q := 1) rfl ?_
  refine ps_get dX4_add_1 fl_X4_15 hy rfl rfl (q := 4) rfl ?_
  rw [hsz]
  refine pp_aload_n dX4_add_4 rfl isRf_r (q := 5) rfl ?_
  refine ps_get dX4_add_5 fl_X4_9 hy rfl rfl (q := 8) rfl ?_
  refine ps_alen dX4_add_8 hy rfl (by decide) (q := 9) rfl ?_
  refine pp_icmp_lt (tgt := 30) dX4_add_9 (by decide) (q := 12) rfl (fun c9 => ?_) (fun c9 => ?_)
  · replace c9 := ltT c9 (by omega) (by omega)
    refine (t_wadd hy hsz (by omega) hN).weak (fun r G hG => ?_)
    obtain ⟨g', k1, k2, rfl⟩ := hG
    exact ⟨_, _, k1, k2, wyG_Y, RY_add hR (by omega)⟩
  · replace c9 := ltF c9 (by omega) (by omega)
    refine pp_aload_n dX4_add_12 rfl isRf_r (q := 13) rfl ?_
    refine pp_aload_n dX4_add_13 rfl isRf_r (q := 14) rfl ?_
    refine ps_get dX4_add_14 fl_X4_9 hy rfl rfl (q := 17) rfl ?_
    refine pp_iconst dX4_add_17 ci_2 (q := 18) rfl ?_
    refine pp_aload_n dX4_add_18 rfl isRf_r (q := 19) rfl ?_
    refine ps_get dX4_add_19 fl_X4_9 hy rfl rfl (q := 22) rfl ?_
    refine ps_alen dX4_add_22 hy rfl (by decide) (q := 23) rfl ?_
    refine pp_imul dX4_add_23 (q := 24) rfl ?_
    rw [pk_mul]
    refine pp_callS (As := [.ref (ad (4, 0, 0)), .int (nI (2 * gN g (4, 0, 0)))]) (st := [.ref (ad (3, 0, 0))]) dX4_add_24 lk_X4_37 rfl (Nat.le_of_ble_eq_true rfl) (by decide) (by decide) (Nat.le_of_ble_eq_true rfl) rfl (c_copyOf (len := gN g (4, 0, 0)) hy rfl (by omega) (by omega)) (q := 27) rfl (fun v' => ?_)
    intro G hG
    obtain ⟨rfl, hN⟩ := hG
    refine pp_put (I := RelN ad g (2 * gN g (4, 0, 0)) (va_cpy (gA g (4, 0, 0)) (fun _ => 0) 0 0 (gN g (4, 0, 0)))) (I' := Rel (up3 ad (4, 0, 0) (gZ g)) (grY g (2 * gN g (4, 0, 0)) (va_cpy (gA g (4, 0, 0)) (fun _ => 0) 0 0 (gN g (4, 0, 0))))) (k := 0) (v := .ref (gZ g)) dX4_add_27 fl_X4_9 (fun G hG => (hG.2.2.2.1 _ hy).1) (Nat.le_of_ble_eq_true rfl) rfl rfl (fun G hG => Rel.growY hy hG) (q := 30) rfl ?_ G hN
    have hR2 := grY_RY (k := 2 * gN g (4, 0, 0)) (f := va_cpy (gA g (4, 0, 0)) (fun _ => 0) 0 0 (gN g (4, 0, 0))) hR (by omega) (by omega) (fun j hj => by
      rw [pk_cpy_in (by omega) (by omega)]
      show gA g (4, 0, 0) (0 + (j - 0)) = _
      congr 1
      omega)
    have hE2 := grY_Y (ad := ad) (g := g) (f := va_cpy (gA g (4, 0, 0)) (fun _ => 0) 0 0 (gN g (4, 0, 0))) rfl h16 (by omega)
    have eN : gN (grY g (2 * gN g (4, 0, 0)) (va_cpy (gA g (4, 0, 0)) (fun _ => 0) 0 0 (gN g (4, 0, 0)))) (4, 0, 0) = 2 * gN g (4, 0, 0) := rfl
    have ht := t_wadd (ad := up3 ad (4, 0, 0) (gZ g)) (v := v) hR2.1 hR2.2.1 (by rw [eN]; omega) hR2.2.2.2.2.1
    rw [show up3 ad (4, 0, 0) (gZ g) (3, 0, 0) = ad (3, 0, 0) from up3_ne (fun e => by cases e)] at ht
    refine ht.weak (fun r G hG => ?_)
    obtain ⟨g', k1, k2, rfl⟩ := hG
    exact ⟨_, _, k1, k2, hE2.tr wyG_Y, RY_add hR2 (by rw [eN]; omega)⟩
/-! following a piece back -/
def pcO (B : Bk) (l : Nat) (x : Int32) : Option Nat := fnd (fun i => decide (bp B (cl (bl B l 7) + i) 0 = x)) 0 (cl (bl B l 4))
def nxW (B : Bk) (x : Int32) (l : Nat) : Int32 := match pcO B l x with
  | some i => bp B (cl (bl B l 7) + i) 3
  | none => -1
def wyL (B : Bk) (x : Int32) : Nat → Int32 → List Int32
  | 0, _ => []
  | f + 1, v => if ¬ v < 0 ∧ v < nI (bL B) then v :: wyL B x f (nxW B x (cl v)) else []
def hasP (B : Bk) (l x : Nat) : Prop := ∃ i, pcO B l (nI x) = some i
def okC (B : Bk) (x : Nat) : Prop := ∀ l, l < bL B → hasP B l x → nxW B (nI x) l = -1 ∨ ∃ l', l' < l ∧ nxW B (nI x) l = nI l' ∧ hasP B l' x
def okLt (B : Bk) : Prop := ∀ l, l < bL B → ∃ k s, pOk B l k s
theorem pcO_k {B : Bk} {l k s : Nat} {x : Int32} (hb : bP B ≤ 25000) (hp : pOk B l k s) : pcO B l x = fnd (fun i => decide (bp B (s + i) 0 = x)) 0 k := by
  unfold pcO
  rw [hp.2.1, hp.2.2.1, cl_nI (n := k) (by have := hp.2.2.2.2; omega), cl_nI (n := s) (by have := hp.2.2.2.1; omega)]
theorem wyL_m1 {B : Bk} {x : Int32} : ∀ f, wyL B x f (-1) = []
  | 0 => rfl
  | f + 1 => by unfold wyL; rw [if_neg (fun q => q.1 (by decide))]
set_option maxRecDepth 20000 in
set_option maxHeartbeats 4000000 in
theorem s_fol {ad1 : Nm → Nat} {g1 : Sg} {w x i l : Nat} {z : Int32} {B : Bk} {Y : List Int32} {Q : Option Value → PH → Prop} (hw1 : al g1 (10, w, 0)) (hB1 : RB g1 w B) (hR1 : RY g1 Y) (hYl : Y.length < 1200) (hi : i < 1200) (hl : l < bL B) (hlt : okLt B) (hP : hasP B l x) (hk : ∀ ad2 g2, EqY ad1 g1 ad2 g2 → RY g2 (Y ++ [nI l]) → PP mX4_follow 11 [some (.ref (ad2 (3, 0, 0))), some (.ref (ad2 (13, w, 0))), some (.int z), some (.int (nI x)), some (.int (nxW B (nI x) l)), some (.int (nI (i + 1)))] [] (Rel ad2 g2) Q) : PP mX4_follow 11 [some (.ref (ad1 (3, 0, 0))), some (.ref (ad1 (13, w, 0))), some (.int z), some (.int (nI x)), some (.int (nI l)), some (.int (nI i))] [] (Rel ad1 g1) Q := by
  obtain ⟨k, s, hp⟩ := hlt l hl
  obtain ⟨j, hpo⟩ := hP
  have hfn : fnd (fun i => decide (bp B (s + i) 0 = nI x)) 0 k = some j := by rw [← pcO_k hB1.bd.2 hp]; exact hpo
  have hik : j < k := by have := (fnd_some hfn).2.1; omega
  have hnx : nxW B (nI x) l = bp B (s + j) 3 := by unfold nxW; rw [hpo]; show bp B (cl (bl B l 7) + j) 3 = _; rw [hp.2.2.1, cl_nI (by have := hp.2.2.2.1; have := hB1.bd; omega)]
  refine pp_iload dX4_follow_11 rfl (q := 13) rfl ?_
  refine pp_sipush dX4_follow_13 cs_1200 (q := 16) rfl ?_
  refine pp_icmp_ge (tgt := 56) dX4_follow_16 (by decide) (q := 19) rfl (fun c16 => absurd c16 (nI_ge hi (by decide))) (fun c16 => ?_)
  refine pp_aload_n dX4_follow_19 rfl isRf_r (q := 20) rfl ?_
  refine pp_iload dX4_follow_20 rfl (q := 22) rfl ?_
  refine ps_callVi dX4_follow_22 lk_X4_19 (by exact (by first | exact hw2 | exact hw1)) (by rfl) (by rfl) (by rfl) (c_hasLetter (by exact hw1) hB1) (by rfl) (by exact Nat.le_of_ble_eq_true rfl) (by decide) (by decide) (by exact Nat.le_of_ble_eq_true rfl) (q := 25) rfl (fun r22 g22 h22 => ?_)
  obtain ⟨hb22, rfl⟩ := And.intro h22.1 h22.2.symm
  refine pp_if_eq (tgt := 56) dX4_follow_25 (by decide) (q := 28) rfl (fun c25 => ?_) (fun c25 => ?_)
  · exact absurd ⟨l, hl, rfl⟩ (isB_f hb22 c25)
  · refine pp_aload_n dX4_follow_28 rfl isRf_r (q := 29) rfl ?_
    refine pp_iload dX4_follow_29 rfl (q := 31) rfl ?_
    refine ps_callVq dX4_follow_31 lk_X4_25 (by exact (by first | exact hR2.1 | exact hR1.1)) (by rfl) (by rfl) (by rfl) (c_wadd hR1 hYl) (by rfl) (by exact Nat.le_of_ble_eq_true rfl) (by decide) (by decide) (by exact Nat.le_of_ble_eq_true rfl) (q := 34) rfl (fun v31 ad31 g31 h31 => ?_)
    obtain ⟨rfl, hE2, hR2⟩ := h31
    have hB2 := hE2.rb hB1
    have hw2 := hE2.1 _ hw1
    rw [← hE2.2.1 (3, 0, 0) hR1.1 (by show 3 ≠ 4; omega), ← hE2.2.1 (13, w, 0) hw1 (by show 13 ≠ 4; omega)]
    change PP mX4_follow 34 _ [] _ _
    refine pp_aload_n dX4_follow_34 rfl isRf_r (q := 35) rfl ?_
    refine pp_iload dX4_follow_35 rfl (q := 37) rfl ?_
    refine pp_aload_n dX4_follow_37 rfl isRf_r (q := 38) rfl ?_
    refine pp_iload dX4_follow_38 rfl (q := 40) rfl ?_
    refine pp_iload_n dX4_follow_40 rfl (q := 41) rfl ?_
    refine ps_callVi dX4_follow_41 lk_X4_29 (by exact (by first | exact hw2 | exact hw1)) (by rfl) (by rfl) (by rfl) (c_findPiece (by exact hw2) hB2 hp) (by rfl) (by exact Nat.le_of_ble_eq_true rfl) (by decide) (by decide) (by exact Nat.le_of_ble_eq_true rfl) (q := 44) rfl (fun r41 g41 h41 => ?_)
    obtain ⟨rfl, rfl⟩ := And.intro h41.1.symm h41.2.symm
    rw [← pcO_k hB1.bd.2 hp, hpo]
    refine pp_iconst dX4_follow_44 ci_3 (q := 45) rfl ?_
    refine ps_callVi dX4_follow_45 lk_X4_33 (by exact (by first | exact hw2 | exact hw1)) (by rfl) (by rfl) (by rfl) (c_ofPiece (c := 3) (by exact hw2) hB2 hp hik (by decide)) (by rfl) (by exact Nat.le_of_ble_eq_true rfl) (by decide) (by decide) (by exact Nat.le_of_ble_eq_true rfl) (q := 48) rfl (fun r45 g45 h45 => ?_)
    obtain ⟨rfl, rfl⟩ := And.intro h45.1.symm h45.2.symm
    rw [← hnx]
    refine pp_istore dX4_follow_48 (by decide) (ls1_4 (nl1 rfl)) (q := 50) rfl ?_
    refine pp_iinc dX4_follow_50 rfl (nI_1 _) (ls1_5 (nl1 rfl)) (q := 53) rfl ?_
    refine pp_goto (tgt := 11) dX4_follow_53 (by decide) ?_
    exact hk _ _ hE2 hR2
set_option maxRecDepth 20000 in
set_option maxHeartbeats 4000000 in
theorem e_fol {ad1 : Nm → Nat} {g1 : Sg} {w x i : Nat} {z : Int32} {B : Bk} {Y : List Int32} (hw1 : al g1 (10, w, 0)) (hB1 : RB g1 w B) (hR1 : RY g1 Y) : PP mX4_follow 11 [some (.ref (ad1 (3, 0, 0))), some (.ref (ad1 (13, w, 0))), some (.int z), some (.int (nI x)), some (.int (-1)), some (.int (nI i))] [] (Rel ad1 g1) (PQ (fun r ad' g' => r = none ∧ EqY ad1 g1 ad' g' ∧ RY g' Y)) := by
  refine pp_iload dX4_follow_11 rfl (q := 13) rfl ?_
  refine pp_sipush dX4_follow_13 cs_1200 (q := 16) rfl ?_
  refine pp_icmp_ge (tgt := 56) dX4_follow_16 (by decide) (q := 19) rfl (fun c16 => ?_) (fun c16 => ?_)
  · exact pp_vret dX4_follow_56 rfl (fun G hG => ⟨_, _, hG, rfl, EqY.rf, hR1⟩)
  · refine pp_aload_n dX4_follow_19 rfl isRf_r (q := 20) rfl ?_
    refine pp_iload dX4_follow_20 rfl (q := 22) rfl ?_
    refine ps_callVi dX4_follow_22 lk_X4_19 (by exact hw1) (by rfl) (by rfl) (by rfl) (c_hasLetter (by exact hw1) hB1) (by rfl) (by exact Nat.le_of_ble_eq_true rfl) (by decide) (by decide) (by exact Nat.le_of_ble_eq_true rfl) (q := 25) rfl (fun r22 g22 h22 => ?_)
    obtain ⟨hb22, rfl⟩ := And.intro h22.1 h22.2.symm
    refine pp_if_eq (tgt := 56) dX4_follow_25 (by decide) (q := 28) rfl (fun c25 => ?_) (fun c25 => ?_)
    · refine pp_vret dX4_follow_56 rfl (fun G hG => ⟨_, _, hG, ?_⟩)
      exact ⟨rfl, EqY.rf, hR1⟩
    · obtain ⟨l, hl, e⟩ := isB_t hb22 c25
      exact absurd (show (-1 : Int32) < 0 by decide) (by rw [e]; exact nI_pos (by have := hB1.bd; omega))
/-- the letters' numbers fall along a way -/
theorem l_fol {ad : Nm → Nat} {g : Sg} {w x : Nat} {z : Int32} {B : Bk} (hlt : okLt B) (hC : okC B x) (hbl : bL B ≤ 1200) : ∀ (n : Nat) (v : Int32) (i : Nat) (Y : List Int32) (ad1 : Nm → Nat) (g1 : Sg), (v = -1 ∨ ∃ l, l < n ∧ l < bL B ∧ v = nI l ∧ hasP B l x) → i + n ≤ 1200 → Y.length = i → al g1 (10, w, 0) → RB g1 w B → RY g1 Y → EqY ad g ad1 g1 → PP mX4_follow 11 [some (.ref (ad1 (3, 0, 0))), some (.ref (ad1 (13, w, 0))), some (.int z), some (.int (nI x)), some (.int v), some (.int (nI i))] [] (Rel ad1 g1) (PQ (fun r ad' g' => r = none ∧ EqY ad g ad' g' ∧ RY g' (Y ++ wyL B (nI x) (1200 - i) v)))
  | n, v, i, Y, ad1, g1, Or.inl hv, hi, hY, hw1, hB1, hR1, hE1 => by
    subst hv
    rw [wyL_m1, List.append_nil]
    refine (e_fol hw1 hB1 hR1).weak (fun r G hG => ?_)
    obtain ⟨ad', g', k1, k2, k3, k4⟩ := hG
    exact ⟨ad', g', k1, k2, hE1.tr k3, k4⟩
  | 0, v, i, Y, ad1, g1, Or.inr hv, hi, hY, hw1, hB1, hR1, hE1 => by
    obtain ⟨l, h, -⟩ := hv
    exact absurd h (Nat.not_lt_zero l)
  | n + 1, v, i, Y, ad1, g1, Or.inr hv, hi, hY, hw1, hB1, hR1, hE1 => by
    obtain ⟨l, hln, hl, rfl, hP⟩ := hv
    refine s_fol hw1 hB1 hR1 (by omega) (by omega) hl hlt hP (fun ad2 g2 hE2 hR2 => ?_)
    have e : wyL B (nI x) (1200 - i) (nI l) = nI l :: wyL B (nI x) (1200 - (i + 1)) (nxW B (nI x) l) := by
      obtain ⟨f, hf⟩ : ∃ f, 1200 - i = f + 1 := ⟨1200 - i - 1, by omega⟩
      rw [hf, wyL, if_pos ⟨nI_pos (by omega), nI_lt hl (by omega)⟩, cl_nI (by omega), show 1200 - (i + 1) = f by omega]
    rw [e, List.append_cons]
    refine l_fol hlt hC hbl n (nxW B (nI x) l) (i + 1) (Y ++ [nI l]) ad2 g2 ?_ (by omega) (by rw [List.length_append, hY]; rfl) (hE2.1 _ hw1) (hE2.rb hB1) hR2 (hE1.tr hE2)
    rcases hC l hl hP with h | ⟨l', h1, h2, h3⟩
    · exact Or.inl h
    · exact Or.inr ⟨l', by omega, by omega, h2, h3⟩
set_option maxRecDepth 20000 in
set_option maxHeartbeats 4000000 in
theorem c_follow {ad : Nm → Nat} {g : Sg} {w x : Nat} {v : Int32} {B : Bk} {Y : List Int32} (hw : al g (10, w, 0)) (hB : RB g w B) (hR : RY g Y) (hlt : okLt B) (hC : okC B x) (hbl : bL B ≤ 1200) (hv : v = -1 ∨ ∃ l, l < bL B ∧ v = nI l ∧ hasP B l x) : PP mX4_follow 0 (ent mX4_follow [.ref (ad (3, 0, 0)), .ref (ad (13, w, 0)), .int v, .int (nI x)]) [] (Rel ad g) (PQ (fun r ad' g' => r = none ∧ EqY ad g ad' g' ∧ RY g' (wyL B (nI x) 1200 v))) := by
  show PP mX4_follow 0 [some (.ref (ad (3, 0, 0))), some (.ref (ad (13, w, 0))), some (.int v), some (.int (nI x)), none, none] [] (Rel ad g) _
  refine pp_aload_n dX4_follow_0 rfl isRf_r (q := 1) rfl ?_
  refine pp_iconst dX4_follow_1 ci_0 (q := 2) rfl ?_
  refine ps_puti dX4_follow_2 fl_X4_15 hR.1 rfl (by exact Nat.le_of_ble_eq_true rfl) rfl rfl rfl (q := 5) rfl ?_
  refine pp_iload_n dX4_follow_5 rfl (q := 6) rfl ?_
  refine pp_istore dX4_follow_6 (by decide) (ls1_4 (nl1 rfl)) (q := 8) rfl ?_
  refine pp_iconst dX4_follow_8 ci_0 (q := 9) rfl ?_
  refine pp_istore dX4_follow_9 (by decide) (ls1_5 (nl1 rfl)) (q := 11) rfl ?_
  have hR0 : RY (sI g (3, 0, 0) 1 (nI 0)) [] := ⟨hR.1, by rw [gI_sI, if_pos ⟨rfl, rfl⟩]; rfl, Nat.zero_le _, hR.2.2.2.1, hR.2.2.2.2.1, fun i v hv => by simp at hv⟩
  have hE0 : EqY ad g ad (sI g (3, 0, 0) 1 (nI 0)) := EqX.Y (S := fun n => n.1 = 3 ∨ n.1 = 4) (EqX.rf.sI (Or.inl rfl)) (fun _ h => h)
  exact l_fol hlt hC hbl (bL B) v 0 [] ad _ (hv.imp id (fun ⟨l, a, b, c⟩ => ⟨l, a, a, b, c⟩)) (by omega) rfl hw (hE0.rb hB) hR0 hE0
