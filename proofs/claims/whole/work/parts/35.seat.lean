def refs (n : Nm) : List Nm := match n with
  | (0, _, _) => [(10, 0, 0), (1, 0, 0), (3, 0, 0), (5, 0, 0), (6, 0, 0)]
  | (1, _, _) => [(2, 0, 0)]
  | (3, _, _) => [(4, 0, 0)]
  | (10, w, _) => [(11, w, 0), (12, w, 0), (13, w, 0), (14, w, 0), (15, w, 0), (16, w, 0), (20, w, 2)]
  | (13, w, _) => [(20, w, 0), (20, w, 1)]
  | (20, w, m) => [(21, w, m)]
  | (30, w, m) => [(31, w, m), (32, w, m), (33, w, m), (34, w, m), (35, w, m), (36, w, m)]
  | (40, _, _) => [(41, 0, 0), (42, 0, 0), (43, 0, 0), (44, 0, 0), (45, 0, 0), (46, 0, 0), (47, 0, 0), (48, 0, 0), (49, 0, 0)]
  | _ => []
set_option maxRecDepth 20000 in
set_option maxHeartbeats 4000000 in
theorem cellOf_cg {ad ad' : Nm → Nat} {F F' : Nm → Bool} {n : Nm} {I : Nat → Int32} {J : Int64} {A : Nat → Int32} {B : Nat → Int64} {N : Nat} (hr : ∀ n', n' ∈ refs n → ad' n' = ad n') (h0 : n.1 = 0 → ∀ w, (w = 1 ∨ w = 2) → F' (10, w, 0) = F (10, w, 0) ∧ (F (10, w, 0) = true → ad' (10, w, 0) = ad (10, w, 0))) (h11 : n.1 = 11 → ∀ m, F' (30, n.2.1, m) = F (30, n.2.1, m) ∧ (F (30, n.2.1, m) = true → ad' (30, n.2.1, m) = ad (30, n.2.1, m))) : cellOf ad' F' n I J A B N = cellOf ad F n I J A B N := by
  obtain ⟨k, w, m⟩ := n
  by_cases h : k ≤ 50
  · have hk : k = 0 ∨ k = 1 ∨ k = 2 ∨ k = 3 ∨ k = 4 ∨ k = 5 ∨ k = 6 ∨ k = 7 ∨ k = 8 ∨ k = 9 ∨ k = 10 ∨ k = 11 ∨ k = 12 ∨ k = 13 ∨ k = 14 ∨ k = 15 ∨ k = 16 ∨ k = 17 ∨ k = 18 ∨ k = 19 ∨ k = 20 ∨ k = 21 ∨ k = 22 ∨ k = 23 ∨ k = 24 ∨ k = 25 ∨ k = 26 ∨ k = 27 ∨ k = 28 ∨ k = 29 ∨ k = 30 ∨ k = 31 ∨ k = 32 ∨ k = 33 ∨ k = 34 ∨ k = 35 ∨ k = 36 ∨ k = 37 ∨ k = 38 ∨ k = 39 ∨ k = 40 ∨ k = 41 ∨ k = 42 ∨ k = 43 ∨ k = 44 ∨ k = 45 ∨ k = 46 ∨ k = 47 ∨ k = 48 ∨ k = 49 ∨ k = 50 := by omega
    rcases hk with rfl | rfl | rfl | rfl | rfl | rfl | rfl | rfl | rfl | rfl | rfl | rfl | rfl | rfl | rfl | rfl | rfl | rfl | rfl | rfl | rfl | rfl | rfl | rfl | rfl | rfl | rfl | rfl | rfl | rfl | rfl | rfl | rfl | rfl | rfl | rfl | rfl | rfl | rfl | rfl | rfl | rfl | rfl | rfl | rfl | rfl | rfl | rfl | rfl | rfl | rfl
    · have e0 := hr (10, 0, 0) (by simp [refs])
      have e1 := hr (1, 0, 0) (by simp [refs])
      have e2 := hr (3, 0, 0) (by simp [refs])
      have e3 := hr (5, 0, 0) (by simp [refs])
      have e4 := hr (6, 0, 0) (by simp [refs])
      have f1 := h0 rfl 1 (Or.inl rfl)
      have f2 := h0 rfl 2 (Or.inr rfl)
      have g1 : (if F' (10, 1, 0) = true then some (ad' (10, 1, 0)) else none) = if F (10, 1, 0) = true then some (ad (10, 1, 0)) else none := by
        rw [f1.1]
        by_cases hb : F (10, 1, 0) = true
        · rw [if_pos hb, if_pos hb, f1.2 hb]
        · rw [if_neg hb, if_neg hb]
      have g2 : (if F' (10, 2, 0) = true then some (ad' (10, 2, 0)) else none) = if F (10, 2, 0) = true then some (ad (10, 2, 0)) else none := by
        rw [f2.1]
        by_cases hb : F (10, 2, 0) = true
        · rw [if_pos hb, if_pos hb, f2.2 hb]
        · rw [if_neg hb, if_neg hb]
      simp only [cellOf, e0, e1, e2, e3, e4, g1, g2]
    · have e0 := hr (2, 0, 0) (by simp [refs])
      simp only [cellOf, e0]
    · rfl
    · have e0 := hr (4, 0, 0) (by simp [refs])
      simp only [cellOf, e0]
    · rfl
    · rfl
    · rfl
    · rfl
    · rfl
    · rfl
    · have e0 := hr (11, w, 0) (by simp [refs])
      have e1 := hr (12, w, 0) (by simp [refs])
      have e2 := hr (13, w, 0) (by simp [refs])
      have e3 := hr (14, w, 0) (by simp [refs])
      have e4 := hr (15, w, 0) (by simp [refs])
      have e5 := hr (16, w, 0) (by simp [refs])
      have e6 := hr (20, w, 2) (by simp [refs])
      simp only [cellOf, e0, e1, e2, e3, e4, e5, e6]
    · have e : (fun m => if F' (30, w, m) = true then some (ad' (30, w, m)) else none) = fun m => if F (30, w, m) = true then some (ad (30, w, m)) else none := by
        funext m'
        obtain ⟨a, b⟩ := h11 rfl m'
        rw [show F' (30, w, m') = F (30, w, m') from a]
        by_cases hb : F (30, w, m') = true
        · rw [if_pos hb, if_pos hb, show ad' (30, w, m') = ad (30, w, m') from b hb]
        · rw [if_neg hb, if_neg hb]
      simp only [cellOf, e]
    · rfl
    · have e0 := hr (20, w, 0) (by simp [refs])
      have e1 := hr (20, w, 1) (by simp [refs])
      simp only [cellOf, e0, e1]
    · rfl
    · rfl
    · rfl
    · rfl
    · rfl
    · rfl
    · have e0 := hr (21, w, m) (by simp [refs])
      simp only [cellOf, e0]
    · rfl
    · rfl
    · rfl
    · rfl
    · rfl
    · rfl
    · rfl
    · rfl
    · rfl
    · have e0 := hr (31, w, m) (by simp [refs])
      have e1 := hr (32, w, m) (by simp [refs])
      have e2 := hr (33, w, m) (by simp [refs])
      have e3 := hr (34, w, m) (by simp [refs])
      have e4 := hr (35, w, m) (by simp [refs])
      have e5 := hr (36, w, m) (by simp [refs])
      simp only [cellOf, e0, e1, e2, e3, e4, e5]
    · rfl
    · rfl
    · rfl
    · rfl
    · rfl
    · rfl
    · rfl
    · rfl
    · rfl
    · have e0 := hr (41, 0, 0) (by simp [refs])
      have e1 := hr (42, 0, 0) (by simp [refs])
      have e2 := hr (43, 0, 0) (by simp [refs])
      have e3 := hr (44, 0, 0) (by simp [refs])
      have e4 := hr (45, 0, 0) (by simp [refs])
      have e5 := hr (46, 0, 0) (by simp [refs])
      have e6 := hr (47, 0, 0) (by simp [refs])
      have e7 := hr (48, 0, 0) (by simp [refs])
      have e8 := hr (49, 0, 0) (by simp [refs])
      simp only [cellOf, e0, e1, e2, e3, e4, e5, e6, e7, e8]
    · rfl
    · rfl
    · rfl
    · rfl
    · rfl
    · rfl
    · rfl
    · rfl
    · rfl
    · rfl
  · unfold cellOf
    split <;> first | rfl | (rename_i he; cases he; omega)
theorem refs_al {g : Sg} {n n' : Nm} (h : al g n) (hn : n' ∈ refs n) : al g n' ∨ n' = (10, 0, 0) := by
  unfold al own at h
  split at h
  all_goals first
    | exact absurd rfl h.2
    | (simp [refs] at hn; done)
    | (simp [refs] at hn; subst hn; exact Or.inl h)
    | (simp [refs] at hn; rcases hn with rfl | rfl <;> exact Or.inl h)
    | (simp [refs] at hn; rcases hn with rfl | rfl | rfl | rfl | rfl <;> first | exact Or.inl h | exact Or.inr rfl)
    | (simp [refs] at hn; rcases hn with rfl | rfl | rfl | rfl | rfl | rfl <;> exact Or.inl h)
    | (simp [refs] at hn; rcases hn with rfl | rfl | rfl | rfl | rfl | rfl | rfl <;> exact Or.inl h)
    | (simp [refs] at hn; rcases hn with rfl | rfl | rfl | rfl | rfl | rfl | rfl | rfl | rfl <;> exact Or.inl h)
theorem Rel.mk2 {ad ad' : Nm → Nat} {g g' : Sg} {G G' : PH} {ns : List Nm} (hR : Rel ad g G) (h1 : G'.1 = gZ g') (h2 : G'.2.1 = gU g') (hz : gZ g ≤ gZ g') (hal : ∀ n, al g' n → al g n ∨ ∃ j : Nat, ns[j]? = some n) (hold : ∀ n, al g n → ad' n = ad n ∧ G'.2.2 (ad n) = some (cell ad' g' n)) (hnew : ∀ (j : Nat) (n : Nm), ns[j]? = some n → ad' n = gZ g + j ∧ gZ g + j < gZ g' ∧ G'.2.2 (gZ g + j) = some (cell ad' g' n)) : Rel ad' g' G' := by
  refine ⟨h1, h2, fun n hn => ?_, fun n n' hn hn' e => ?_⟩
  · rcases hal n hn with h | ⟨j, hj⟩
    · obtain ⟨a, b⟩ := hold n h
      have := (hR.2.2.1 n h).2
      exact ⟨by rw [a]; exact b, by rw [a]; omega⟩
    · obtain ⟨a, b, c⟩ := hnew j n hj
      exact ⟨by rw [a]; exact c, by rw [a]; exact b⟩
  · rcases hal n hn with h | ⟨j, hj⟩ <;> rcases hal n' hn' with h' | ⟨j', hj'⟩
    · rw [(hold n h).1, (hold n' h').1] at e
      exact hR.2.2.2 n n' h h' e
    · rw [(hold n h).1, (hnew j' n' hj').1] at e
      have := (hR.2.2.1 n h).2
      omega
    · rw [(hold n' h').1, (hnew j n hj).1] at e
      have := (hR.2.2.1 n' h').2
      omega
    · rw [(hnew j n hj).1, (hnew j' n' hj').1] at e
      have e2 : j = j' := by omega
      rw [e2, hj'] at hj
      exact (Option.some.inj hj).symm
theorem PP.at {M : MI} {pc : Nat} {L : PLoc} {st : List Value} {I : PH → Prop} {Q : Option Value → PH → Prop} (h : ∀ G, I G → PP M pc L st (fun H => H = phX G []) Q) : PP M pc L st I Q := fun G hG => h G hG G phX_nil.symm
/-! a member's cells -/
def isMn (w m : Nat) (n : Nm) : Prop := n.2.1 = w ∧ n.2.2 = m ∧ 30 ≤ n.1 ∧ n.1 ≤ 36
theorem isMn_d {w m : Nat} {n : Nm} : isMn w m n ∨ ¬ isMn w m n := Classical.em _
noncomputable def adM (ad : Nm → Nat) (w m Z : Nat) : Nm → Nat := fun n => cIf (isMn w m n) (Z + (n.1 - 30)) (ad n)
noncomputable def mkM (g : Sg) (w m : Nat) : Sg := (fun n => cIf (isMn w m n) (fun _ => 0) (gI g n), fun n => cIf (isMn w m n) 0 (gJ g n), fun n => cIf (isMn w m n) (fun _ => 0) (gA g n), gB g, gN g, up3 (gF g) (30, w, m) true, gZ g + 7, gU g + 400)
theorem own_mn {n : Nm} {w m : Nat} : own n = (30, w, m) ↔ isMn w m n := by
  constructor
  · intro h
    unfold own at h
    split at h
    all_goals first
      | (cases h; done)
      | (cases h; exact ⟨rfl, rfl, by show 30 ≤ _; omega, by show _ ≤ 36; omega⟩)
  · rintro ⟨h1, h2, h3, h4⟩
    obtain ⟨k, a, b⟩ := n
    dsimp only at h1 h2 h3 h4
    subst h1 h2
    obtain rfl | rfl | rfl | rfl | rfl | rfl | rfl : k = 30 ∨ k = 31 ∨ k = 32 ∨ k = 33 ∨ k = 34 ∨ k = 35 ∨ k = 36 := by omega
    all_goals rfl
theorem al_mkM {g : Sg} {w m : Nat} {n : Nm} : al (mkM g w m) n ↔ al g n ∨ isMn w m n := by
  unfold al
  show up3 (gF g) (30, w, m) true (own n) = true ∧ _ ↔ _
  by_cases h : own n = (30, w, m)
  · rw [h, up3_eq]
    exact ⟨fun _ => Or.inr (own_mn.mp h), fun _ => ⟨rfl, fun e => by cases e⟩⟩
  · rw [up3_ne h]
    exact ⟨fun q => Or.inl q, fun q => q.elim (fun a => a) (fun a => absurd (own_mn.mpr a) h)⟩
theorem mn_no {g : Sg} {w m : Nat} {n : Nm} (hf : ¬ gF g (30, w, m) = true) (hn : al g n) : ¬ isMn w m n := fun h => by
  have := hn.1
  rw [own_mn.mpr h] at this
  exact hf this
def mnL (w m : Nat) : List Nm := [(30, w, m), (31, w, m), (32, w, m), (33, w, m), (34, w, m), (35, w, m), (36, w, m)]
theorem mnL_of {w m : Nat} {n : Nm} (h : isMn w m n) : (mnL w m)[n.1 - 30]? = some n := by
  obtain ⟨h1, h2, h3, h4⟩ := h
  obtain ⟨k, a, b⟩ := n
  dsimp only at h1 h2 h3 h4
  subst h1 h2
  obtain rfl | rfl | rfl | rfl | rfl | rfl | rfl : k = 30 ∨ k = 31 ∨ k = 32 ∨ k = 33 ∨ k = 34 ∨ k = 35 ∨ k = 36 := by omega
  all_goals rfl
theorem mnL_is {w m j : Nat} {n : Nm} (h : (mnL w m)[j]? = some n) : isMn w m n ∧ n.1 = 30 + j ∧ j < 7 := by
  have hj : j < 7 := by
    rcases Nat.lt_or_ge j 7 with h1 | h1
    · exact h1
    · rw [List.getElem?_eq_none (by exact h1)] at h; cases h
  obtain rfl | rfl | rfl | rfl | rfl | rfl | rfl : j = 0 ∨ j = 1 ∨ j = 2 ∨ j = 3 ∨ j = 4 ∨ j = 5 ∨ j = 6 := by omega
  all_goals (cases h; exact ⟨⟨rfl, rfl, by show 30 ≤ _; omega, by show _ ≤ 36; omega⟩, rfl, by omega⟩)
def mcs (Z m : Nat) : List (Nat × PE) := [(16, .inr (1, [.int (nI m), .int (nI 0), .int 0, .long 0, .int 0, .int 0, .int 0, .int 0, .ref (Z + 1), .ref (Z + 2), .ref (Z + 3), .ref (Z + 4), .ref (Z + 5), .ref (Z + 6), .int 0, .int 0])), (64, .inl (0, 64, .inl (fun _ => 0))), (64, .inl (0, 64, .inl (fun _ => 0))), (64, .inl (0, 64, .inl (fun _ => 0))), (64, .inl (0, 64, .inl (fun _ => 0))), (64, .inl (0, 64, .inl (fun _ => 0))), (64, .inl (0, 64, .inl (fun _ => 0)))]
theorem adM_in {ad : Nm → Nat} {w m Z k : Nat} (h1 : 30 ≤ k) (h2 : k ≤ 36) : adM ad w m Z (k, w, m) = Z + (k - 30) := cIf_t ⟨rfl, rfl, h1, h2⟩
theorem cIf_o {α : Type} {β : α → Prop} {γ : Type} {f g : α → γ} {x : α} (h : ¬ β x) : cIf (β x) (f x) (g x) = g x := cIf_f h
theorem mcs_cell {ad : Nm → Nat} {g : Sg} {w m j : Nat} {n : Nm} (h : (mnL w m)[j]? = some n) : ∃ k, (mcs (gZ g) m)[j]? = some (k, cell (adM ad w m (gZ g)) (mkM g w m) n) := by
  have hj : j < 7 := (mnL_is h).2.2
  have ea : ∀ k, 30 ≤ k → k ≤ 36 → gA (mkM g w m) (k, w, m) = fun _ => 0 := fun k a b => cIf_t ⟨rfl, rfl, a, b⟩
  have eI : gI (mkM g w m) (30, w, m) = fun _ => 0 := cIf_t ⟨rfl, rfl, by show 30 ≤ 30; omega, by show 30 ≤ 36; omega⟩
  have eJ : gJ (mkM g w m) (30, w, m) = 0 := cIf_t ⟨rfl, rfl, by show 30 ≤ 30; omega, by show 30 ≤ 36; omega⟩
  obtain rfl | rfl | rfl | rfl | rfl | rfl | rfl : j = 0 ∨ j = 1 ∨ j = 2 ∨ j = 3 ∨ j = 4 ∨ j = 5 ∨ j = 6 := by omega
  · cases h
    refine ⟨16, ?_⟩
    unfold cell
    simp only [cellOf, eI, eJ, adM_in (ad := ad) (w := w) (m := m) (Z := gZ g) (k := 31) (by omega) (by omega), adM_in (ad := ad) (w := w) (m := m) (Z := gZ g) (k := 32) (by omega) (by omega), adM_in (ad := ad) (w := w) (m := m) (Z := gZ g) (k := 33) (by omega) (by omega), adM_in (ad := ad) (w := w) (m := m) (Z := gZ g) (k := 34) (by omega) (by omega), adM_in (ad := ad) (w := w) (m := m) (Z := gZ g) (k := 35) (by omega) (by omega), adM_in (ad := ad) (w := w) (m := m) (Z := gZ g) (k := 36) (by omega) (by omega)]
    rfl
  · cases h
    refine ⟨64, ?_⟩
    unfold cell
    rw [ea 31 (by omega) (by omega)]
    rfl
  · cases h
    refine ⟨64, ?_⟩
    unfold cell
    rw [ea 32 (by omega) (by omega)]
    rfl
  · cases h
    refine ⟨64, ?_⟩
    unfold cell
    rw [ea 33 (by omega) (by omega)]
    rfl
  · cases h
    refine ⟨64, ?_⟩
    unfold cell
    rw [ea 34 (by omega) (by omega)]
    rfl
  · cases h
    refine ⟨64, ?_⟩
    unfold cell
    rw [ea 35 (by omega) (by omega)]
    rfl
  · cases h
    refine ⟨64, ?_⟩
    unfold cell
    rw [ea 36 (by omega) (by omega)]
    rfl
theorem cell_mkM {ad : Nm → Nat} {g : Sg} {w m Z : Nat} {n : Nm} (hf : ¬ gF g (30, w, m) = true) (hn : al g n) (hne : n ≠ (11, w, 0)) : cell (adM ad w m Z) (mkM g w m) n = cell ad g n := by
  have hno := mn_no hf hn
  unfold cell
  rw [show gI (mkM g w m) n = gI g n from cIf_f hno, show gJ (mkM g w m) n = gJ g n from cIf_f hno, show gA (mkM g w m) n = gA g n from cIf_f hno]
  refine cellOf_cg (fun n' hn' => cIf_f ((refs_al hn hn').elim (fun a => mn_no hf a) (fun e q => by subst e; have := q.2.2.1; simp at this))) (fun _ w' _ => ?_) (fun h11 m' => ?_)
  · refine ⟨by show up3 (gF g) (30, w, m) true (10, w', 0) = _; exact up3_ne (fun e => by cases e), fun _ => cIf_f (fun q => by have := q.2.2.1; simp at this)⟩
  · have hw : n.2.1 ≠ w := by
      intro e
      apply hne
      obtain ⟨k, a, b⟩ := n
      dsimp only at h11 e
      subst h11 e
      have := hn.2
      unfold own at this
      split at this <;> simp_all
    refine ⟨by show up3 (gF g) (30, w, m) true (30, n.2.1, m') = _; exact up3_ne (fun e => hw (congrArg (fun x : Nm => x.2.1) e)), fun _ => cIf_f (fun q => hw q.1)⟩

set_option maxRecDepth 20000 in
set_option maxHeartbeats 4000000 in
theorem c_seat {ad : Nm → Nat} {g : Sg} {w m : Nat} (hw : al g (10, w, 0)) (hmb : m < 64) (hm : al g (30, w, m)) : PS mX5_seat 0 (ent mX5_seat [.ref (ad (10, w, 0)), .int (nI m)]) [] ad g (Rr (fun o g' => o = some (ad (30, w, m)) ∧ g' = g)) := by
  have hA := And.intro hw trivial
  show PP mX5_seat 0 [some (.ref (ad (10, w, 0))), some (.int (nI m)), none] [] (Rel ad g) _
  refine pp_aload_n dX5_seat_0 rfl isRf_r (q := 1) rfl ?_
  refine ps_get dX5_seat_1 fl_X5_11 hA.1 rfl rfl (q := 4) rfl ?_
  refine pp_iload_n dX5_seat_4 rfl (q := 5) rfl ?_
  refine ps_aald (j := m) dX5_seat_5 hA.1 rfl rfl (by omega) (by decide) (q := 6) rfl ?_
  rw [if_pos (show gF g (30, w, m) = true from hm.1)]
  change PP mX5_seat 6 _ [Value.ref (ad (30, w, m))] _ _
  refine pp_astore_n dX5_seat_6 (by first | exact isRf_r | exact isRf_va | exact isRf_n) (by decide) (ls1_2 (nl1 rfl)) (q := 7) rfl ?_
  refine pp_aload_n dX5_seat_7 rfl (by first | exact isRf_r | exact isRf_va | exact isRf_n) (q := 8) rfl ?_
  refine pp_ifnonnull_r (tgt := 27) dX5_seat_8 (by decide) ?_
  refine pp_aload_n dX5_seat_27 rfl (by first | exact isRf_r | exact isRf_va | exact isRf_n) (q := 28) rfl ?_
  refine rr_ret (v := some (ad (30, w, m))) dX5_seat_28 rfl (Or.inl ⟨_, rfl⟩) ?_
  exact ⟨rfl, rfl⟩
set_option maxRecDepth 20000 in
set_option maxHeartbeats 4000000 in
theorem c_seat_new {ad : Nm → Nat} {g : Sg} {w m : Nat} (hw : al g (10, w, 0)) (hmb : m < 64) (hf : ¬ gF g (30, w, m) = true) : PP mX5_seat 0 (ent mX5_seat [.ref (ad (10, w, 0)), .int (nI m)]) [] (Rel ad g) (fun v G => v = some (.ref (gZ g)) ∧ Rel (adM ad w m (gZ g)) (mkM g w m) G) := by
  show PP mX5_seat 0 [some (.ref (ad (10, w, 0))), some (.int (nI m)), none] [] (Rel ad g) _
  refine pp_aload_n dX5_seat_0 rfl isRf_r (q := 1) rfl ?_
  refine ps_get dX5_seat_1 fl_X5_11 hw rfl rfl (q := 4) rfl ?_
  refine pp_iload_n dX5_seat_4 rfl (q := 5) rfl ?_
  refine ps_aald (j := m) dX5_seat_5 hw rfl rfl (by omega) (by decide) (q := 6) rfl ?_
  rw [if_neg (show ¬ gF g (30, w, m) = true from hf)]
  change PP mX5_seat 6 _ [Value.null] _ _
  refine pp_astore_n dX5_seat_6 (by first | exact isRf_r | exact isRf_va | exact isRf_n) (by decide) (ls1_2 (nl1 rfl)) (q := 7) rfl ?_
  refine pp_aload_n dX5_seat_7 rfl (by first | exact isRf_r | exact isRf_va | exact isRf_n) (q := 8) rfl ?_
  refine pp_ifnonnull_n dX5_seat_8 (q := 11) rfl ?_
  refine PP.at (fun G hG => ?_)
  have eZ : G.1 = gZ g := hG.1
  refine px_new (a := G.1 + 0) (l' := [(16, .inr (1, [.int 0, .int 0, .int 0, .long 0, .int 0, .int 0, .int 0, .int 0, .null, .null, .null, .null, .null, .null, .int 0, .int 0]))]) dX5_seat_11 ln_X5_9 rfl rfl (q := 14) rfl ?_
  refine pp_dup dX5_seat_14 rfl (q := 15) rfl ?_
  refine pp_iload_n dX5_seat_15 rfl (q := 16) rfl ?_
  refine px_callI (st := [.ref (G.1 + 0)]) (l0 := []) (As := [.int (nI m)]) (l' := mcs G.1 m) (s := fun a => mcs a m) rfl dX5_seat_16 lk_X5_73 (by rfl) (by exact Nat.le_of_ble_eq_true rfl) (by decide) (by decide) (by exact Nat.le_of_ble_eq_true rfl) (by rfl) (fun G' => i_mem G') rfl (q := 19) rfl ?_
  refine pp_astore_n dX5_seat_19 isRf_r (by decide) (ls1_2 (nl1 rfl)) (q := 20) rfl ?_
  refine pp_aload_n dX5_seat_20 rfl isRf_r (q := 21) rfl ?_
  have hlo : ∀ n, al g n → (phX G (mcs G.1 m)).2.2 (ad n) = some (cell ad g n) := fun n hn => by rw [phX_lt (by rw [eZ]; exact (hG.2.2.1 n hn).2)]; exact hG.c hn
  refine pp_get (a := ad (10, w, 0)) dX5_seat_21 fl_X5_11 (fun H hH => by rw [hH]; exact hlo _ hw) rfl (q := 24) rfl ?_
  refine pp_iload_n dX5_seat_24 rfl (q := 25) rfl ?_
  refine pp_aload_n dX5_seat_25 rfl isRf_r (q := 26) rfl ?_
  have hci := clampI (i := nI m) (j := m) (N := 64) rfl hmb (by decide)
  have hw11 : al g (11, w, 0) := hw
  refine pp_aast (a := ad (11, w, 0)) (v := G.1 + 0) (n := 64) (f := fun m => if gF g (30, w, m) = true then some (ad (30, w, m)) else none) (I' := Rel (adM ad w m (gZ g)) (mkM g w m)) dX5_seat_26 (fun H hH => by rw [hH]; exact hlo _ hw11) (fun H hH => by rw [hH]; exact phX_at (i := 0) rfl) hci.1 (fun H hH => ?_) (q := 27) rfl ?_
  · rw [hH, hci.2]
    have hup : ∀ a, a ≠ ad (11, w, 0) → ∀ e, (phUp (phX G (mcs G.1 m)) (ad (11, w, 0)) e).2.2 a = (phX G (mcs G.1 m)).2.2 a := fun a ha e => if_neg ha
    refine Rel.mk2 (ns := mnL w m) hG ?_ ?_ ?_ (fun n hn => ?_) (fun n hn => ?_) (fun j n hj => ?_)
    · show G.1 + 7 = gZ g + 7; rw [eZ]
    · show G.2.1 + 400 = gU g + 400; rw [hG.2.1]
    · show gZ g ≤ gZ g + 7; omega
    · rcases al_mkM.mp hn with h | h
      · exact Or.inl h
      · exact Or.inr ⟨_, mnL_of h⟩
    · refine ⟨cIf_f (mn_no hf hn), ?_⟩
      by_cases e11 : n = (11, w, 0)
      · subst e11
        show (if ad (11, w, 0) = ad (11, w, 0) then _ else _) = _
        rw [if_pos rfl]
        show some (Sum.inl (3, 64, Sum.inr (Sum.inr (Sum.inr (Sum.inr (va_up _ m (some (G.1 + 0)))))))) = some (Sum.inl (3, 64, Sum.inr (Sum.inr (Sum.inr (Sum.inr (fun m' => if up3 (gF g) (30, w, m) true (30, w, m') = true then some (adM ad w m (gZ g) (30, w, m')) else none))))))
        have ef : va_up (fun m => if gF g (30, w, m) = true then some (ad (30, w, m)) else none) m (some (G.1 + 0)) = (fun m' => if up3 (gF g) (30, w, m) true (30, w, m') = true then some (adM ad w m (gZ g) (30, w, m')) else none) := by
          funext m'
          show (if m' = m then some (G.1 + 0) else _) = _
          by_cases em : m' = m
          · subst em
            rw [if_pos rfl, up3_eq, if_pos rfl, adM_in (by omega) (by omega), eZ]
          · have e1 : ((30, w, m') : Nm) ≠ (30, w, m) := fun e => em (by cases e; rfl)
            rw [if_neg em, up3_ne e1]
            dsimp only
            by_cases hb : gF g (30, w, m') = true
            · rw [if_pos hb, if_pos hb, show adM ad w m (gZ g) (30, w, m') = ad (30, w, m') from cIf_f (fun q => em q.2.1)]
            · rw [if_neg hb, if_neg hb]
        rw [ef]
      · rw [hup _ (fun e => e11 (hG.2.2.2 _ _ hn hw11 e)), hlo n hn, cell_mkM hf hn e11]
    · obtain ⟨h1, h2, h3⟩ := mnL_is hj
      obtain ⟨k, hk⟩ := mcs_cell (ad := ad) (g := g) hj
      refine ⟨?_, by show gZ g + j < gZ g + 7; omega, ?_⟩
      · show cIf _ _ _ = _; rw [cIf_t h1, h2]; omega
      · rw [← eZ, hup _ (by have := (hG.2.2.1 _ hw11).2; rw [eZ]; omega)]
        rw [← eZ] at hk
        exact phX_at hk
  · refine pp_aload_n dX5_seat_27 rfl isRf_r (q := 28) rfl ?_
    exact pp_aret dX5_seat_28 rfl (Or.inl ⟨_, rfl⟩) isRf_r (fun H hH => ⟨by rw [← eZ]; rfl, hH⟩)
