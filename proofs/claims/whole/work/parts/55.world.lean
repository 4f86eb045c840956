/-! a new world's cells -/
def wix (n : Nm) : Nat := match n with
  | (10, _, _) => 0
  | (11, _, _) => 1
  | (12, _, _) => 2
  | (13, _, _) => 3
  | (20, _, 0) => 4
  | (21, _, 0) => 5
  | (20, _, 1) => 6
  | (21, _, 1) => 7
  | (20, _, _) => 8
  | (21, _, _) => 9
  | (14, _, _) => 10
  | (15, _, _) => 11
  | _ => 12
def wcap (n : Nm) : Nat := match n with
  | (21, _, 0) => 128
  | (21, _, 1) => 64
  | _ => 80
def wnL (w : Nat) : List Nm := [(10, w, 0), (11, w, 0), (12, w, 0), (13, w, 0), (20, w, 0), (21, w, 0), (20, w, 1), (21, w, 1), (20, w, 2), (21, w, 2), (14, w, 0), (15, w, 0), (16, w, 0)]
def isWn (w : Nat) (n : Nm) : Prop := own n = (10, w, 0)
noncomputable def adW (ad : Nm → Nat) (w Z : Nat) : Nm → Nat := fun n => cIf (isWn w n) (Z + wix n) (ad n)
noncomputable def mkW (g : Sg) (w : Nat) : Sg := (fun n => cIf (isWn w n) (fun _ => 0) (gI g n), gJ g, fun n => cIf (isWn w n) (fun _ => 0) (gA g n), fun n => cIf (isWn w n) (fun _ => 0) (gB g n), fun n => cIf (isWn w n) (wcap n) (gN g n), up3 (gF g) (10, w, 0) true, gZ g + 13, gU g + 564)
theorem wnL_of {w : Nat} {n : Nm} (h : isWn w n) : (wnL w)[wix n]? = some n := by
  unfold isWn own at h
  split at h
  all_goals first
    | (cases h; done)
    | (cases h; rfl)
theorem wnL_is {w j : Nat} {n : Nm} (h : (wnL w)[j]? = some n) : isWn w n ∧ wix n = j ∧ j < 13 := by
  have hj : j < 13 := by
    rcases Nat.lt_or_ge j 13 with h1 | h1
    · exact h1
    · rw [List.getElem?_eq_none (by exact h1)] at h; cases h
  obtain rfl | rfl | rfl | rfl | rfl | rfl | rfl | rfl | rfl | rfl | rfl | rfl | rfl : j = 0 ∨ j = 1 ∨ j = 2 ∨ j = 3 ∨ j = 4 ∨ j = 5 ∨ j = 6 ∨ j = 7 ∨ j = 8 ∨ j = 9 ∨ j = 10 ∨ j = 11 ∨ j = 12 := by omega
  all_goals (cases h; exact ⟨rfl, rfl, by omega⟩)
theorem al_mkW {g : Sg} {w : Nat} {n : Nm} : al (mkW g w) n ↔ al g n ∨ isWn w n := by
  unfold al
  show up3 (gF g) (10, w, 0) true (own n) = true ∧ _ ↔ _
  by_cases h : own n = (10, w, 0)
  · rw [h, up3_eq]
    exact ⟨fun _ => Or.inr h, fun _ => ⟨rfl, fun e => by cases e⟩⟩
  · rw [up3_ne h]
    exact ⟨fun q => Or.inl q, fun q => q.elim (fun a => a) (fun a => absurd a h)⟩
theorem wn_no {g : Sg} {w : Nat} {n : Nm} (hf : ¬ gF g (10, w, 0) = true) (hn : al g n) : ¬ isWn w n := fun h => by
  have := hn.1
  rw [h] at this
  exact hf this
def wcs (Z : Nat) : List (Nat × PE) := [(8, .inr (5, [.ref (Z + 1), .int (nI 0), .ref (Z + 2), .ref (Z + 3), .ref (Z + 8), .ref (Z + 10), .ref (Z + 11), .ref (Z + 12)])), (64, .inl (3, 64, .inr (.inr (.inr (.inr (fun _ => none)))))), (64, .inl (1, 64, .inr (.inl (fun _ => 0)))), (4, .inr (0, [.ref (Z + 4), .ref (Z + 6), .int (nI 0), .int (nI 0)])), (4, .inr (3, [.int (nI 8), .int (nI 1200), .ref (Z + 5), .int (nI 0)])), (8 * 16, .inl (0, 8 * 16, .inl (fun _ => 0))), (4, .inr (3, [.int (nI 4), .int (nI 20000), .ref (Z + 7), .int (nI 0)])), (4 * 16, .inl (0, 4 * 16, .inl (fun _ => 0))), (4, .inr (3, [.int (nI 5), .int (nI 4000), .ref (Z + 9), .int (nI 0)])), (5 * 16, .inl (0, 5 * 16, .inl (fun _ => 0))), (12, .inl (0, 12, .inl (fun _ => 0))), (64, .inl (0, 64, .inl (fun _ => 0))), (64, .inl (0, 64, .inl (fun _ => 0)))]
theorem adW_in {ad : Nm → Nat} {w Z : Nat} {n : Nm} (h : isWn w n) : adW ad w Z n = Z + wix n := cIf_t h
set_option maxRecDepth 20000 in
set_option maxHeartbeats 4000000 in
theorem wcs_cell {ad : Nm → Nat} {g : Sg} {w j : Nat} {n : Nm} (hn : noW g w) (h : (wnL w)[j]? = some n) : ∃ k, (wcs (gZ g))[j]? = some (k, cell (adW ad w (gZ g)) (mkW g w) n) := by
  have hj : j < 13 := (wnL_is h).2.2
  obtain rfl | rfl | rfl | rfl | rfl | rfl | rfl | rfl | rfl | rfl | rfl | rfl | rfl : j = 0 ∨ j = 1 ∨ j = 2 ∨ j = 3 ∨ j = 4 ∨ j = 5 ∨ j = 6 ∨ j = 7 ∨ j = 8 ∨ j = 9 ∨ j = 10 ∨ j = 11 ∨ j = 12 := by omega
  · cases h
    refine ⟨8, ?_⟩
    unfold cell
    rw [show gI (mkW g w) (10, w, 0) = fun _ => 0 from cIf_t rfl]
    simp only [cellOf, show adW ad w (gZ g) (10, w, 0) = gZ g + 0 from adW_in rfl, show adW ad w (gZ g) (11, w, 0) = gZ g + 1 from adW_in rfl, show adW ad w (gZ g) (12, w, 0) = gZ g + 2 from adW_in rfl, show adW ad w (gZ g) (13, w, 0) = gZ g + 3 from adW_in rfl, show adW ad w (gZ g) (20, w, 0) = gZ g + 4 from adW_in rfl, show adW ad w (gZ g) (21, w, 0) = gZ g + 5 from adW_in rfl, show adW ad w (gZ g) (20, w, 1) = gZ g + 6 from adW_in rfl, show adW ad w (gZ g) (21, w, 1) = gZ g + 7 from adW_in rfl, show adW ad w (gZ g) (20, w, 2) = gZ g + 8 from adW_in rfl, show adW ad w (gZ g) (21, w, 2) = gZ g + 9 from adW_in rfl, show adW ad w (gZ g) (14, w, 0) = gZ g + 10 from adW_in rfl, show adW ad w (gZ g) (15, w, 0) = gZ g + 11 from adW_in rfl, show adW ad w (gZ g) (16, w, 0) = gZ g + 12 from adW_in rfl]
    rfl
  · cases h
    refine ⟨64, ?_⟩
    unfold cell
    have e : (fun m => if gF (mkW g w) (30, w, m) = true then some (adW ad w (gZ g) (30, w, m)) else none) = fun _ => none := by
      funext m
      rw [if_neg]
      show ¬ up3 (gF g) (10, w, 0) true (30, w, m) = true
      rw [up3_ne (fun e => absurd (show (30 : Nat) = 10 from congrArg Prod.fst e) (by decide))]
      exact hn.2 m
    simp only [cellOf, e]
    rfl
  · cases h
    refine ⟨64, ?_⟩
    unfold cell
    rw [show gB (mkW g w) (12, w, 0) = fun _ => 0 from cIf_t rfl]
    rfl
  · cases h
    refine ⟨4, ?_⟩
    unfold cell
    rw [show gI (mkW g w) (13, w, 0) = fun _ => 0 from cIf_t rfl]
    simp only [cellOf, show adW ad w (gZ g) (10, w, 0) = gZ g + 0 from adW_in rfl, show adW ad w (gZ g) (11, w, 0) = gZ g + 1 from adW_in rfl, show adW ad w (gZ g) (12, w, 0) = gZ g + 2 from adW_in rfl, show adW ad w (gZ g) (13, w, 0) = gZ g + 3 from adW_in rfl, show adW ad w (gZ g) (20, w, 0) = gZ g + 4 from adW_in rfl, show adW ad w (gZ g) (21, w, 0) = gZ g + 5 from adW_in rfl, show adW ad w (gZ g) (20, w, 1) = gZ g + 6 from adW_in rfl, show adW ad w (gZ g) (21, w, 1) = gZ g + 7 from adW_in rfl, show adW ad w (gZ g) (20, w, 2) = gZ g + 8 from adW_in rfl, show adW ad w (gZ g) (21, w, 2) = gZ g + 9 from adW_in rfl, show adW ad w (gZ g) (14, w, 0) = gZ g + 10 from adW_in rfl, show adW ad w (gZ g) (15, w, 0) = gZ g + 11 from adW_in rfl, show adW ad w (gZ g) (16, w, 0) = gZ g + 12 from adW_in rfl]
    rfl
  · cases h
    refine ⟨4, ?_⟩
    unfold cell
    rw [show gI (mkW g w) (20, w, 0) = fun _ => 0 from cIf_t rfl]
    simp only [cellOf, show adW ad w (gZ g) (10, w, 0) = gZ g + 0 from adW_in rfl, show adW ad w (gZ g) (11, w, 0) = gZ g + 1 from adW_in rfl, show adW ad w (gZ g) (12, w, 0) = gZ g + 2 from adW_in rfl, show adW ad w (gZ g) (13, w, 0) = gZ g + 3 from adW_in rfl, show adW ad w (gZ g) (20, w, 0) = gZ g + 4 from adW_in rfl, show adW ad w (gZ g) (21, w, 0) = gZ g + 5 from adW_in rfl, show adW ad w (gZ g) (20, w, 1) = gZ g + 6 from adW_in rfl, show adW ad w (gZ g) (21, w, 1) = gZ g + 7 from adW_in rfl, show adW ad w (gZ g) (20, w, 2) = gZ g + 8 from adW_in rfl, show adW ad w (gZ g) (21, w, 2) = gZ g + 9 from adW_in rfl, show adW ad w (gZ g) (14, w, 0) = gZ g + 10 from adW_in rfl, show adW ad w (gZ g) (15, w, 0) = gZ g + 11 from adW_in rfl, show adW ad w (gZ g) (16, w, 0) = gZ g + 12 from adW_in rfl]
    rfl
  · cases h
    refine ⟨128, ?_⟩
    unfold cell
    rw [show gA (mkW g w) (21, w, 0) = fun _ => 0 from cIf_t rfl, show gN (mkW g w) (21, w, 0) = wcap (21, w, 0) from cIf_t rfl]
    rfl
  · cases h
    refine ⟨4, ?_⟩
    unfold cell
    rw [show gI (mkW g w) (20, w, 1) = fun _ => 0 from cIf_t rfl]
    simp only [cellOf, show adW ad w (gZ g) (10, w, 0) = gZ g + 0 from adW_in rfl, show adW ad w (gZ g) (11, w, 0) = gZ g + 1 from adW_in rfl, show adW ad w (gZ g) (12, w, 0) = gZ g + 2 from adW_in rfl, show adW ad w (gZ g) (13, w, 0) = gZ g + 3 from adW_in rfl, show adW ad w (gZ g) (20, w, 0) = gZ g + 4 from adW_in rfl, show adW ad w (gZ g) (21, w, 0) = gZ g + 5 from adW_in rfl, show adW ad w (gZ g) (20, w, 1) = gZ g + 6 from adW_in rfl, show adW ad w (gZ g) (21, w, 1) = gZ g + 7 from adW_in rfl, show adW ad w (gZ g) (20, w, 2) = gZ g + 8 from adW_in rfl, show adW ad w (gZ g) (21, w, 2) = gZ g + 9 from adW_in rfl, show adW ad w (gZ g) (14, w, 0) = gZ g + 10 from adW_in rfl, show adW ad w (gZ g) (15, w, 0) = gZ g + 11 from adW_in rfl, show adW ad w (gZ g) (16, w, 0) = gZ g + 12 from adW_in rfl]
    rfl
  · cases h
    refine ⟨64, ?_⟩
    unfold cell
    rw [show gA (mkW g w) (21, w, 1) = fun _ => 0 from cIf_t rfl, show gN (mkW g w) (21, w, 1) = wcap (21, w, 1) from cIf_t rfl]
    rfl
  · cases h
    refine ⟨4, ?_⟩
    unfold cell
    rw [show gI (mkW g w) (20, w, 2) = fun _ => 0 from cIf_t rfl]
    simp only [cellOf, show adW ad w (gZ g) (10, w, 0) = gZ g + 0 from adW_in rfl, show adW ad w (gZ g) (11, w, 0) = gZ g + 1 from adW_in rfl, show adW ad w (gZ g) (12, w, 0) = gZ g + 2 from adW_in rfl, show adW ad w (gZ g) (13, w, 0) = gZ g + 3 from adW_in rfl, show adW ad w (gZ g) (20, w, 0) = gZ g + 4 from adW_in rfl, show adW ad w (gZ g) (21, w, 0) = gZ g + 5 from adW_in rfl, show adW ad w (gZ g) (20, w, 1) = gZ g + 6 from adW_in rfl, show adW ad w (gZ g) (21, w, 1) = gZ g + 7 from adW_in rfl, show adW ad w (gZ g) (20, w, 2) = gZ g + 8 from adW_in rfl, show adW ad w (gZ g) (21, w, 2) = gZ g + 9 from adW_in rfl, show adW ad w (gZ g) (14, w, 0) = gZ g + 10 from adW_in rfl, show adW ad w (gZ g) (15, w, 0) = gZ g + 11 from adW_in rfl, show adW ad w (gZ g) (16, w, 0) = gZ g + 12 from adW_in rfl]
    rfl
  · cases h
    refine ⟨80, ?_⟩
    unfold cell
    rw [show gA (mkW g w) (21, w, 2) = fun _ => 0 from cIf_t rfl, show gN (mkW g w) (21, w, 2) = wcap (21, w, 2) from cIf_t rfl]
    rfl
  · cases h
    refine ⟨12, ?_⟩
    unfold cell
    rw [show gA (mkW g w) (14, w, 0) = fun _ => 0 from cIf_t rfl]
    rfl
  · cases h
    refine ⟨64, ?_⟩
    unfold cell
    rw [show gA (mkW g w) (15, w, 0) = fun _ => 0 from cIf_t rfl]
    rfl
  · cases h
    refine ⟨64, ?_⟩
    unfold cell
    rw [show gA (mkW g w) (16, w, 0) = fun _ => 0 from cIf_t rfl]
    rfl
theorem al_0 {g : Sg} {n : Nm} (hn : al g n) (h : n.1 = 0) : n = (0, 0, 0) := by
  obtain ⟨a, b, c⟩ := n
  dsimp only at h
  subst h
  match b, c, hn with
  | 0, 0, _ => rfl
  | 0, c + 1, hn => exact absurd rfl hn.2
  | b + 1, c, hn => exact absurd rfl hn.2
theorem cell_mkW {ad : Nm → Nat} {g : Sg} {w Z : Nat} {n : Nm} (hw : w ≠ 0) (hf : ¬ gF g (10, w, 0) = true) (hn : al g n) (hne : n ≠ (0, 0, 0)) : cell (adW ad w Z) (mkW g w) n = cell ad g n := by
  have hno := wn_no hf hn
  unfold cell
  rw [show gI (mkW g w) n = gI g n from cIf_f hno, show gA (mkW g w) n = gA g n from cIf_f hno, show gB (mkW g w) n = gB g n from cIf_f hno, show gN (mkW g w) n = gN g n from cIf_f hno]
  refine cellOf_cg (fun n' hn' => cIf_f ((refs_al hn hn').elim (fun a => wn_no hf a) (fun e q => by subst e; unfold isWn own at q; simp at q; omega))) (fun h0 => absurd (al_0 hn h0) hne) (fun h11 m' => ?_)
  refine ⟨by show up3 (gF g) (10, w, 0) true (30, n.2.1, m') = _; exact up3_ne (fun e => absurd (show (30 : Nat) = 10 from congrArg Prod.fst e) (by decide)), fun _ => cIf_f (fun q => by unfold isWn own at q; simp at q)⟩
theorem bdM_0 {F : Nm → Bool} {w : Nat} (h : ∀ m, ¬ F (30, w, m) = true) : ∀ k, bdM F w k = 400 * k
  | 0 => rfl
  | k + 1 => by unfold bdM; rw [bdM_0 h k, if_neg (h k)]; omega
theorem mkW_F {g : Sg} {w k a b : Nat} (h : k ≠ 10 ∨ a ≠ w) : gF (mkW g w) (k, a, b) = gF g (k, a, b) := up3_ne (fun e => by
  have e1 : k = 10 := congrArg Prod.fst e
  have e2 : a = w := congrArg (fun x : Nm => x.2.1) e
  omega)
theorem mkW_bd {g : Sg} {w : Nat} (hn : noW g w) : Bd (mkW g w) w + 564 ≤ 360000 := by
  have e0 : gN (mkW g w) (21, w, 0) = 128 := cIf_t rfl
  have e1 : gN (mkW g w) (21, w, 1) = 64 := cIf_t rfl
  have e2 : gN (mkW g w) (21, w, 2) = 80 := cIf_t rfl
  have e3 : bdM (gF (mkW g w)) w 64 = 400 * 64 := bdM_0 (fun m => by rw [mkW_F (Or.inl (by omega))]; exact hn.2 m) 64
  unfold Bd bdR
  rw [e0, e1, e2, e3]
  decide
theorem mkW_sm {g : Sg} {w w' : Nat} (h : w' ≠ w) : SmW w' g (mkW g w) := fun k b h1 h2 => by
  have hno : ¬ isWn w (k, w', b) := fun q => by
    unfold isWn own at q
    split at q
    all_goals first
      | (cases q; done)
      | (cases q; rename_i he; exact h (congrArg (fun x : Nm => x.2.1) he).symm)
      | (simp at q; done)
      | (rename_i he; have e2 := congrArg (fun x : Nm => x.2.1) he; have e3 := congrArg (fun x : Nm => x.2.1) q; dsimp only at e2 e3; omega)
  exact ⟨cIf_f hno, rfl, cIf_f hno, cIf_f hno, cIf_f hno, mkW_F (Or.inr h)⟩
theorem mkW_rx {g : Sg} {w : Nat} (hn : noW g w) : RX (mkW g w) w A0 [] := by
  refine RX_A0 (al_mkW.mpr (Or.inr rfl)) (fun r hr => ?_) ?_ ?_ ?_ (fun a _ => ?_) (fun k _ => ?_) (fun m _ ha => ?_) (fun r hr => ?_)
  · obtain rfl | rfl | rfl : r = 0 ∨ r = 1 ∨ r = 2 := by omega
    · rw [show gI (mkW g w) (20, w, 0) = fun _ => 0 from cIf_t rfl]; rfl
    · rw [show gI (mkW g w) (20, w, 1) = fun _ => 0 from cIf_t rfl]; rfl
    · rw [show gI (mkW g w) (20, w, 2) = fun _ => 0 from cIf_t rfl]; rfl
  · rw [show gI (mkW g w) (13, w, 0) = fun _ => 0 from cIf_t rfl]; rfl
  · rw [show gI (mkW g w) (13, w, 0) = fun _ => 0 from cIf_t rfl]; rfl
  · rw [show gI (mkW g w) (10, w, 0) = fun _ => 0 from cIf_t rfl]; rfl
  · rw [show gB (mkW g w) (12, w, 0) = fun _ => 0 from cIf_t rfl]
  · rw [show gA (mkW g w) (14, w, 0) = fun _ => 0 from cIf_t rfl]
  · have := ha.1
    rw [show own (30, w, m) = (30, w, m) from rfl, mkW_F (Or.inl (by omega))] at this
    exact absurd this (hn.2 m)
  · obtain rfl | rfl | rfl : r = 0 ∨ r = 1 ∨ r = 2 := by omega
    · rw [show gN (mkW g w) (21, w, 0) = 128 from cIf_t rfl]; decide
    · rw [show gN (mkW g w) (21, w, 1) = 64 from cIf_t rfl]; decide
    · rw [show gN (mkW g w) (21, w, 2) = 80 from cIf_t rfl]; decide
theorem mkW_o {g : Sg} {w k a b : Nat} (h : k < 10 ∨ 30 ≤ k) : gI (mkW g w) (k, a, b) = gI g (k, a, b) ∧ gJ (mkW g w) (k, a, b) = gJ g (k, a, b) ∧ gA (mkW g w) (k, a, b) = gA g (k, a, b) ∧ gB (mkW g w) (k, a, b) = gB g (k, a, b) ∧ gN (mkW g w) (k, a, b) = gN g (k, a, b) ∧ gF (mkW g w) (k, a, b) = gF g (k, a, b) := by
  have hno : ¬ isWn w (k, a, b) := fun q => by
    unfold isWn own at q
    split at q
    all_goals first
      | (cases q; done)
      | (simp at q; done)
      | (rename_i he; have e2 := congrArg (fun x : Nm => x.1) he; dsimp only at e2; omega)
  exact ⟨cIf_f hno, rfl, cIf_f hno, cIf_f hno, cIf_f hno, mkW_F (Or.inl (by omega))⟩
theorem mkW_ad {ad : Nm → Nat} {g : Sg} {w Z : Nat} {n : Nm} (hf : ¬ gF g (10, w, 0) = true) (hn : al g n) : adW ad w Z n = ad n := cIf_f (wn_no hf hn)
theorem mkW_c {ad : Nm → Nat} {g : Sg} {w : Nat} (hf : ¬ gF g (10, w, 0) = true) : EqC ad g (adW ad w (gZ g)) (mkW g w) := ⟨fun n hn => al_mkW.mpr (Or.inl hn), fun n hn _ => mkW_ad hf hn, fun n hn => by obtain ⟨k, a, b⟩ := n; exact mkW_o (Or.inr (by have : 40 ≤ k := hn; omega))⟩
theorem mkW_cst {sz w : Nat} {g : Sg} (hw : w = 1 ∨ w = 2) (hn : noW g w) (hc : Cst sz g) : Cst sz (mkW g w) := by
  have hb := mkW_bd hn
  have h1 : Pw g w = 360000 := if_neg hn.1
  have h2 : Pw (mkW g w) w = Bd (mkW g w) w := if_pos (show up3 (gF g) (10, w, 0) true (10, w, 0) = true from up3_eq)
  have h3 : phY (mkW g w) = phY g := by unfold phY; rw [(mkW_o (Or.inl (by omega))).2.2.2.2.1]
  have ho : ∀ w', w' ≠ w → Pw (mkW g w) w' = Pw g w' := fun w' h => (mkW_sm h).pw
  have eU : gU (mkW g w) = gU g + 564 := rfl
  have eZ : gZ (mkW g w) = gZ g + 13 := rfl
  obtain ⟨c1, c2⟩ := hc
  unfold Cst
  rw [h3, eU, eZ]
  rcases hw with rfl | rfl
  · rw [ho 0 (by omega), ho 2 (by omega)]
    constructor <;> omega
  · rw [ho 0 (by omega), ho 1 (by omega)]
    constructor <;> omega
theorem mkW_ry {g : Sg} {w : Nat} {Y : List Int32} (h : RY g Y) : RY (mkW g w) Y := by
  obtain ⟨a1, a2, a3, a4, a5, a6⟩ := h
  have e3 := mkW_o (g := g) (w := w) (k := 3) (a := 0) (b := 0) (Or.inl (by omega))
  have e4 := mkW_o (g := g) (w := w) (k := 4) (a := 0) (b := 0) (Or.inl (by omega))
  exact ⟨al_mkW.mpr (Or.inl a1), by rw [e3.1]; exact a2, by rw [e4.2.2.2.2.1]; exact a3, by rw [e4.2.2.2.2.1]; exact a4, by rw [e4.2.2.2.2.1]; exact a5, fun i v hv => by rw [e4.2.2.1]; exact a6 i v hv⟩
theorem mkW_rc2 {g : Sg} {S : CS} (hn : noW g 2) (hR : RC g S) : RC (mkW g 2) S := by
  obtain ⟨r1, ⟨r2, r3⟩, r4, r5, r6, r7, r8, r9⟩ := hR
  exact ⟨al_mkW.mpr (Or.inl r1), ⟨r2, (mkW_sm (by omega)).rx r3⟩, (mkW_sm (by omega)).kp r4, Or.inr ⟨_, _, mkW_rx hn⟩, fun k hk => by rw [(mkW_o (Or.inl (by omega))).2.2.1]; exact r6 k hk, by rw [(mkW_o (Or.inl (by omega))).1]; exact r7, mkW_ry r8, fun i hi => by rw [(mkW_o (Or.inl (by omega))).2.2.1]; exact r9 i hi⟩
theorem mkW_rc1 {g : Sg} {S : CS} (hn : noW g 1) (hR : RC g S) : RC (mkW g 1) (S.1, some [], S.2.2) := by
  obtain ⟨r1, ⟨r2, r3⟩, r4, r5, r6, r7, r8, r9⟩ := hR
  exact ⟨al_mkW.mpr (Or.inl r1), ⟨r2, (mkW_sm (by omega)).rx r3⟩, ⟨okH_nil, mkW_rx hn⟩, (mkW_sm (by omega)).bs r5, fun k hk => by rw [(mkW_o (Or.inl (by omega))).2.2.1]; exact r6 k hk, by rw [(mkW_o (Or.inl (by omega))).1]; exact r7, mkW_ry r8, fun i hi => by rw [(mkW_o (Or.inl (by omega))).2.2.1]; exact r9 i hi⟩
set_option maxRecDepth 20000 in
set_option maxHeartbeats 4000000 in
theorem t_mk1 {ad : Nm → Nat} {g : Sg} {L : PLoc} {Q : Option Value → PH → Prop} (hr : al g (0, 0, 0)) (hn : noW g 1) (hL : L[0]? = some (some (.ref (ad (0, 0, 0))))) (hk : PP mX6_image 18 L [] (Rel (adW ad 1 (gZ g)) (mkW g 1)) Q) : PP mX6_image 7 L [] (Rel ad g) Q := by
  refine pp_aload_n dX6_image_7 hL isRf_r (q := 8) rfl ?_
  refine PP.at (fun G hG => ?_)
  have eZ : G.1 = gZ g := hG.1
  refine px_new (a := G.1 + 0) (l' := [(8, .inr (5, [.null, .int 0, .null, .null, .null, .null, .null, .null]))]) dX6_image_8 ln_X6_7 rfl rfl (q := 11) rfl ?_
  refine pp_dup dX6_image_11 rfl (q := 12) rfl ?_
  refine px_callI (st := [.ref (G.1 + 0), .ref (ad (0, 0, 0))]) (l0 := []) (As := []) (l' := wcs G.1) (s := fun a => wcs a) rfl dX6_image_12 lk_X6_9 (by rfl) (by exact Nat.le_of_ble_eq_true rfl) (by decide) (by decide) (by exact Nat.le_of_ble_eq_true rfl) (by rfl) (fun G' => i_world G') rfl (q := 15) rfl ?_
  have hlo : ∀ n, al g n → (phX G (wcs G.1)).2.2 (ad n) = some (cell ad g n) := fun n hn => by rw [phX_lt (by rw [eZ]; exact (hG.2.2.1 n hn).2)]; exact hG.c hn
  refine pp_put (I' := Rel (adW ad 1 (gZ g)) (mkW g 1)) (k := 5) (v := .ref (G.1 + 0)) dX6_image_15 fl_X6_43 (fun H hH => by rw [hH]; exact hlo _ hr) (by exact Nat.le_of_ble_eq_true rfl) rfl rfl (fun H hH => ?_) (q := 18) rfl hk
  rw [hH]
  have hup : ∀ a, a ≠ ad (0, 0, 0) → ∀ e, (phUp (phX G (wcs G.1)) (ad (0, 0, 0)) e).2.2 a = (phX G (wcs G.1)).2.2 a := fun a ha e => if_neg ha
  refine Rel.mk2 (ns := wnL 1) hG ?_ ?_ ?_ (fun n hn => ?_) (fun n hn2 => ?_) (fun j n hj => ?_)
  · show G.1 + 13 = gZ g + 13; rw [eZ]
  · show G.2.1 + 564 = gU g + 564; rw [hG.2.1]
  · show gZ g ≤ gZ g + 13; omega
  · rcases al_mkW.mp hn with h | h
    · exact Or.inl h
    · exact Or.inr ⟨_, wnL_of h⟩
  · refine ⟨mkW_ad hn.1 hn2, ?_⟩
    by_cases e0 : n = (0, 0, 0)
    · subst e0
      show (if ad (0, 0, 0) = ad (0, 0, 0) then _ else _) = _
      rw [if_pos rfl]
      unfold cell
      have a1 : ∀ k, (k = 1 ∨ k = 3 ∨ k = 5 ∨ k = 6) → adW ad 1 (gZ g) (k, 0, 0) = ad (k, 0, 0) := fun k hk => cIf_f (fun q => by rcases hk with rfl | rfl | rfl | rfl <;> cases q)
      have a10 : adW ad 1 (gZ g) (10, 0, 0) = ad (10, 0, 0) := cIf_f (fun q => by cases q)
      have aw : adW ad 1 (gZ g) (10, 1, 0) = gZ g + 0 := cIf_t rfl
      have ao : adW ad 1 (gZ g) (10, 2, 0) = ad (10, 2, 0) := cIf_f (fun q => by cases q)
      have fw : gF (mkW g 1) (10, 1, 0) = true := rfl
      have fo : gF (mkW g 1) (10, 2, 0) = gF g (10, 2, 0) := mkW_F (Or.inr (by omega))
      simp only [cellOf, a1 1 (by omega), a1 3 (by omega), a1 5 (by omega), a1 6 (by omega), a10, aw, ao, fw, fo, eZ]
      rfl
    · rw [hup _ (fun e => e0 (hG.2.2.2 _ _ hn2 hr e)), hlo n hn2, cell_mkW (by omega) hn.1 hn2 e0]
  · obtain ⟨h1, h2, h3⟩ := wnL_is hj
    obtain ⟨k, hk2⟩ := wcs_cell (ad := ad) (g := g) hn hj
    refine ⟨?_, by show gZ g + j < gZ g + 13; omega, ?_⟩
    · rw [adW_in h1, h2]
    · rw [← eZ, hup _ (by have := (hG.2.2.1 _ hr).2; rw [eZ]; omega)]
      rw [← eZ] at hk2
      exact phX_at hk2
set_option maxRecDepth 20000 in
set_option maxHeartbeats 4000000 in
theorem t_mk2 {ad : Nm → Nat} {g : Sg} {L : PLoc} {Q : Option Value → PH → Prop} (hr : al g (0, 0, 0)) (hn : noW g 2) (hL : L[0]? = some (some (.ref (ad (0, 0, 0))))) (hk : PP mX6_replay 18 L [] (Rel (adW ad 2 (gZ g)) (mkW g 2)) Q) : PP mX6_replay 7 L [] (Rel ad g) Q := by
  refine pp_aload_n dX6_replay_7 hL isRf_r (q := 8) rfl ?_
  refine PP.at (fun G hG => ?_)
  have eZ : G.1 = gZ g := hG.1
  refine px_new (a := G.1 + 0) (l' := [(8, .inr (5, [.null, .int 0, .null, .null, .null, .null, .null, .null]))]) dX6_replay_8 ln_X6_7 rfl rfl (q := 11) rfl ?_
  refine pp_dup dX6_replay_11 rfl (q := 12) rfl ?_
  refine px_callI (st := [.ref (G.1 + 0), .ref (ad (0, 0, 0))]) (l0 := []) (As := []) (l' := wcs G.1) (s := fun a => wcs a) rfl dX6_replay_12 lk_X6_9 (by rfl) (by exact Nat.le_of_ble_eq_true rfl) (by decide) (by decide) (by exact Nat.le_of_ble_eq_true rfl) (by rfl) (fun G' => i_world G') rfl (q := 15) rfl ?_
  have hlo : ∀ n, al g n → (phX G (wcs G.1)).2.2 (ad n) = some (cell ad g n) := fun n hn => by rw [phX_lt (by rw [eZ]; exact (hG.2.2.1 n hn).2)]; exact hG.c hn
  refine pp_put (I' := Rel (adW ad 2 (gZ g)) (mkW g 2)) (k := 6) (v := .ref (G.1 + 0)) dX6_replay_15 fl_X6_46 (fun H hH => by rw [hH]; exact hlo _ hr) (by exact Nat.le_of_ble_eq_true rfl) rfl rfl (fun H hH => ?_) (q := 18) rfl hk
  rw [hH]
  have hup : ∀ a, a ≠ ad (0, 0, 0) → ∀ e, (phUp (phX G (wcs G.1)) (ad (0, 0, 0)) e).2.2 a = (phX G (wcs G.1)).2.2 a := fun a ha e => if_neg ha
  refine Rel.mk2 (ns := wnL 2) hG ?_ ?_ ?_ (fun n hn => ?_) (fun n hn2 => ?_) (fun j n hj => ?_)
  · show G.1 + 13 = gZ g + 13; rw [eZ]
  · show G.2.1 + 564 = gU g + 564; rw [hG.2.1]
  · show gZ g ≤ gZ g + 13; omega
  · rcases al_mkW.mp hn with h | h
    · exact Or.inl h
    · exact Or.inr ⟨_, wnL_of h⟩
  · refine ⟨mkW_ad hn.1 hn2, ?_⟩
    by_cases e0 : n = (0, 0, 0)
    · subst e0
      show (if ad (0, 0, 0) = ad (0, 0, 0) then _ else _) = _
      rw [if_pos rfl]
      unfold cell
      have a1 : ∀ k, (k = 1 ∨ k = 3 ∨ k = 5 ∨ k = 6) → adW ad 2 (gZ g) (k, 0, 0) = ad (k, 0, 0) := fun k hk => cIf_f (fun q => by rcases hk with rfl | rfl | rfl | rfl <;> cases q)
      have a10 : adW ad 2 (gZ g) (10, 0, 0) = ad (10, 0, 0) := cIf_f (fun q => by cases q)
      have aw : adW ad 2 (gZ g) (10, 2, 0) = gZ g + 0 := cIf_t rfl
      have ao : adW ad 2 (gZ g) (10, 1, 0) = ad (10, 1, 0) := cIf_f (fun q => by cases q)
      have fw : gF (mkW g 2) (10, 2, 0) = true := rfl
      have fo : gF (mkW g 2) (10, 1, 0) = gF g (10, 1, 0) := mkW_F (Or.inr (by omega))
      simp only [cellOf, a1 1 (by omega), a1 3 (by omega), a1 5 (by omega), a1 6 (by omega), a10, aw, ao, fw, fo, eZ]
      rfl
    · rw [hup _ (fun e => e0 (hG.2.2.2 _ _ hn2 hr e)), hlo n hn2, cell_mkW (by omega) hn.1 hn2 e0]
  · obtain ⟨h1, h2, h3⟩ := wnL_is hj
    obtain ⟨k, hk2⟩ := wcs_cell (ad := ad) (g := g) hn hj
    refine ⟨?_, by show gZ g + j < gZ g + 13; omega, ?_⟩
    · rw [adW_in h1, h2]
    · rw [← eZ, hup _ (by have := (hG.2.2.1 _ hr).2; rw [eZ]; omega)]
      rw [← eZ] at hk2
      exact phX_at hk2
