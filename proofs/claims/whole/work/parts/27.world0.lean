/-! members by their values -/
def isSl (k : Nat) : Prop := k = 1 ∨ k = 2 ∨ k = 4 ∨ k = 5 ∨ k = 6 ∨ k = 7 ∨ k = 14 ∨ k = 15
/-- the store holds the member m of world w -/
def RM (g : Sg) (w m : Nat) (M : Me) : Prop := al g (30, w, m) ∧ (∀ k, isSl k → gI g (30, w, m) k = M.1 k) ∧ gJ g (30, w, m) = M.2.1 ∧ (∀ k, 31 ≤ k → k ≤ 35 → gA g (k, w, m) = M.2.2 k) ∧ (∃ n, M.1 14 = nI n ∧ n ≤ 64 ∧ ∀ j, j < n → gA g (36, w, m) j = M.2.2 36 j) ∧ ∀ k j, 31 ≤ k → k ≤ 35 → 64 ≤ j → M.2.2 k j = 0
def memS (w m : Nat) : Nm → Prop := fun n => n.2.1 = w ∧ n.2.2 = m ∧ 30 ≤ n.1 ∧ n.1 ≤ 36
def wS (w : Nat) : Nm → Prop := fun n => n.2.1 = w ∧ 10 ≤ n.1 ∧ n.1 ≤ 36 ∧ (n.1 ≠ 20 ∧ n.1 ≠ 21 ∨ n.2.2 < 2)
theorem memS_w {w m : Nat} {n : Nm} (h : memS w m n) : wS w n := ⟨h.1, by have := h.2.2.1; omega, h.2.2.2, Or.inl (by have := h.2.2.1; omega)⟩
theorem bkS_w {w : Nat} {n : Nm} (h : bkS w n) : wS w n := ⟨h.1, by have := h.2.1; omega, by have := h.2.1; omega, Or.inr h.2.2⟩
def meSI (M : Me) (k : Nat) (v : Int32) : Me := (upd M.1 k v, M.2)
def meSJ (M : Me) (v : Int64) : Me := (M.1, v, M.2.2)
def meEn (M : Me) (x : Nat) (kind t l : Int32) : Me := (M.1, M.2.1, fun k => if k = 31 then upd (M.2.2 31) x kind else if k = 32 then upd (M.2.2 32) x t else if k = 33 then upd (M.2.2 33) x (nI 0) else if k = 34 then upd (M.2.2 34) x (M.1 5) else if k = 35 then upd (M.2.2 35) x l else M.2.2 k)
def meStop (M : Me) : Me := meSI (meSI (meSI (meSI M 6 (-1)) 7 (-1)) 14 (nI 0)) 15 (nI 0)
def meZ (M : Me) : Me := (M.1, M.2.1, fun k => if 31 ≤ k ∧ k ≤ 35 then (fun _ => 0) else M.2.2 k)
def meFgt (m : Nat) (M : Me) : Me := meEn (meStop (meZ M)) m (nI 1) ((meStop (meZ M)).1 4) (-1)
def meBgn (m : Nat) (sd : Int64) (M : Me) : Me := meFgt m (meSI (meSI (meSJ (meSI (meSI M 1 (nI 1)) 2 (nI 0)) sd) 4 (nI 1)) 5 (nI 0))
def meRai (m : Nat) (t : Int32) (M : Me) : Me := meEn (meSI M 4 t) m (nI 1) t (-1)
def meAns (x : Int32) (M : Me) : Me := if M.1 6 = x then (if M.1 7 = x then meSI (meSI M 6 (-1)) 7 (-1) else meSI M 6 (-1)) else (if M.1 7 = x then meSI M 7 (-1) else M)
def meMkR (m : Nat) (M : Me) : Me := meSI (meSJ ((meSI M 14 (nI (sel (gsel (M.2.2 31) m (-1)) 64).length)).1, (meSI M 14 (nI (sel (gsel (M.2.2 31) m (-1)) 64).length)).2.1, fun k => if k = 36 then (mkR (M.2.2 31) (M.2.2 36) m M.2.1).1 else M.2.2 k) (mkR (M.2.2 31) (M.2.2 36) m M.2.1).2) 15 (nI 0)
def meStp (M : Me) (o : Option Nat) : Me := match o with
  | some i => meSI M 15 (nI (i + 1))
  | none => M
theorem RM.sc {g : Sg} {w m : Nat} {M : Me} (h : RM g w m M) {k : Nat} (hk : isSl k) : gI g (30, w, m) k = M.1 k := h.2.1 k hk
theorem RM.ar {g : Sg} {w m : Nat} {M : Me} (h : RM g w m M) {k : Nat} (h1 : 31 ≤ k) (h2 : k ≤ 35) : gA g (k, w, m) = M.2.2 k := h.2.2.2.1 k h1 h2
theorem RM.eqx {S : Nm → Prop} {g g' : Sg} {w m : Nat} {M : Me} (h : RM g w m M) (he : EqX S g g') (hs : ∀ k, 30 ≤ k → k ≤ 36 → ¬ S (k, w, m)) : RM g' w m M := by
  obtain ⟨h1, h2, h3, h4, ⟨n, h5, h6, h7⟩, h8⟩ := h
  have e := fun k a b => he.1 (k, w, m) (hs k a b)
  refine ⟨he.al' h1, fun k hk => ?_, ?_, fun k a b => ?_, ⟨n, h5, h6, fun j hj => ?_⟩, h8⟩
  · rw [(e 30 (by omega) (by omega)).1]; exact h2 k hk
  · rw [(e 30 (by omega) (by omega)).2.1]; exact h3
  · rw [(e k (by omega) (by omega)).2.2.1]; exact h4 k a b
  · rw [(e 36 (by omega) (by omega)).2.2.1]; exact h7 j hj
theorem RM_sI {g : Sg} {w m k : Nat} {M : Me} {x : Int32} (h : RM g w m M) (hk : k ≠ 14) : RM (sI g (30, w, m) k x) w m (meSI M k x) := by
  obtain ⟨h1, h2, h3, h4, ⟨n, h5, h6, h7⟩, h8⟩ := h
  refine ⟨h1, fun k' hk' => ?_, h3, h4, ⟨n, ?_, h6, h7⟩, h8⟩
  · rw [gI_sI]
    show _ = upd M.1 k x k'
    unfold upd
    by_cases e : k' = k
    · rw [if_pos ⟨rfl, e⟩, if_pos e]
    · rw [if_neg (fun q => e q.2), if_neg e]; exact h2 k' hk'
  · show upd M.1 k x 14 = _
    unfold upd
    rw [if_neg (Ne.symm hk)]; exact h5
theorem RM_s14 {g : Sg} {w m : Nat} {M : Me} (h : RM g w m M) : RM (sI g (30, w, m) 14 (nI 0)) w m (meSI M 14 (nI 0)) := by
  obtain ⟨h1, h2, h3, h4, ⟨n, h5, h6, h7⟩, h8⟩ := h
  refine ⟨h1, fun k' hk' => ?_, h3, h4, ⟨0, ?_, by omega, fun j hj => by omega⟩, h8⟩
  · rw [gI_sI]
    show _ = upd M.1 14 _ k'
    unfold upd
    by_cases e : k' = 14
    · rw [if_pos ⟨rfl, e⟩, if_pos e]
    · rw [if_neg (fun q => e q.2), if_neg e]; exact h2 k' hk'
  · rfl
theorem RM_sJ {g : Sg} {w m : Nat} {M : Me} {x : Int64} (h : RM g w m M) : RM (sJ g (30, w, m) x) w m (meSJ M x) := by
  obtain ⟨h1, h2, h3, h4, h5, h8⟩ := h
  exact ⟨h1, h2, by rw [gJ_sJ, if_pos rfl]; rfl, h4, h5, h8⟩
theorem upd_z {f : Nat → Int32} {x : Nat} {v : Int32} {j : Nat} (hx : x < 64) (hj : 64 ≤ j) (h : f j = 0) : upd f x v j = 0 := by
  unfold upd; rw [if_neg (by omega)]; exact h
theorem enG_31 {g : Sg} {w m x : Nat} {kind t l : Int32} : gA (enG g w m x kind t l) (31, w, m) = upd (gA g (31, w, m)) x kind := by simp [enG, gA_sA]
theorem enG_32 {g : Sg} {w m x : Nat} {kind t l : Int32} : gA (enG g w m x kind t l) (32, w, m) = upd (gA g (32, w, m)) x t := by simp [enG, gA_sA]
theorem enG_33 {g : Sg} {w m x : Nat} {kind t l : Int32} : gA (enG g w m x kind t l) (33, w, m) = upd (gA g (33, w, m)) x (nI 0) := by simp [enG, gA_sA]
theorem enG_34 {g : Sg} {w m x : Nat} {kind t l : Int32} : gA (enG g w m x kind t l) (34, w, m) = upd (gA g (34, w, m)) x (gI g (30, w, m) 5) := by simp [enG, gA_sA]
theorem enG_35 {g : Sg} {w m x : Nat} {kind t l : Int32} : gA (enG g w m x kind t l) (35, w, m) = upd (gA g (35, w, m)) x l := by simp [enG, gA_sA]
theorem fgG_31 {g : Sg} {w m : Nat} : gA (fgG g w m) (31, w, m) = fillf (gA g (31, w, m)) (nI 0) 64 := by simp [fgG, gA_sA]
theorem fgG_32 {g : Sg} {w m : Nat} : gA (fgG g w m) (32, w, m) = fillf (gA g (32, w, m)) (nI 0) 64 := by simp [fgG, gA_sA]
theorem fgG_33 {g : Sg} {w m : Nat} : gA (fgG g w m) (33, w, m) = fillf (gA g (33, w, m)) (nI 0) 64 := by simp [fgG, gA_sA]
theorem fgG_34 {g : Sg} {w m : Nat} : gA (fgG g w m) (34, w, m) = fillf (gA g (34, w, m)) (nI 0) 64 := by simp [fgG, gA_sA]
theorem fgG_35 {g : Sg} {w m : Nat} : gA (fgG g w m) (35, w, m) = fillf (gA g (35, w, m)) (nI 0) 64 := by simp [fgG, gA_sA]
theorem RM_en {g : Sg} {w m x : Nat} {M : Me} {kind t l : Int32} (h : RM g w m M) (hx : x < 64) : RM (enG g w m x kind t l) w m (meEn M x kind t l) := by
  obtain ⟨h1, h2, h3, h4, h5, h8⟩ := h
  refine ⟨h1, h2, h3, fun k a b => ?_, ?_, fun k j a b hj => ?_⟩
  · obtain rfl | rfl | rfl | rfl | rfl : k = 31 ∨ k = 32 ∨ k = 33 ∨ k = 34 ∨ k = 35 := by omega
    · rw [enG_31, h4 31 a b]; rfl
    · rw [enG_32, h4 32 a b]; rfl
    · rw [enG_33, h4 33 a b]; rfl
    · rw [enG_34, h4 34 a b, h2 5 (by unfold isSl; omega)]; rfl
    · rw [enG_35, h4 35 a b]; rfl
  · exact h5
  · obtain rfl | rfl | rfl | rfl | rfl : k = 31 ∨ k = 32 ∨ k = 33 ∨ k = 34 ∨ k = 35 := by omega
    all_goals exact upd_z hx hj (h8 _ j a b hj)
theorem enG_eqx {g : Sg} {w m x : Nat} {kind t l : Int32} : EqX (memS w m) g (enG g w m x kind t l) := by
  have hh : ∀ k, 30 ≤ k → k ≤ 36 → memS w m (k, w, m) := fun k a b => ⟨rfl, rfl, a, b⟩
  exact ((((EqX.rf.sA (hh 31 (by omega) (by omega))).sA (hh 32 (by omega) (by omega))).sA (hh 33 (by omega) (by omega))).sA (hh 34 (by omega) (by omega))).sA (hh 35 (by omega) (by omega))
theorem EqX.en {S : Nm → Prop} {g g' : Sg} {w m x : Nat} {kind t l : Int32} (h : EqX S g g') (hS : ∀ n, memS w m n → S n) : EqX S g (enG g' w m x kind t l) := h.tr (enG_eqx.mono hS)
theorem RM_stop {g : Sg} {w m : Nat} {M : Me} (h : RM g w m M) : RM (stG g w m) w m (meStop M) := RM_sI (RM_s14 (RM_sI (RM_sI h (by decide)) (by decide))) (by decide)
theorem fillf_z {f : Nat → Int32} (h : ∀ j, 64 ≤ j → f j = 0) : fillf f (nI 0) 64 = fun _ => 0 := by
  funext j
  unfold fillf
  by_cases hj : j < 64
  · rw [if_pos hj]; rfl
  · rw [if_neg hj]; exact h j (by omega)
theorem RM_Z {g : Sg} {w m : Nat} {M : Me} (h1 : al g (30, w, m)) (h2 : ∀ k, isSl k → gI g (30, w, m) k = M.1 k) (h3 : gJ g (30, w, m) = M.2.1) (hz : ∀ k j, 31 ≤ k → k ≤ 35 → 64 ≤ j → gA g (k, w, m) j = 0) : RM (stG (fgG g w m) w m) w m (meStop (meZ M)) := by
  have ha : ∀ k, 31 ≤ k → k ≤ 35 → gA (stG (fgG g w m) w m) (k, w, m) = fun _ => 0 := by
    intro k a b
    obtain rfl | rfl | rfl | rfl | rfl : k = 31 ∨ k = 32 ∨ k = 33 ∨ k = 34 ∨ k = 35 := by omega
    · show gA (fgG g w m) (31, w, m) = _; rw [fgG_31]; exact fillf_z (fun j hj => hz 31 j a b hj)
    · show gA (fgG g w m) (32, w, m) = _; rw [fgG_32]; exact fillf_z (fun j hj => hz 32 j a b hj)
    · show gA (fgG g w m) (33, w, m) = _; rw [fgG_33]; exact fillf_z (fun j hj => hz 33 j a b hj)
    · show gA (fgG g w m) (34, w, m) = _; rw [fgG_34]; exact fillf_z (fun j hj => hz 34 j a b hj)
    · show gA (fgG g w m) (35, w, m) = _; rw [fgG_35]; exact fillf_z (fun j hj => hz 35 j a b hj)
  have e1 : ∀ k, (meStop (meZ M)).1 k = upd (upd (upd (upd M.1 6 (-1)) 7 (-1)) 14 (nI 0)) 15 (nI 0) k := fun k => rfl
  refine ⟨h1, fun k hk => ?_, h3, fun k a b => ?_, ⟨0, rfl, by omega, fun j hj => by omega⟩, fun k j a b hj => ?_⟩
  · rw [e1]
    unfold stG
    rw [gI_sI, gI_sI, gI_sI, gI_sI]
    have hg : gI (fgG g w m) (30, w, m) k = M.1 k := h2 k hk
    rw [hg]
    simp [upd]
  · rw [ha k a b]
    show _ = if 31 ≤ k ∧ k ≤ 35 then _ else _
    rw [if_pos ⟨a, b⟩]
  · show (if 31 ≤ k ∧ k ≤ 35 then (fun _ => (0 : Int32)) else M.2.2 k) j = 0
    rw [if_pos ⟨a, b⟩]
theorem faG_RM {g : Sg} {w m : Nat} {M : Me} (hm : m < 64) (h1 : al g (30, w, m)) (h2 : ∀ k, isSl k → gI g (30, w, m) k = M.1 k) (h3 : gJ g (30, w, m) = M.2.1) (hz : ∀ k j, 31 ≤ k → k ≤ 35 → 64 ≤ j → gA g (k, w, m) j = 0) : RM (faG g w m) w m (meFgt m M) := by
  have hR := RM_Z h1 h2 h3 hz
  unfold faG meFgt
  rw [hR.2.1 4 (by unfold isSl; omega)]
  exact RM_en hR hm
theorem faG_eqx {g : Sg} {w m : Nat} : EqX (memS w m) g (faG g w m) := by
  have hh : ∀ k, 30 ≤ k → k ≤ 36 → memS w m (k, w, m) := fun k a b => ⟨rfl, rfl, a, b⟩
  have h1 : EqX (memS w m) g (fgG g w m) := ((((EqX.rf.sA (hh 31 (by omega) (by omega))).sA (hh 32 (by omega) (by omega))).sA (hh 33 (by omega) (by omega))).sA (hh 34 (by omega) (by omega))).sA (hh 35 (by omega) (by omega))
  have h30 := hh 30 (by omega) (by omega)
  have h2 : EqX (memS w m) g (stG (fgG g w m) w m) := (((h1.sI h30).sI h30).sI h30).sI h30
  exact h2.en (fun n h => h)
theorem RM_ans {g : Sg} {w m : Nat} {M : Me} {x : Int32} (h : RM g w m M) : RM (anG g w m x) w m (meAns x M) := by
  have e6 : gI g (30, w, m) 6 = M.1 6 := h.2.1 6 (by unfold isSl; omega)
  have e7 : gI g (30, w, m) 7 = M.1 7 := h.2.1 7 (by unfold isSl; omega)
  unfold anG meAns
  rw [e6, e7]
  split
  · split
    · exact RM_sI (RM_sI h (by decide)) (by decide)
    · exact RM_sI h (by decide)
  · split
    · exact RM_sI h (by decide)
    · exact h
theorem anG_eqx {g : Sg} {w m : Nat} {x : Int32} : EqX (memS w m) g (anG g w m x) := by
  have h30 : memS w m (30, w, m) := ⟨rfl, rfl, by omega, by omega⟩
  unfold anG
  split
  · split
    · exact (EqX.rf.sI h30).sI h30
    · exact EqX.rf.sI h30
  · split
    · exact EqX.rf.sI h30
    · exact EqX.rf
/-- mixing looks at the first places alone -/
theorem shl_congr {n : Nat} : ∀ {i : Nat} {f f' : Nat → Int32} {sd : Int64}, i < n → (∀ j, j < n → f j = f' j) → (shl i (f, sd)).2 = (shl i (f', sd)).2 ∧ ∀ j, j < n → (shl i (f, sd)).1 j = (shl i (f', sd)).1 j
  | 0, f, f', sd, _, h => ⟨rfl, h⟩
  | i + 1, f, f', sd, hi, h => by
    have hd := drN_lt (stir sd) (n := i + 1 + 1) (by omega)
    have := @shl_congr n i (sh1 (i + 1) (f, sd)).1 (sh1 (i + 1) (f', sd)).1 (stir sd) (by omega) (fun j hj => by
      show upd (upd f (i + 1) (f (drN (stir sd) (i + 1 + 1)))) (drN (stir sd) (i + 1 + 1)) (f (i + 1)) j = upd (upd f' (i + 1) (f' (drN (stir sd) (i + 1 + 1)))) (drN (stir sd) (i + 1 + 1)) (f' (i + 1)) j
      rw [h (i + 1) hi, h (drN (stir sd) (i + 1 + 1)) (by omega)]
      unfold upd
      split
      · rfl
      · split
        · rfl
        · exact h j hj)
    exact this
theorem wl_in {f f' : Nat → Int32} {l : List Nat} {j : Nat} (h : j < l.length) : wl f l j = wl f' l j := by unfold wl; rw [List.getElem?_eq_getElem h]
theorem mkR_congr {K R R' : Nat → Int32} {m : Nat} {sd : Int64} : (mkR K R m sd).2 = (mkR K R' m sd).2 ∧ ∀ j, j < (sel (gsel K m (-1)) 64).length → (mkR K R m sd).1 j = (mkR K R' m sd).1 j := by
  unfold mkR
  by_cases h : (sel (gsel K m (-1)) 64).length = 0
  · rw [h]
    exact ⟨rfl, fun j hj => by omega⟩
  · exact shl_congr (n := (sel (gsel K m (-1)) 64).length) (by omega) (fun j hj => wl_in hj)
theorem RM_mkR {g : Sg} {w m : Nat} {M : Me} (h : RM g w m M) : RM (mrG g w m) w m (meMkR m M) := by
  obtain ⟨h1, h2, h3, h4, -, h8⟩ := h
  have e31 := h4 31 (by omega) (by omega)
  have hc := @mkR_congr (M.2.2 31) (gA g (36, w, m)) (M.2.2 36) m M.2.1
  refine ⟨h1, fun k hk => ?_, ?_, fun k a b => ?_, ⟨(sel (gsel (M.2.2 31) m (-1)) 64).length, ?_, sel_le _ _, fun j hj => ?_⟩, fun k j a b hj => ?_⟩
  · unfold mrG
    rw [gI_sI]
    show (if _ then _ else gI (sI g (30, w, m) 14 _) (30, w, m) k) = upd (upd M.1 14 _) 15 _ k
    rw [gI_sI, e31]
    unfold upd
    simp only [true_and]
    rw [h2 k hk]
  · show up3 _ (30, w, m) _ (30, w, m) = _
    rw [up3_eq, e31, h3]
    exact hc.1
  · have : gA (mrG g w m) (k, w, m) = gA g (k, w, m) := by
      show up3 _ (36, w, m) _ (k, w, m) = _
      rw [up3_ne (fun e => by cases e; omega)]
      rfl
    rw [this, h4 k a b]
    show _ = if k = 36 then _ else _
    rw [if_neg (by omega)]
  · rfl
  · have e36 : gA (mrG g w m) (36, w, m) = (mkR (gA g (31, w, m)) (gA g (36, w, m)) m (gJ g (30, w, m))).1 := by
      show up3 _ (36, w, m) _ (36, w, m) = _
      rw [up3_eq]
    rw [e36, e31, h3]
    exact hc.2 j hj
  · show (if k = 36 then _ else M.2.2 k) j = 0
    rw [if_neg (by omega)]
    exact h8 k j a b hj
theorem mrG_eqx {g : Sg} {w m : Nat} : EqX (memS w m) g (mrG g w m) := by
  have hh : ∀ k, 30 ≤ k → k ≤ 36 → memS w m (k, w, m) := fun k a b => ⟨rfl, rfl, a, b⟩
  have h30 := hh 30 (by omega) (by omega)
  exact (((EqX.rf.sI h30).sA (hh 36 (by omega) (by omega))).sJ h30).sI h30
theorem RM_stp {g : Sg} {w m : Nat} {M : Me} {o : Option Nat} (h : RM g w m M) : RM (srG g w m o) w m (meStp M o) := by
  cases o with
  | none => exact h
  | some i => exact RM_sI h (by decide)
theorem srG_eqx {g : Sg} {w m : Nat} {o : Option Nat} : EqX (memS w m) g (srG g w m o) := by
  cases o with
  | none => exact EqX.rf
  | some i => exact EqX.rf.sI ⟨rfl, rfl, by omega, by omega⟩
/-! worlds by their values -/
def mdA (A : AW) (m : Nat) : Prop := (A.1 m).1 1 = nI 1
def aSet (A : AW) (m : Nat) (M : Me) : AW := (fun m' => if m' = m then M else A.1 m', A.2)
def aBk (A : AW) (B : Bk) : AW := (A.1, A.2.1, A.2.2.1, A.2.2.2.1, B)
def aTr (A : AW) (f : Nat → Int32) : AW := (A.1, A.2.1, A.2.2.1, f, A.2.2.2.2)
abbrev aB (A : AW) : Bk := A.2.2.2.2
def RW (g : Sg) (w : Nat) (A : AW) : Prop := al g (10, w, 0) ∧ RB g w (aB A) ∧ gI g (10, w, 0) 1 = nI A.2.1 ∧ (∀ a, a < 64 → gB g (12, w, 0) a = A.2.2.1 a) ∧ (∀ k, k < 12 → gA g (14, w, 0) k = A.2.2.2.1 k) ∧ (∀ m, m < 64 → mdA A m → RM g w m (A.1 m)) ∧ ∀ m, m < 64 → ¬ mdA A m → al g (30, w, m) → gI g (30, w, m) 1 = nI 0 ∧ ∀ k j, 31 ≤ k → k ≤ 35 → 64 ≤ j → gA g (k, w, m) j = 0
theorem RW_mem {g g' : Sg} {w m : Nat} {A : AW} {M' : Me} (h : RW g w A) (he : EqX (memS w m) g g') (hM : RM g' w m M') (hm : M'.1 1 = nI 1) : RW g' w (aSet A m M') := by
  obtain ⟨h1, h2, h3, h4, h5, h6, h7⟩ := h
  have ee : ∀ n : Nm, ¬ memS w m n → _ := he.1
  have ne : ∀ k a b, k < 30 → ¬ memS w m (k, a, b) := fun k a b hk q => by have := q.2.2.1; omega
  refine ⟨he.al' h1, ?_, ?_, ?_, ?_, fun m' hm' hd => ?_, fun m' hm' hd ha => ?_⟩
  · obtain ⟨b1, b2, b3, b4, b5, b6⟩ := h2
    have r : ∀ r n, rOk g w r n → rOk g' w r n := fun r n hr => ⟨hr.1, by rw [(ee (20, w, r) (ne _ _ _ (by omega))).1]; exact hr.2.1, by rw [he.2.1]; exact hr.2.2.1, by rw [he.2.1]; exact hr.2.2.2⟩
    refine ⟨r _ _ b1, r _ _ b2, ?_, ?_, fun l c hl hc => ?_, fun p c hp hc => ?_⟩
    · rw [(ee (13, w, 0) (ne _ _ _ (by omega))).1]; exact b3
    · rw [(ee (13, w, 0) (ne _ _ _ (by omega))).1]; exact b4
    · unfold rv; rw [(ee (21, w, 0) (ne _ _ _ (by omega))).2.2.1]; exact b5 l c hl hc
    · unfold rv; rw [(ee (21, w, 1) (ne _ _ _ (by omega))).2.2.1]; exact b6 p c hp hc
  · rw [(ee (10, w, 0) (ne _ _ _ (by omega))).1]; exact h3
  · intro a ha; rw [(ee (12, w, 0) (ne _ _ _ (by omega))).2.2.2]; exact h4 a ha
  · intro k hk; rw [(ee (14, w, 0) (ne _ _ _ (by omega))).2.2.1]; exact h5 k hk
  · by_cases e : m' = m
    · subst e
      show RM g' w m' (if m' = m' then M' else _)
      rw [if_pos rfl]
      exact hM
    · have hd' : mdA A m' := by
        unfold mdA aSet at hd
        dsimp only at hd
        rw [if_neg e] at hd
        exact hd
      show RM g' w m' (if m' = m then M' else _)
      rw [if_neg e]
      exact (h6 m' hm' hd').eqx he (fun k a b q => e q.2.1)
  · by_cases e : m' = m
    · subst e
      exact absurd (by show (if m' = m' then M' else _).1 1 = nI 1; rw [if_pos rfl]; exact hm) hd
    · have hd' : ¬ mdA A m' := by
        unfold mdA aSet at hd
        dsimp only at hd
        rw [if_neg e] at hd
        exact hd
      obtain ⟨c1, c2⟩ := h7 m' hm' hd' (he.al2 ha)
      have q : ∀ k, 30 ≤ k → k ≤ 36 → ¬ memS w m (k, w, m') := fun k a b q => e q.2.1
      refine ⟨by rw [(ee (30, w, m') (q 30 (by omega) (by omega))).1]; exact c1, fun k j a b hj => ?_⟩
      rw [(ee (k, w, m') (q k (by omega) (by omega))).2.2.1]
      exact c2 k j a b hj
theorem RW_bk {g g' : Sg} {w : Nat} {A : AW} {B : Bk} (h : RW g w A) (he : EqX (bkS w) g g') (hB : RB g' w B) : RW g' w (aBk A B) := by
  obtain ⟨h1, h2, h3, h4, h5, h6, h7⟩ := h
  have q : ∀ k a b, (k ≠ 13 ∧ k ≠ 20 ∧ k ≠ 21) → ¬ bkS w (k, a, b) := fun k a b hk hb => by rcases hb.2.1 with e | e | e <;> simp at e <;> omega
  refine ⟨he.al' h1, hB, ?_, ?_, ?_, fun m hm hd => (h6 m hm hd).eqx he (fun k a b => q k w m (by omega)), fun m hm hd ha => ?_⟩
  · rw [(he.1 (10, w, 0) (q _ _ _ (by omega))).1]; exact h3
  · intro a ha; rw [(he.1 (12, w, 0) (q _ _ _ (by omega))).2.2.2]; exact h4 a ha
  · intro k hk; rw [(he.1 (14, w, 0) (q _ _ _ (by omega))).2.2.1]; exact h5 k hk
  · obtain ⟨c1, c2⟩ := h7 m hm hd (he.al2 ha)
    refine ⟨by rw [(he.1 (30, w, m) (q _ _ _ (by omega))).1]; exact c1, fun k j a b hj => ?_⟩
    rw [(he.1 (k, w, m) (q _ _ _ (by omega))).2.2.1]
    exact c2 k j a b hj
/-- a store whose other cells of the world are the same -/
theorem RW_oth {g g' : Sg} {w : Nat} {A : AW} (h : RW g w A) (he : EqX (fun n => n.2.1 = w ∧ (n.1 = 15 ∨ n.1 = 16)) g g') : RW g' w A := by
  obtain ⟨h1, h2, h3, h4, h5, h6, h7⟩ := h
  have q : ∀ k a b, (k ≠ 15 ∧ k ≠ 16) → ¬ (fun n : Nm => n.2.1 = w ∧ (n.1 = 15 ∨ n.1 = 16)) (k, a, b) := fun k a b hk hb => by rcases hb.2 with e | e <;> simp at e <;> omega
  have hb : RB g' w (aB A) := by
    obtain ⟨b1, b2, b3, b4, b5, b6⟩ := h2
    have r : ∀ r n, rOk g w r n → rOk g' w r n := fun r n hr => ⟨hr.1, by rw [(he.1 (20, w, r) (q _ _ _ (by omega))).1]; exact hr.2.1, by rw [he.2.1]; exact hr.2.2.1, by rw [he.2.1]; exact hr.2.2.2⟩
    refine ⟨r _ _ b1, r _ _ b2, ?_, ?_, fun l c hl hc => ?_, fun p c hp hc => ?_⟩
    · rw [(he.1 (13, w, 0) (q _ _ _ (by omega))).1]; exact b3
    · rw [(he.1 (13, w, 0) (q _ _ _ (by omega))).1]; exact b4
    · unfold rv; rw [(he.1 (21, w, 0) (q _ _ _ (by omega))).2.2.1]; exact b5 l c hl hc
    · unfold rv; rw [(he.1 (21, w, 1) (q _ _ _ (by omega))).2.2.1]; exact b6 p c hp hc
  refine ⟨he.al' h1, hb, ?_, ?_, ?_, fun m hm hd => (h6 m hm hd).eqx he (fun k a b => q k w m (by omega)), fun m hm hd ha => ?_⟩
  · rw [(he.1 (10, w, 0) (q _ _ _ (by omega))).1]; exact h3
  · intro a ha; rw [(he.1 (12, w, 0) (q _ _ _ (by omega))).2.2.2]; exact h4 a ha
  · intro k hk; rw [(he.1 (14, w, 0) (q _ _ _ (by omega))).2.2.1]; exact h5 k hk
  · obtain ⟨c1, c2⟩ := h7 m hm hd (he.al2 ha)
    refine ⟨by rw [(he.1 (30, w, m) (q _ _ _ (by omega))).1]; exact c1, fun k j a b hj => ?_⟩
    rw [(he.1 (k, w, m) (q _ _ _ (by omega))).2.2.1]
    exact c2 k j a b hj
