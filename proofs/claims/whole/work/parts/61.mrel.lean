/-! the array s and the seeds hold a world -/
def bC (b : Prop) (v : Int32) : Prop := (b → v = nI 1) ∧ (¬ b → v = nI 0)
def lcx (c : Nat) : Nat := match c with
  | 4 => 7
  | 5 => 4
  | 6 => 5
  | 7 => 6
  | _ => c
def RFo (f : Nat → Int32) (sd : Nat → Int64) (m : Nat) (M : Me) : Prop := (f (7 * m) = M.1 2 + nI 1 ∧ f (7 * m + 1) = M.1 4 ∧ f (7 * m + 2) = M.1 5 ∧ f (7 * m + 3) = M.1 6 ∧ f (7 * m + 4) = M.1 7 ∧ f (7 * m + 5) = M.1 14 ∧ f (7 * m + 6) = M.1 15) ∧ sd m = M.2.1 ∧ (∀ x, x < 64 → f (nw m x) = M.2.2 31 x ∧ (¬ M.2.2 31 x = nI 0 → ∀ c, 1 ≤ c → c ≤ 4 → f (nw m x + c) = M.2.2 (31 + c) x)) ∧ ∀ j, j < cl (M.1 14) → j < 64 → f (20928 + 64 * m + j) = M.2.2 36 j
def RFm (f : Nat → Int32) (sd : Nat → Int64) (F : Nat → Me) : Prop := ∀ m, m < 64 → ((F m).1 1 = nI 1 → RFo f sd m (F m)) ∧ (¬ (F m).1 1 = nI 1 → f (7 * m) = nI 0 ∧ ∀ x, x < 64 → f (nw m x) = nI 0)
def RFc (f : Nat → Int32) (c : Nat → Int64) : Prop := ∀ a b, a < 64 → b < 64 → bC (tb (c a) b) (f (25024 + 64 * a + b))
def RFb (f : Nat → Int32) (B : Bk) (o : Prop) : Prop := (bL B ≤ 1200 ∧ bP B ≤ 20000) ∧ f 118720 = nI (bL B) ∧ f 118721 = nI (bP B) ∧ (∀ l c, l < bL B → c < 8 → (o → ¬ (l + 1 = bL B ∧ c = 5)) → f (ltx l c) = bl B l (lcx c)) ∧ ∀ p c, p < bP B → c < 4 → f (38720 + 4 * p + c) = bp B p c
def RFt (f : Nat → Int32) (t : Nat → Int32) : Prop := ∀ k, k < 12 → f (118723 + k) = t k
def RF (f : Nat → Int32) (sd : Nat → Int64) (A : AW) (n : Nat) (o : Prop) : Prop := RFm f sd A.1 ∧ RFc f A.2.2.1 ∧ RFb f (aB A) o ∧ RFt f A.2.2.2.1 ∧ f 118722 = nI n
def ownI (m i : Nat) : Prop := (7 * m ≤ i ∧ i < 7 * m + 7) ∨ (448 + 320 * m ≤ i ∧ i < 448 + 320 * m + 320) ∨ (20928 + 64 * m ≤ i ∧ i < 20928 + 64 * m + 64)
theorem nw_own {m x c : Nat} (hx : x < 64) (hc : c ≤ 4) : 448 + 320 * m ≤ nw m x + c ∧ nw m x + c < 448 + 320 * m + 320 := by unfold nw; omega
theorem RFo.cg {f f' : Nat → Int32} {sd sd' : Nat → Int64} {m : Nat} {M : Me} (h : RFo f sd m M) (hf : ∀ i, ownI m i → f' i = f i) (hs : sd' m = sd m) : RFo f' sd' m M := by
  obtain ⟨⟨a0, a1, a2, a3, a4, a5, a6⟩, b, c, d⟩ := h
  refine ⟨⟨?_, ?_, ?_, ?_, ?_, ?_, ?_⟩, hs.trans b, fun x hx => ⟨?_, fun hk e h1 h2 => ?_⟩, fun j h1 h2 => ?_⟩
  · rw [hf _ (by unfold ownI; omega)]; exact a0
  · rw [hf _ (by unfold ownI; omega)]; exact a1
  · rw [hf _ (by unfold ownI; omega)]; exact a2
  · rw [hf _ (by unfold ownI; omega)]; exact a3
  · rw [hf _ (by unfold ownI; omega)]; exact a4
  · rw [hf _ (by unfold ownI; omega)]; exact a5
  · rw [hf _ (by unfold ownI; omega)]; exact a6
  · rw [hf _ (by have := nw_own (m := m) (c := 0) hx (by omega); unfold ownI; omega)]; exact (c x hx).1
  · rw [hf _ (by have := nw_own (m := m) (c := e) hx h2; unfold ownI; omega)]; exact (c x hx).2 hk e h1 h2
  · rw [hf _ (by unfold ownI; omega)]; exact d j h1 h2
theorem RFm.set {f f' : Nat → Int32} {sd sd' : Nat → Int64} {m : Nat} {F F' : Nat → Me} {M : Me} (h : RFm f sd F) (hm : m < 64) (hf : ∀ i, i < 25024 → ¬ ownI m i → f' i = f i) (hs : ∀ m', m' ≠ m → sd' m' = sd m') (hM : RFo f' sd' m M) (h1 : M.1 1 = nI 1) (hF : F' m = M) (hF' : ∀ m', m' ≠ m → F' m' = F m') : RFm f' sd' F' := by
  intro m' hm'
  by_cases e : m' = m
  · subst e
    rw [hF]
    exact ⟨fun _ => hM, fun q => absurd h1 q⟩
  · rw [hF' m' e]
    have hd : ∀ i, ownI m' i → ¬ ownI m i := fun i q => by unfold ownI at q ⊢; omega
    refine ⟨fun q => ((h m' hm').1 q).cg (fun i hi => hf i (by unfold ownI at hi; omega) (hd i hi)) (hs m' e), fun q => ?_⟩
    obtain ⟨a, b⟩ := (h m' hm').2 q
    refine ⟨?_, fun x hx => ?_⟩
    · rw [hf _ (by omega) (hd _ (by unfold ownI; omega))]; exact a
    · have := nw_own (m := m') (c := 0) hx (by omega)
      rw [hf _ (by omega) (hd _ (by unfold ownI; omega))]; exact b x hx
theorem RFm.cg {f f' : Nat → Int32} {sd : Nat → Int64} {F : Nat → Me} (h : RFm f sd F) (hf : ∀ i, i < 25024 → f' i = f i) : RFm f' sd F := fun m hm => by
  refine ⟨fun q => ((h m hm).1 q).cg (fun i hi => hf i (by unfold ownI at hi; omega)) rfl, fun q => ?_⟩
  obtain ⟨a, b⟩ := (h m hm).2 q
  refine ⟨by rw [hf _ (by omega)]; exact a, fun x hx => ?_⟩
  have := nw_own (m := m) (c := 0) hx (by omega)
  rw [hf _ (by omega)]
  exact b x hx
theorem RFc.cg {f f' : Nat → Int32} {c : Nat → Int64} (h : RFc f c) (hf : ∀ i, 25024 ≤ i → i < 29120 → f' i = f i) : RFc f' c := fun a b ha hb => by
  rw [hf _ (by omega) (by omega)]
  exact h a b ha hb
theorem RFb.cg {f f' : Nat → Int32} {B : Bk} {o : Prop} (h : RFb f B o) (hf : ∀ i, 29120 ≤ i → i < 118722 → f' i = f i) : RFb f' B o := by
  obtain ⟨h0, h1, h2, h3, h4⟩ := h
  refine ⟨h0, by rw [hf _ (by omega) (by omega)]; exact h1, by rw [hf _ (by omega) (by omega)]; exact h2, fun l c hl hc ho => ?_, fun p c hp hc => ?_⟩
  · rw [hf _ (by unfold ltx; omega) (by unfold ltx; omega)]; exact h3 l c hl hc ho
  · rw [hf _ (by omega) (by omega)]; exact h4 p c hp hc
theorem RFt.cg {f f' t : Nat → Int32} (h : RFt f t) (hf : ∀ i, 118723 ≤ i → i < 118735 → f' i = f i) : RFt f' t := fun k hk => by
  rw [hf _ (by omega) (by omega)]
  exact h k hk
theorem own_lt {m i : Nat} (hm : m < 64) (h : ownI m i) : i < 25024 := by unfold ownI at h; omega
theorem RF.mem {f f' : Nat → Int32} {sd sd' : Nat → Int64} {A : AW} {n m : Nat} {o : Prop} {M : Me} (h : RF f sd A n o) (hm : m < 64) (hf : ∀ i, ¬ ownI m i → f' i = f i) (hs : ∀ m', m' ≠ m → sd' m' = sd m') (hM : RFo f' sd' m M) (h1 : M.1 1 = nI 1) : RF f' sd' (aSet A m M) n o := by
  obtain ⟨a1, a2, a3, a4, a5⟩ := h
  have hb : ∀ i, 25024 ≤ i → f' i = f i := fun i hi => hf i (fun q => by have := own_lt hm q; omega)
  exact ⟨a1.set hm (fun i _ q => hf i q) hs hM h1 aSet_m (fun m' e => aSet_ne e), a2.cg (fun i h1 _ => hb i h1), a3.cg (fun i h1 _ => hb i (by omega)), a4.cg (fun i h1 _ => hb i (by omega)), by rw [hb _ (by omega)]; exact a5⟩
theorem RF.o {f : Nat → Int32} {sd : Nat → Int64} {A : AW} {n m : Nat} {o : Prop} (h : RF f sd A n o) (hm : m < 64) (hd : mdA A m) : RFo f sd m (A.1 m) := (h.1 m hm).1 hd
theorem upd_ne {f : Nat → Int32} {i j : Nat} {v : Int32} (h : i ≠ j) : upd f j v i = f i := if_neg h
theorem upd_eq {f : Nat → Int32} {j : Nat} {v : Int32} : upd f j v j = v := if_pos rfl
theorem RFo_t1 {f : Nat → Int32} {sd : Nat → Int64} {m : Nat} {M : Me} {v : Int32} (h : RFo f sd m M) (hm : m < 64) : RFo (upd f (7 * m + 1) v) sd m (meSI M 4 v) := by
  obtain ⟨⟨a0, a1, a2, a3, a4, a5, a6⟩, b, c, d⟩ := h
  refine ⟨⟨(upd_ne (by omega)).trans a0, upd_eq, (upd_ne (by omega)).trans a2, (upd_ne (by omega)).trans a3, (upd_ne (by omega)).trans a4, (upd_ne (by omega)).trans a5, (upd_ne (by omega)).trans a6⟩, b, fun x hx => ⟨(upd_ne (by have := nw_own (m := m) (c := 0) hx (by omega); omega)).trans (c x hx).1, fun hk e h1 h2 => (upd_ne (by have := nw_own (m := m) (c := e) hx h2; omega)).trans ((c x hx).2 hk e h1 h2)⟩, fun j h1 h2 => ?_⟩
  · exact (upd_ne (by omega)).trans (d j h1 h2)
theorem RFo_t2 {f : Nat → Int32} {sd : Nat → Int64} {m : Nat} {M : Me} {v : Int32} (h : RFo f sd m M) (hm : m < 64) : RFo (upd f (7 * m + 2) v) sd m (meSI M 5 v) := by
  obtain ⟨⟨a0, a1, a2, a3, a4, a5, a6⟩, b, c, d⟩ := h
  refine ⟨⟨(upd_ne (by omega)).trans a0, (upd_ne (by omega)).trans a1, upd_eq, (upd_ne (by omega)).trans a3, (upd_ne (by omega)).trans a4, (upd_ne (by omega)).trans a5, (upd_ne (by omega)).trans a6⟩, b, fun x hx => ⟨(upd_ne (by have := nw_own (m := m) (c := 0) hx (by omega); omega)).trans (c x hx).1, fun hk e h1 h2 => (upd_ne (by have := nw_own (m := m) (c := e) hx h2; omega)).trans ((c x hx).2 hk e h1 h2)⟩, fun j h1 h2 => ?_⟩
  · exact (upd_ne (by omega)).trans (d j h1 h2)
theorem RFo_t3 {f : Nat → Int32} {sd : Nat → Int64} {m : Nat} {M : Me} {v : Int32} (h : RFo f sd m M) (hm : m < 64) : RFo (upd f (7 * m + 3) v) sd m (meSI M 6 v) := by
  obtain ⟨⟨a0, a1, a2, a3, a4, a5, a6⟩, b, c, d⟩ := h
  refine ⟨⟨(upd_ne (by omega)).trans a0, (upd_ne (by omega)).trans a1, (upd_ne (by omega)).trans a2, upd_eq, (upd_ne (by omega)).trans a4, (upd_ne (by omega)).trans a5, (upd_ne (by omega)).trans a6⟩, b, fun x hx => ⟨(upd_ne (by have := nw_own (m := m) (c := 0) hx (by omega); omega)).trans (c x hx).1, fun hk e h1 h2 => (upd_ne (by have := nw_own (m := m) (c := e) hx h2; omega)).trans ((c x hx).2 hk e h1 h2)⟩, fun j h1 h2 => ?_⟩
  · exact (upd_ne (by omega)).trans (d j h1 h2)
theorem RFo_t4 {f : Nat → Int32} {sd : Nat → Int64} {m : Nat} {M : Me} {v : Int32} (h : RFo f sd m M) (hm : m < 64) : RFo (upd f (7 * m + 4) v) sd m (meSI M 7 v) := by
  obtain ⟨⟨a0, a1, a2, a3, a4, a5, a6⟩, b, c, d⟩ := h
  refine ⟨⟨(upd_ne (by omega)).trans a0, (upd_ne (by omega)).trans a1, (upd_ne (by omega)).trans a2, (upd_ne (by omega)).trans a3, upd_eq, (upd_ne (by omega)).trans a5, (upd_ne (by omega)).trans a6⟩, b, fun x hx => ⟨(upd_ne (by have := nw_own (m := m) (c := 0) hx (by omega); omega)).trans (c x hx).1, fun hk e h1 h2 => (upd_ne (by have := nw_own (m := m) (c := e) hx h2; omega)).trans ((c x hx).2 hk e h1 h2)⟩, fun j h1 h2 => ?_⟩
  · exact (upd_ne (by omega)).trans (d j h1 h2)
theorem RFo_t5 {f : Nat → Int32} {sd : Nat → Int64} {m : Nat} {M : Me} (h : RFo f sd m M) (hm : m < 64) : RFo (upd f (7 * m + 5) (nI 0)) sd m (meSI M 14 (nI 0)) := by
  obtain ⟨⟨a0, a1, a2, a3, a4, a5, a6⟩, b, c, d⟩ := h
  refine ⟨⟨(upd_ne (by omega)).trans a0, (upd_ne (by omega)).trans a1, (upd_ne (by omega)).trans a2, (upd_ne (by omega)).trans a3, (upd_ne (by omega)).trans a4, upd_eq, (upd_ne (by omega)).trans a6⟩, b, fun x hx => ⟨(upd_ne (by have := nw_own (m := m) (c := 0) hx (by omega); omega)).trans (c x hx).1, fun hk e h1 h2 => (upd_ne (by have := nw_own (m := m) (c := e) hx h2; omega)).trans ((c x hx).2 hk e h1 h2)⟩, fun j h1 h2 => ?_⟩
  · have h3 : j < cl (nI 0) := h1
    rw [cl_nI (by omega)] at h3
    omega
theorem RFo_t6 {f : Nat → Int32} {sd : Nat → Int64} {m : Nat} {M : Me} {v : Int32} (h : RFo f sd m M) (hm : m < 64) : RFo (upd f (7 * m + 6) v) sd m (meSI M 15 v) := by
  obtain ⟨⟨a0, a1, a2, a3, a4, a5, a6⟩, b, c, d⟩ := h
  refine ⟨⟨(upd_ne (by omega)).trans a0, (upd_ne (by omega)).trans a1, (upd_ne (by omega)).trans a2, (upd_ne (by omega)).trans a3, (upd_ne (by omega)).trans a4, (upd_ne (by omega)).trans a5, upd_eq⟩, b, fun x hx => ⟨(upd_ne (by have := nw_own (m := m) (c := 0) hx (by omega); omega)).trans (c x hx).1, fun hk e h1 h2 => (upd_ne (by have := nw_own (m := m) (c := e) hx h2; omega)).trans ((c x hx).2 hk e h1 h2)⟩, fun j h1 h2 => ?_⟩
  · exact (upd_ne (by omega)).trans (d j h1 h2)
theorem RFo_t0 {f : Nat → Int32} {sd : Nat → Int64} {m : Nat} {M : Me} {v : Int32} (h : RFo f sd m M) (hm : m < 64) : RFo (upd f (7 * m) (v + nI 1)) sd m (meSI M 2 v) := by
  obtain ⟨⟨a0, a1, a2, a3, a4, a5, a6⟩, b, c, d⟩ := h
  refine ⟨⟨upd_eq, (upd_ne (by omega)).trans a1, (upd_ne (by omega)).trans a2, (upd_ne (by omega)).trans a3, (upd_ne (by omega)).trans a4, (upd_ne (by omega)).trans a5, (upd_ne (by omega)).trans a6⟩, b, fun x hx => ⟨(upd_ne (by have := nw_own (m := m) (c := 0) hx (by omega); omega)).trans (c x hx).1, fun hk e h1 h2 => (upd_ne (by have := nw_own (m := m) (c := e) hx h2; omega)).trans ((c x hx).2 hk e h1 h2)⟩, fun j h1 h2 => ?_⟩
  · exact (upd_ne (by omega)).trans (d j h1 h2)
theorem RFo_wr {f : Nat → Int32} {sd : Nat → Int64} {m x : Nat} {M : Me} {kind t l : Int32} (h : RFo f sd m M) (hm : m < 64) (hx : x < 64) : RFo (upd (upd (upd (upd (upd f (nw m x) kind) (nw m x + 1) t) (nw m x + 2) (nI 0)) (nw m x + 3) (f (7 * m + 2))) (nw m x + 4) l) sd m (meEn M x kind t l) := by
  obtain ⟨⟨a0, a1, a2, a3, a4, a5, a6⟩, b, c, d⟩ := h
  have hr := nw_own (m := m) (c := 0) hx (by omega)
  have hr4 := nw_own (m := m) (c := 4) hx (by omega)
  have hlo : ∀ i, i < 448 ∨ 20928 ≤ i → upd (upd (upd (upd (upd f (nw m x) kind) (nw m x + 1) t) (nw m x + 2) (nI 0)) (nw m x + 3) (f (7 * m + 2))) (nw m x + 4) l i = f i := fun i hi => by
    rw [upd_ne (by omega), upd_ne (by omega), upd_ne (by omega), upd_ne (by omega), upd_ne (by omega)]
  refine ⟨⟨?_, ?_, ?_, ?_, ?_, ?_, ?_⟩, b, fun y hy => ?_, fun j h1 h2 => ?_⟩
  · rw [hlo _ (by omega)]; exact a0
  · rw [hlo _ (by omega)]; exact a1
  · rw [hlo _ (by omega)]; exact a2
  · rw [hlo _ (by omega)]; exact a3
  · rw [hlo _ (by omega)]; exact a4
  · rw [hlo _ (by omega)]; exact a5
  · rw [hlo _ (by omega)]; exact a6
  · by_cases e : y = x
    · subst e
      have g1 : ∀ k, (meEn M y kind t l).2.2 k y = if k = 31 then kind else if k = 32 then t else if k = 33 then nI 0 else if k = 34 then M.1 5 else if k = 35 then l else M.2.2 k y := fun k => by
        show (if k = 31 then upd (M.2.2 31) y kind else _) y = _
        split
        · exact upd_eq
        · split
          · exact upd_eq
          · split
            · exact upd_eq
            · split
              · exact upd_eq
              · split
                · exact upd_eq
                · rfl
      refine ⟨?_, fun hk c h1 h2 => ?_⟩
      · rw [upd_ne (by omega), upd_ne (by omega), upd_ne (by omega), upd_ne (by omega), upd_eq, g1]; rfl
      · obtain rfl | rfl | rfl | rfl : c = 1 ∨ c = 2 ∨ c = 3 ∨ c = 4 := by omega
        · rw [upd_ne (by omega), upd_ne (by omega), upd_ne (by omega), upd_eq, g1]; rfl
        · rw [upd_ne (by omega), upd_ne (by omega), upd_eq, g1]; rfl
        · rw [upd_ne (by omega), upd_eq, g1]; exact a2
        · rw [upd_eq, g1]; rfl
    · have g1 : ∀ k, (meEn M x kind t l).2.2 k y = M.2.2 k y := fun k => by
        show (if k = 31 then upd (M.2.2 31) x kind else if k = 32 then upd (M.2.2 32) x t else if k = 33 then upd (M.2.2 33) x (nI 0) else if k = 34 then upd (M.2.2 34) x (M.1 5) else if k = 35 then upd (M.2.2 35) x l else M.2.2 k) y = _
        split
        · rename_i q; subst q; exact upd_ne e
        · split
          · rename_i q; subst q; exact upd_ne e
          · split
            · rename_i q; subst q; exact upd_ne e
            · split
              · rename_i q; subst q; exact upd_ne e
              · split
                · rename_i q; subst q; exact upd_ne e
                · rfl
      have hne : ∀ c, c ≤ 4 → ∀ c', c' ≤ 4 → nw m y + c ≠ nw m x + c' := fun c hc c' hc' => by unfold nw; omega
      have hy' : ∀ c, c ≤ 4 → upd (upd (upd (upd (upd f (nw m x) kind) (nw m x + 1) t) (nw m x + 2) (nI 0)) (nw m x + 3) (f (7 * m + 2))) (nw m x + 4) l (nw m y + c) = f (nw m y + c) := fun c hc => by
        rw [upd_ne (hne c hc 4 (by omega)), upd_ne (hne c hc 3 (by omega)), upd_ne (hne c hc 2 (by omega)), upd_ne (hne c hc 1 (by omega)), upd_ne (show nw m y + c ≠ nw m x from hne c hc 0 (by omega))]
      refine ⟨?_, fun hk c' h1 h2 => ?_⟩
      · rw [g1]
        exact (hy' 0 (by omega)).trans (c y hy).1
      · rw [g1] at hk ⊢
        rw [hy' c' h2]
        exact (c y hy).2 hk c' h1 h2
  · rw [hlo _ (by omega)]; exact d j h1 h2
/-! frames of the reference's acts -/
def msS (n : Nm) : Prop := n.1 = 40 ∨ n.1 = 41 ∨ n.1 = 43 ∨ n.1 = 48 ∨ n.1 = 49
def EqM (g g' : Sg) : Prop := EqX msS g g' ∧ ∀ k, k ≠ 11 → k < 13 → gI g' (40, 0, 0) k = gI g (40, 0, 0) k
theorem EqM.rf {g : Sg} : EqM g g := ⟨EqX.rf, fun _ _ _ => rfl⟩
theorem EqM.tr {g g' g'' : Sg} (h : EqM g g') (h' : EqM g' g'') : EqM g g'' := ⟨h.1.tr h'.1, fun k a b => (h'.2 k a b).trans (h.2 k a b)⟩
theorem EqM.sA {g g' : Sg} {n : Nm} {f : Nat → Int32} (h : EqM g g') (hn : msS n) : EqM g (sA g' n f) := ⟨h.1.sA hn, h.2⟩
theorem EqM.sB {g g' : Sg} {n : Nm} {f : Nat → Int64} (h : EqM g g') (hn : msS n) : EqM g (sB g' n f) := ⟨h.1.sB hn, h.2⟩
theorem EqM.sI {g g' : Sg} {k : Nat} {x : Int32} (h : EqM g g') (hk : k = 11 ∨ 13 ≤ k) : EqM g (sI g' (40, 0, 0) k x) := ⟨h.1.sI (Or.inl rfl), fun j a b => by rw [gI_sI, if_neg (fun q => by have := q.2; omega)]; exact h.2 j a b⟩
theorem ms41 : msS (41, 0, 0) := Or.inr (Or.inl rfl)
theorem ms43 : msS (43, 0, 0) := Or.inr (Or.inr (Or.inl rfl))
theorem ms48 : msS (48, 0, 0) := Or.inr (Or.inr (Or.inr (Or.inl rfl)))
theorem ms49 : msS (49, 0, 0) := Or.inr (Or.inr (Or.inr (Or.inr rfl)))
def RS (g : Sg) (A : AW) (n : Nat) (o : Prop) : Prop := al g (40, 0, 0) ∧ RF (gA g (41, 0, 0)) (gB g (43, 0, 0)) A n o
theorem RS.set {g : Sg} {f : Nat → Int32} {A : AW} {n m : Nat} {o : Prop} {M : Me} (h : RS g A n o) (hm : m < 64) (hf : ∀ i, ¬ ownI m i → f i = gA g (41, 0, 0) i) (hM : RFo f (gB g (43, 0, 0)) m M) (h1 : M.1 1 = nI 1) : RS (sA g (41, 0, 0) f) (aSet A m M) n o ∧ EqM g (sA g (41, 0, 0) f) := ⟨⟨h.1, h.2.mem (f' := f) hm hf (fun _ _ => rfl) hM h1⟩, EqM.rf.sA ms41⟩
theorem m_to1 {ad : Nm → Nat} {g : Sg} {A : AW} {n m : Nat} {o : Prop} {v : Int32} (h : RS g A n o) (hm : m < 64) (hd : mdA A m) : PS mX7_to 0 (ent mX7_to [.ref (ad (40, 0, 0)), .int (nI m), .int (nI 1), .int v]) [] ad g (Rv (fun g' => RS g' (aSet A m (meSI (A.1 m) 4 v)) n o ∧ EqM g g')) := by
  refine (m_to h.1 hm (by omega)).weak (fun r G hG => ?_)
  obtain ⟨g', h1, h2, rfl⟩ := hG
  exact ⟨_, h1, h2, h.set hm (fun i hi => upd_ne (fun e => hi (by unfold ownI; omega))) (RFo_t1 (h.2.o hm hd) hm) hd⟩
theorem m_to2 {ad : Nm → Nat} {g : Sg} {A : AW} {n m : Nat} {o : Prop} {v : Int32} (h : RS g A n o) (hm : m < 64) (hd : mdA A m) : PS mX7_to 0 (ent mX7_to [.ref (ad (40, 0, 0)), .int (nI m), .int (nI 2), .int v]) [] ad g (Rv (fun g' => RS g' (aSet A m (meSI (A.1 m) 5 v)) n o ∧ EqM g g')) := by
  refine (m_to h.1 hm (by omega)).weak (fun r G hG => ?_)
  obtain ⟨g', h1, h2, rfl⟩ := hG
  exact ⟨_, h1, h2, h.set hm (fun i hi => upd_ne (fun e => hi (by unfold ownI; omega))) (RFo_t2 (h.2.o hm hd) hm) hd⟩
theorem m_to3 {ad : Nm → Nat} {g : Sg} {A : AW} {n m : Nat} {o : Prop} {v : Int32} (h : RS g A n o) (hm : m < 64) (hd : mdA A m) : PS mX7_to 0 (ent mX7_to [.ref (ad (40, 0, 0)), .int (nI m), .int (nI 3), .int v]) [] ad g (Rv (fun g' => RS g' (aSet A m (meSI (A.1 m) 6 v)) n o ∧ EqM g g')) := by
  refine (m_to h.1 hm (by omega)).weak (fun r G hG => ?_)
  obtain ⟨g', h1, h2, rfl⟩ := hG
  exact ⟨_, h1, h2, h.set hm (fun i hi => upd_ne (fun e => hi (by unfold ownI; omega))) (RFo_t3 (h.2.o hm hd) hm) hd⟩
theorem m_to4 {ad : Nm → Nat} {g : Sg} {A : AW} {n m : Nat} {o : Prop} {v : Int32} (h : RS g A n o) (hm : m < 64) (hd : mdA A m) : PS mX7_to 0 (ent mX7_to [.ref (ad (40, 0, 0)), .int (nI m), .int (nI 4), .int v]) [] ad g (Rv (fun g' => RS g' (aSet A m (meSI (A.1 m) 7 v)) n o ∧ EqM g g')) := by
  refine (m_to h.1 hm (by omega)).weak (fun r G hG => ?_)
  obtain ⟨g', h1, h2, rfl⟩ := hG
  exact ⟨_, h1, h2, h.set hm (fun i hi => upd_ne (fun e => hi (by unfold ownI; omega))) (RFo_t4 (h.2.o hm hd) hm) hd⟩
theorem m_to5 {ad : Nm → Nat} {g : Sg} {A : AW} {n m : Nat} {o : Prop} (h : RS g A n o) (hm : m < 64) (hd : mdA A m) : PS mX7_to 0 (ent mX7_to [.ref (ad (40, 0, 0)), .int (nI m), .int (nI 5), .int (nI 0)]) [] ad g (Rv (fun g' => RS g' (aSet A m (meSI (A.1 m) 14 (nI 0))) n o ∧ EqM g g')) := by
  refine (m_to h.1 hm (by omega)).weak (fun r G hG => ?_)
  obtain ⟨g', h1, h2, rfl⟩ := hG
  exact ⟨_, h1, h2, h.set hm (fun i hi => upd_ne (fun e => hi (by unfold ownI; omega))) (RFo_t5 (h.2.o hm hd) hm) hd⟩
theorem m_to6 {ad : Nm → Nat} {g : Sg} {A : AW} {n m : Nat} {o : Prop} {v : Int32} (h : RS g A n o) (hm : m < 64) (hd : mdA A m) : PS mX7_to 0 (ent mX7_to [.ref (ad (40, 0, 0)), .int (nI m), .int (nI 6), .int v]) [] ad g (Rv (fun g' => RS g' (aSet A m (meSI (A.1 m) 15 v)) n o ∧ EqM g g')) := by
  refine (m_to h.1 hm (by omega)).weak (fun r G hG => ?_)
  obtain ⟨g', h1, h2, rfl⟩ := hG
  exact ⟨_, h1, h2, h.set hm (fun i hi => upd_ne (fun e => hi (by unfold ownI; omega))) (RFo_t6 (h.2.o hm hd) hm) hd⟩
theorem m_to0 {ad : Nm → Nat} {g : Sg} {A : AW} {n m : Nat} {o : Prop} {v : Int32} (h : RS g A n o) (hm : m < 64) (hd : mdA A m) : PS mX7_to 0 (ent mX7_to [.ref (ad (40, 0, 0)), .int (nI m), .int (nI 0), .int (v + nI 1)]) [] ad g (Rv (fun g' => RS g' (aSet A m (meSI (A.1 m) 2 v)) n o ∧ EqM g g')) := by
  refine (m_to h.1 hm (by omega)).weak (fun r G hG => ?_)
  obtain ⟨g', h1, h2, rfl⟩ := hG
  exact ⟨_, h1, h2, h.set hm (fun i hi => upd_ne (fun e => hi (by unfold ownI; omega))) (RFo_t0 (h.2.o hm hd) hm) hd⟩
theorem m_wr {ad : Nm → Nat} {g : Sg} {A : AW} {n m : Nat} {o : Prop} {x : Nat} {kind t l : Int32} (h : RS g A n o) (hm : m < 64) (hx : x < 64) (hd : mdA A m) : PS mX7_writes 0 (ent mX7_writes [.ref (ad (40, 0, 0)), .int (nI m), .int (nI x), .int kind, .int t, .int l]) [] ad g (Rv (fun g' => RS g' (aSet A m (meEn (A.1 m) x kind t l)) n o ∧ EqM g g')) := by
  refine (m_writes h.1 hm hx).weak (fun r G hG => ?_)
  obtain ⟨g', h1, h2, rfl⟩ := hG
  have hr := nw_own (m := m) (c := 0) hx (by omega)
  have hr4 := nw_own (m := m) (c := 4) hx (by omega)
  refine ⟨_, h1, h2, h.set hm (fun i hi => ?_) (RFo_wr (h.2.o hm hd) hm hx) hd⟩
  unfold ownI at hi
  rw [upd_ne (by omega), upd_ne (by omega), upd_ne (by omega), upd_ne (by omega), upd_ne (by omega)]
theorem RF_ran {f : Nat → Int32} {sd : Nat → Int64} {A : AW} {n k : Nat} {o : Prop} (h : RF f sd A n o) (hk : k < 12) : RF (upd f (118723 + k) (f (118723 + k) + nI 1)) sd (tlA A (nI k)) n o := by
  obtain ⟨a1, a2, a3, a4, a5⟩ := h
  refine ⟨a1.cg (fun i hi => upd_ne (by omega)), a2.cg (fun i _ hi => upd_ne (by omega)), a3.cg (fun i _ hi => upd_ne (by omega)), fun j hj => ?_, (upd_ne (by omega)).trans a5⟩
  show _ = if nI k = nI j ∧ j < 12 then A.2.2.2.1 j + nI 1 else A.2.2.2.1 j
  by_cases e : j = k
  · subst e
    rw [upd_eq, if_pos ⟨rfl, hj⟩, a4 j hj]
  · rw [upd_ne (by omega), if_neg (fun q => e (eqT q.1 (by omega) (by omega)).symm), a4 j hj]
theorem m_rn {ad : Nm → Nat} {g : Sg} {A : AW} {n m : Nat} {o : Prop} {k : Nat} (h : RS g A n o) (hk : k < 12) : PS mX7_ran 0 (ent mX7_ran [.ref (ad (40, 0, 0)), .int (nI k)]) [] ad g (Rv (fun g' => RS g' (tlA A (nI k)) n o ∧ EqM g g')) := by
  refine (m_ran h.1 hk).weak (fun r G hG => ?_)
  obtain ⟨g', h1, h2, rfl⟩ := hG
  exact ⟨_, h1, h2, ⟨h.1, RF_ran h.2 hk⟩, EqM.rf.sA ms41⟩
theorem RFo_sj {f : Nat → Int32} {sd : Nat → Int64} {m : Nat} {M : Me} {v : Int64} (h : RFo f sd m M) : RFo f (vp_updL sd m v) m (meSJ M v) := by
  obtain ⟨a, b, c, d⟩ := h
  exact ⟨a, if_pos rfl, c, d⟩
theorem m_dr {ad : Nm → Nat} {g : Sg} {A : AW} {n m : Nat} {o : Prop} {k : Nat} (h : RS g A n o) (hm : m < 64) (hd : mdA A m) (hk : 1 ≤ k) (hkb : k < 2 ^ 31) : PS mX7_draw 0 (ent mX7_draw [.ref (ad (40, 0, 0)), .int (nI m), .int (nI k)]) [] ad g (Ri (fun v g' => v = nI (drN (stir (A.1 m).2.1) k) ∧ RS g' (aSet A m (meSJ (A.1 m) (stir (A.1 m).2.1))) n o ∧ g' = sB g (43, 0, 0) (vp_updL (gB g (43, 0, 0)) m (stir (gB g (43, 0, 0) m))))) := by
  refine (m_draw h.1 hm hk hkb).weak (fun r G hG => ?_)
  obtain ⟨g', h1, v, h2, rfl, rfl⟩ := hG
  have e : gB g (43, 0, 0) m = (A.1 m).2.1 := (h.2.o hm hd).2.1
  refine ⟨_, h1, _, h2, by rw [e], ⟨h.1, ?_⟩, rfl⟩
  have := h.2.mem (f' := gA g (41, 0, 0)) (sd' := vp_updL (gB g (43, 0, 0)) m (stir (A.1 m).2.1)) (M := meSJ (A.1 m) (stir (A.1 m).2.1)) hm (fun _ _ => rfl) (fun m' e => if_neg e) (RFo_sj (h.2.o hm hd)) hd
  rw [← e] at this ⊢
  exact this
theorem m_dd {ad : Nm → Nat} {g : Sg} {A : AW} {n m : Nat} {o : Prop} {v : Int32} (h : RS g A n o) : PS mX7_did 0 (ent mX7_did [.ref (ad (40, 0, 0)), .int v]) [] ad g (Ri (fun r g' => r = v ∧ RS g' A (n + 1) o ∧ EqM g g')) := by
  refine (m_did h.1).weak (fun r G hG => ?_)
  obtain ⟨g', h1, u, h2, rfl, rfl⟩ := hG
  refine ⟨_, h1, _, h2, rfl, ⟨h.1, ?_⟩, EqM.rf.sA ms41⟩
  obtain ⟨a1, a2, a3, a4, a5⟩ := h.2
  refine ⟨a1.cg (fun i hi => upd_ne (by omega)), a2.cg (fun i _ hi => upd_ne (by omega)), a3.cg (fun i _ hi => upd_ne (by omega)), a4.cg (fun i hi _ => upd_ne (by omega)), ?_⟩
  show upd (gA g (41, 0, 0)) 118722 (gA g (41, 0, 0) 118722 + nI 1) 118722 = _
  rw [upd_eq, a5, nI_add]
