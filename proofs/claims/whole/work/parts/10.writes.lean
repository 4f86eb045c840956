section WPUT
variable {p : Program} {l : Launch} {e : Env} {R : Room} {s : State} {m : MethodId} {args : Array Value} {below : List Frame} {meth : Method} {c : Code} {H : Heap} {locs : List Loc} {cells slots : Nat} {Q : State → Prop}
variable {cc : ByteArray} {pc : Nat} {ls : Array Slot} {rest : List Value} {D : va_G} {cA : Nat → ClassId} {a : Nat} {base : Nat} {tys : List (ClassId × FieldType)}
theorem w_put (hx : p.tables.exec = Jvm.exec) (hb : c.code = cc) {own C : String} {T : u_T} {n ci index k : Nat} {ty : Nat → FieldType} (hcf : CF ci C T n ty) (hts : ∀ w ∈ lw_g, w.before args s = true) (hown : s.vm.findClass own = some m.cls) (hK : va_K D vwCl tys s) {fs : List Value} (hat : va_at D vwCl (a, .inr (ci, fs)) H) (hk : k < n) (hlink : (Cond.fieldLink own index (T k).1 (T k).2.1 (T k).2.2.1).before args s = true) (hdecl : (T k).1 = C) {v : Value} (hn : narrow (ty k) v = v) (hfit : fits (ty k) v = true) (hl : k < fs.length) (hfin : (T k).2.2.2 = false ∨ (meth.name = "<init>" ∧ C = own))
    (hdg : decode cc pc = .ok (.putfield index, 3)) (kk : ∀ (H1 : Heap) (j : Nat), va_at D vwCl (a, .inr (ci, fs.set k v)) H1 → H1.size = H.size → (∀ q, q ≠ a → H1[q]? = H[q]?) → W p l e R s m args below meth c H1 (locs ++ [⟨a, j⟩]) cells slots Q (F0 m (pc + 3) ls rest)) : W p l e R s m args below meth c H locs cells slots Q (F0 m pc ls (v :: .ref a :: rest)) := by
  obtain ⟨hc, -, hty, hnm, -⟩ := id hcf
  have hin := hcf.hin
  have hd := hty k hk
  have hap := va_apart (own := own) hts hin ty hty hnm hK hc
  obtain ⟨r, h1, cell, q1, q2, q3, q4⟩ := hat
  have hr : r = (C, T, n) := Option.some.inj (h1.symm.trans hc)
  subst hr
  obtain ⟨hS, hfc, kC, hkC, hkind⟩ := hK.1 ci _ hc
  obtain ⟨cf, kf, fi, f, hi, hsl⟩ := hS k hk
  have hst := (u_facts hfc hkC (u_lays hts hin hk) hi).1
  have hlay := hts _ (hin _ (u_in_lay hk))
  by_cases hF : (T k).2.2.2 = false
  · unfold u_lay at hlay
    rw [if_neg (by rw [hF]; decide)] at hlay
    have h6 := u_store hfc hkC hkind hlay hi hd hn hfit
    refine W.putK hx hb (f := f) ⟨hown, hlink, ⟨_, _, _, hi⟩, hst⟩ (by rw [q2]; exact h6) q1 q3 (by rw [hsl]; exact k2_hasslot (q4 k hk)) rfl rfl hdg fun H' e1 e2 e3 => ?_
    rw [hsl] at e1 ⊢
    exact kk H' _ ⟨_, hc, t_OB.to (V := updV (vp_V fs) k v) ⟨_, e1, q2, q3, t_set q4 hap hk v⟩ (fun j _ => vp_updV_set hl v j)⟩ e2 e3
  · have hT : (T k).2.2.2 = true := by simpa using hF
    rcases hfin with h | ⟨hin2, hco⟩
    · exact absurd h hF
    unfold u_lay at hlay
    rw [if_pos hT] at hlay
    have hcf2 : m.cls = cf := by
      obtain ⟨_, _, c', _, _, _, -, -, hf', -, -, -, hown2, -⟩ := Cond.laysFinal_spec hlay
      have e1 : c' = cf := by have := hi.symm.trans hf'; simp at this; exact this.1.symm
      rw [hdecl, hco] at hown2
      rw [← e1]; exact Option.some.inj (hown.symm.trans hown2)
    have h6 := u_fits hfc hkC hkind (Or.inr hlay) hi hd hn hfit
    refine W.putFinK hx hb hown hlink hi hst hcf2 hin2 (by rw [q2]; exact h6) q1 q3 (by rw [hsl]; exact k2_hasslot (q4 k hk)) rfl rfl hdg fun H' e1 e2 e3 => ?_
    rw [hsl] at e1 ⊢
    exact kk H' _ ⟨_, hc, t_OB.to (V := updV (vp_V fs) k v) ⟨_, e1, q2, q3, t_set q4 hap hk v⟩ (fun j _ => vp_updV_set hl v j)⟩ e2 e3
end WPUT
section SNW
variable {l : Launch} {D : va_G} {cA : Nat → ClassId} {base : Nat}
theorem HR.bs {D : va_G} {cA : Nat → ClassId} {base : Nat} {U : State} {G : PH} {H : Heap} (h : HR D cA base U G H) {a : Nat} {e : PE} (he : G.2.2 a = some e) (hn : ∀ x, e ≠ .inl (9, x)) : base ≤ a := by
  rcases (h.2.2 a e he).2 with ⟨x, hx⟩ | hb
  · exact absurd hx (hn x)
  · exact hb

theorem sn_put : Ru_put (Sn l D cA base) := by
  intro M pc L st G r a idx ci k t fs v hd hf hg hk hn hfit h
  obtain ⟨C, T, n, ty, hcf, hkn, hl, ht, hfin, hdecl⟩ := hf
  subst ht
  refine h.stU (fun _ _ _ _ _ _ _ _ _ _ _ _ _ _ _ _ _ S Dn kk => ?_)
  have hba := Dn.2.1.bs hg (fun x hx => by cases hx)
  exact w_put S.1 S.2.1 hcf S.2.2.2.2.2.1 S.2.2.2.1 S.2.2.2.2.2.2.2.2.1 (Dn.2.1.2.2 _ _ hg).1 hkn (S.tb hl rfl) hdecl hn hfit hk (Or.inl hfin) hd (fun H1 j h1 h2 h3 => kk H1 _ (Dn.2.1.up h2 h3 hba h1) (Dn.2.2.1.put h2 h3 hba))
theorem sn_putF : Ru_putF (Sn l D cA base) := by
  intro M pc L st G r a idx ci k t fs v hd hf hg hk hn hfit hini hcl h
  obtain ⟨C, T, n, ty, hcf, hkn, hl, ht, hfin, hdecl⟩ := hf
  subst ht
  refine h.stU (fun _ _ _ _ _ _ _ _ _ _ _ _ _ _ _ _ _ S Dn kk => ?_)
  have hba := Dn.2.1.bs hg (fun x hx => by cases hx)
  have hC : C = (mY M).cls := by rw [hcf.1] at hcl; simpa using hcl
  exact w_put S.1 S.2.1 hcf S.2.2.2.2.2.1 S.2.2.2.1 S.2.2.2.2.2.2.2.2.1 (Dn.2.1.2.2 _ _ hg).1 hkn (S.tb hl rfl) hdecl hn hfit hk (Or.inr ⟨S.2.2.2.2.1 hini, hC⟩) hd (fun H1 j h1 h2 h3 => kk H1 _ (Dn.2.1.up h2 h3 hba h1) (Dn.2.2.1.put h2 h3 hba))

theorem sn_iast : Ru_iast (Sn l D cA base) := by
  intro M pc L st G r a n i x f hd hg hi h
  refine h.stU (fun _ _ _ _ _ _ _ _ _ _ _ _ _ _ _ _ _ S Dn kk => ?_)
  have hba := Dn.2.1.bs hg (fun x hx => by cases hx)
  have hat := (Dn.2.1.2.2 _ _ hg).1
  rcases hat with ⟨h4, hat⟩ | ⟨hat, -⟩
  · refine W.iast S.1 S.2.1 hat ((S.2.2.2.2.2.2.2.2.1).2 0 _ rfl |>.1 n (fun j => .int (f j))) (fun q => by cases q) (by show ¬ (i < 0 ∨ (arrV _ _ _).slots.size ≤ _); rw [arrV_size]; exact hi) rfl rfl hd fun H1 e1 z oq => ?_
    refine kk H1 _ (Dn.2.1.up z oq hba (Or.inl ⟨h4, ?_⟩)) (Dn.2.2.1.put z oq hba)
    show H1[a]? = some (vp_cell _ _)
    rw [e1]
    rw [vp_cell_i, vp_cell_i, arrV_store]
    congr 2
    funext q
    by_cases hq : q = i.toNatClampNeg
    · subst hq
      simp [updV, upd]
    · simp [updV, upd, hq]
  · cases hat
theorem sn_last : Ru_last (Sn l D cA base) := by
  intro M pc L st G r a n i x f hd hg hi h
  refine h.stU (fun _ _ _ _ _ _ _ _ _ _ _ _ _ _ _ _ _ S Dn kk => ?_)
  have hba := Dn.2.1.bs hg (fun x hx => by cases hx)
  have hat := (Dn.2.1.2.2 _ _ hg).1
  rcases hat with ⟨h4, hat⟩ | ⟨hat, -⟩
  · refine W.last S.1 S.2.1 hat ((S.2.2.2.2.2.2.2.2.1).2 1 _ rfl |>.1 n (fun j => .long (f j))) (fun q => by cases q) (by show ¬ (i < 0 ∨ (arrV _ _ _).slots.size ≤ _); rw [arrV_size]; exact hi) rfl rfl hd fun H1 e1 z oq => ?_
    refine kk H1 _ (Dn.2.1.up z oq hba (Or.inl ⟨h4, ?_⟩)) (Dn.2.2.1.put z oq hba)
    show H1[a]? = some (vp_cell _ _)
    rw [e1]
    rw [vp_cell_l, vp_cell_l, arrV_store]
    congr 2
    funext q
    by_cases hq : q = i.toNatClampNeg
    · subst hq
      simp [updV, vp_updL]
    · simp [updV, vp_updL, hq]
  · cases hat
theorem sn_zast : Ru_zast (Sn l D cA base) := by
  intro M pc L st G r a n i x f hd hg hi hnar h
  refine h.stU (fun _ _ _ _ _ _ _ _ _ _ _ _ _ _ _ _ _ S Dn kk => ?_)
  have hba := Dn.2.1.bs hg (fun x hx => by cases hx)
  have hat := (Dn.2.1.2.2 _ _ hg).1
  rcases hat with ⟨h4, hat⟩ | ⟨hat, -⟩
  · refine W.zast S.1 S.2.1 hat ((S.2.2.2.2.2.2.2.2.1).2 2 _ rfl |>.1 n (fun j => .int (f j))) (fun q => by cases q) (by show ¬ (i < 0 ∨ (arrV _ _ _).slots.size ≤ _); rw [arrV_size]; exact hi) rfl rfl hd fun H1 e1 z oq => ?_
    refine kk H1 _ (Dn.2.1.up z oq hba (Or.inl ⟨h4, ?_⟩)) (Dn.2.2.1.put z oq hba)
    show H1[a]? = some (vp_cell _ _)
    rw [e1]
    rw [vp_cell_i, vp_cell_i, arrV_store]
    congr 2
    funext q
    by_cases hq : q = i.toNatClampNeg
    · subst hq
      simp [updV, upd]; unfold vp_nar at hnar; simp only [narrow] at hnar ⊢; rw [hnar]
    · simp [updV, upd, hq]
  · cases hat
theorem sn_aast : Ru_aast (Sn l D cA base) := by
  intro M pc L st G r a n v i fs f hd hg hv hi h
  refine h.stU (fun _ _ _ _ _ _ _ _ _ _ _ _ _ _ _ _ _ S Dn kk => ?_)
  have hba := Dn.2.1.bs hg (fun x hx => by cases hx)
  have hlt : i.toNatClampNeg < n := Nat.not_le.mp fun q => hi (Or.inr q)
  have h0 : ¬ i < 0 := fun q => hi (Or.inl q)
  have hat := (Dn.2.1.2.2 _ _ hg).1
  have hvt := (Dn.2.1.2.2 _ _ hv).1
  obtain ⟨r', hr', cellV, g1, g2, g3, -⟩ := hvt
  have hK := S.2.2.2.2.2.2.2.2.1
  have hcls := (hK.1 1 _ cf1.1).2
  obtain ⟨kA, comp, k1, k2, k3, -⟩ := (hK.2 3 _ rfl).2
  have hcomp : comp = D.1 1 := Option.some.inj (k3.symm.trans hcls.1)
  subst hcomp
  have hcl2 := hcls
  obtain ⟨kC, hkC, -⟩ := hcls.2
  rcases hat with ⟨h4, hat⟩ | ⟨hat, -⟩
  · refine W.aast S.1 S.2.1 hat (fun q h => by cases h) (fun h => by cases h) k1 k2 rfl hkC ⟨h0, by show _ < (arrV _ _ _).slots.size; rw [arrV_size]; exact hlt⟩ g1 (fun q h => by rw [g3] at h; cases h) (by rw [g2]; exact hkC) (by rw [g2]; exact va_assign hcl2) rfl rfl hd fun H1 e1 z oq => ?_
    refine kk H1 _ (Dn.2.1.up z oq hba (Or.inl ⟨h4, ?_⟩)) (Dn.2.2.1.put z oq hba)
    show H1[a]? = some (vp_cell _ _)
    rw [e1]
    rw [vp_cell_q, vp_cell_q, arrV_store]
    congr 2
    funext q
    by_cases hq : q = i.toNatClampNeg
    · subst hq
      simp [updV, va_up, va_rf]
    · simp [updV, va_up, hq]
  · cases hat
theorem va_S.nw {A : Nat → Prop} {H0 H H1 : Heap} {locs : List Loc} (h : va_S A H0 H locs) (hz : H1.size = H.size + 1) (oq : ∀ q, q < H.size → H1[q]? = H[q]?) : va_S A H0 H1 locs := ⟨Nat.le_trans h.1 (by omega), fun x h1 h2 => (oq x (Nat.lt_of_lt_of_le h1 h.1)).trans (h.2.1 x h1 h2), h.2.2⟩
theorem sn_new : Ru_new (Sn l D cA base) := by
  intro M pc L st G r idx ci fs hd hl h
  obtain ⟨C, T, n, ty, hcf, hcl, hn, hdef⟩ := hl
  subst hn
  refine h.stN (fun _ _ _ _ _ _ _ _ _ _ _ _ _ _ _ _ _ S Dn hc hs kk => ?_)
  have hKn := (S.2.2.2.2.2.2.2.2.1).1 ci _ hcf.1
  refine W.newcK S.1 S.2.1 S.2.2.2.1 (S.tb hcl rfl) (S.tb hcf.2.2.2.2.1 rfl) (S.tb hcf.2.2.2.2.2 rfl) rfl hd hc hs hKn.2.1 rfl fun H1 kC hkC e1 z1 o1 => ?_
  have hz := Dn.2.1.1
  refine W.eq (g2 := F0 _ _ _ (.ref G.1 :: st)) (by rw [← hz]) ?_
  exact kk H1 (Dn.2.1.new z1 o1 ⟨_, hcf.1, (u_born ty S.2.2.2.2.2.1 hcf.hin hKn hkC e1 hcf.2.2.1).to hdef⟩) (Dn.2.2.1.nw z1 o1)

theorem sn_newi : Ru_newi (Sn l D cA base) := by
  intro M pc L st G r n x hd h0 hn hle h
  refine h.stN (fun _ _ _ _ _ _ _ _ _ _ _ _ _ _ _ _ _ S Dn hc hs kk => ?_)
  refine va_newaK (atype := .int) S.1 S.2.1 (S.tb ka_int rfl) rfl hd rfl h0 hn (by show n * 4 ≤ _; omega) hc hs rfl fun H1 c1 e1 z1 o1 hAr hNm => ?_
  have hra := ((S.2.2.2.2.2.2.2.2.1).2 0 _ rfl).2
  have hce : c1 = cA 0 := Option.some.inj (hNm.symm.trans hra)
  subst hce
  have hz := Dn.2.1.1
  refine W.eq (g2 := F0 _ _ _ (.ref G.1 :: st)) (by rw [← hz]) ?_
  exact kk H1 (Dn.2.1.new z1 o1 (Or.inl ⟨by decide, e1⟩)) (Dn.2.2.1.nw z1 o1)
theorem sn_newl : Ru_newl (Sn l D cA base) := by
  intro M pc L st G r n x hd h0 hn hle h
  refine h.stN (fun _ _ _ _ _ _ _ _ _ _ _ _ _ _ _ _ _ S Dn hc hs kk => ?_)
  refine va_newaK (atype := .long) S.1 S.2.1 (S.tb ka_long rfl) rfl hd rfl h0 hn (by show n * 8 ≤ _; omega) hc hs rfl fun H1 c1 e1 z1 o1 hAr hNm => ?_
  have hra := ((S.2.2.2.2.2.2.2.2.1).2 1 _ rfl).2
  have hce : c1 = cA 1 := Option.some.inj (hNm.symm.trans hra)
  subst hce
  have hz := Dn.2.1.1
  refine W.eq (g2 := F0 _ _ _ (.ref G.1 :: st)) (by rw [← hz]) ?_
  exact kk H1 (Dn.2.1.new z1 o1 (Or.inl ⟨by decide, e1⟩)) (Dn.2.2.1.nw z1 o1)
theorem sn_newz : Ru_newz (Sn l D cA base) := by
  intro M pc L st G r n x hd h0 hn hle h
  refine h.stN (fun _ _ _ _ _ _ _ _ _ _ _ _ _ _ _ _ _ S Dn hc hs kk => ?_)
  refine va_newaK (atype := .boolean) S.1 S.2.1 (S.tb ka_boolean rfl) rfl hd rfl h0 hn (by show n * 1 ≤ _; omega) hc hs rfl fun H1 c1 e1 z1 o1 hAr hNm => ?_
  have hra := ((S.2.2.2.2.2.2.2.2.1).2 2 _ rfl).2
  have hce : c1 = cA 2 := Option.some.inj (hNm.symm.trans hra)
  subst hce
  have hz := Dn.2.1.1
  refine W.eq (g2 := F0 _ _ _ (.ref G.1 :: st)) (by rw [← hz]) ?_
  exact kk H1 (Dn.2.1.new z1 o1 (Or.inl ⟨by decide, e1⟩)) (Dn.2.2.1.nw z1 o1)
theorem sn_anew : Ru_anew (Sn l D cA base) := by
  intro M pc L st G r idx n x hd hl h0 hn hle h
  refine h.stN (fun _ _ _ _ _ _ _ _ _ _ _ _ H _ _ _ _ S Dn hc hs kk => ?_)
  subst hn
  refine W.anew S.1 S.2.1 S.2.2.2.1 (S.tb hl.1 rfl) (va_AO.use S.2.2.2.2.2.2.2.1) rfl hd rfl h0 (by omega) hc hs fun c1 kA comp f1 f2 f3 f4 => ?_
  obtain ⟨kA2, comp2, k1, k2, k3, k4⟩ := ((S.2.2.2.2.2.2.2.2.1).2 3 _ rfl).2
  have hce : c1 = cA 3 := Option.some.inj (f1.symm.trans k4)
  subst hce
  have hz := Dn.2.1.1
  refine W.eq (g2 := F0 _ _ _ (.ref G.1 :: st)) (by rw [← hz]) ?_
  have z1 : ∀ x : Cell, (H.push x).size = H.size + 1 := fun x => Array.size_push x
  refine kk _ (Dn.2.1.new (z1 _) (fun q hq => ?_) (Or.inl ⟨by decide, ?_⟩)) (Dn.2.2.1.nw (z1 _) (fun q hq => ?_))
  · rw [Array.getElem?_push, if_neg (Nat.ne_of_lt hq)]
  · show _ = some (vp_cell _ _)
    rw [Array.getElem?_push_size, vp_cell_q, ← arrV_new]
    rfl
  · rw [Array.getElem?_push, if_neg (Nat.ne_of_lt hq)]
theorem sn_objI : Ru_objI (Sn l D cA base) := by
  intro M pc L st G r idx a hd hl hf hlc h
  refine h.stA (fun _ _ _ _ _ _ _ _ _ _ _ _ _ _ _ _ _ S Dn kk => ?_)
  have hR := S.2.2.2.2.2.2.2.2.2.2.2.1
  exact W.objInit S.1 S.2.1 S.2.2.2.1 (S.tb hl.1 rfl) (S.tb hl.2.1 rfl) (S.tb hl.2.2 rfl) rfl (Dn.1.1.trans S.2.2.1.symm) rfl hd (Nat.le_trans hf hR.1) (by show 2 * 0 + _ + 12 ≤ _; have := hR.2; omega) kk
theorem sn_mmax : Ru_mmax (Sn l D cA base) := by
  intro M pc L st G r idx x y hd hl hf hlc h
  refine ⟨h.1, h.2.1, fun p e R s m args below meth cd mc ms Q S H locs cells slots ls Dn => ?_⟩
  have hR := S.2.2.2.2.2.2.2.2.2.2.2.1
  have hc := S.2.2.2.2.2.2.2.2.2.2.1
  have h1 := Dn.2.2.2
  exact va_mmax S.1 S.2.1 (S.2.2.1.trans Dn.1.1.symm) S.2.2.2.1 (S.tb hl.1 rfl) (S.tb hl.2.1 rfl) (S.tb hl.2.2.1 rfl) (S.tb hl.2.2.2 rfl) (Nat.le_trans hf hR.1) (Nat.le_trans hlc hR.2) (by omega) (by omega) hd (h.2.2 p e R s m args below meth cd mc ms Q S H locs cells slots ls Dn)
theorem sn_mmin : Ru_mmin (Sn l D cA base) := by
  intro M pc L st G r idx x y hd hl hf hlc h
  refine ⟨h.1, h.2.1, fun p e R s m args below meth cd mc ms Q S H locs cells slots ls Dn => ?_⟩
  have hR := S.2.2.2.2.2.2.2.2.2.2.2.1
  have hc := S.2.2.2.2.2.2.2.2.2.2.1
  have h1 := Dn.2.2.2
  exact va_mmin S.1 S.2.1 (S.2.2.1.trans Dn.1.1.symm) S.2.2.2.1 (S.tb hl.1 rfl) (S.tb hl.2.1 rfl) (S.tb hl.2.2.1 rfl) (S.tb hl.2.2.2 rfl) (Nat.le_trans hf hR.1) (Nat.le_trans hlc hR.2) (by omega) (by omega) hd (h.2.2 p e R s m args below meth cd mc ms Q S H locs cells slots ls Dn)
theorem nn_clamp (z : Int32) (hz : ¬ z < 0) : z.toInt = (z.toNatClampNeg : Int) := by
  have hz0 : (0 : Int) ≤ z.toInt := by
    have := Int32.not_lt.mp hz
    simpa using Int32.le_iff_toInt_le.mp this
  show z.toInt = ((z.toInt.toNat : Nat) : Int)
  omega

theorem sn_copyi : Ru_copyi (Sn l D cA base) := by
  intro M pc L st G r idx a b n1 n2 sp dp n f g hd hl ha hb h1 h2 h3 h4 h5 hf hlc h
  refine h.stU (fun _ _ _ _ _ _ _ _ _ _ _ _ _ _ _ _ _ S Dn kk => ?_)
  have hba := Dn.2.1.bs hb (fun x hx => by cases hx)
  have hR := S.2.2.2.2.2.2.2.2.2.2.2.1
  have hK := S.2.2.2.2.2.2.2.2.1
  have hata := (Dn.2.1.2.2 _ _ ha).1
  have hatb := (Dn.2.1.2.2 _ _ hb).1
  replace hata := hata.resolve_right (fun h => by cases h.1)
  replace hatb := hatb.resolve_right (fun h => by cases h.1)
  obtain ⟨-, hata⟩ := hata
  obtain ⟨ht4, hatb⟩ := hatb
  intro T hT X
  obtain ⟨-, k0, hk0, cm0, hkk0⟩ := (hK.2 0 _ rfl).1 n1 (fun j => .int (f j))
  obtain ⟨-, k1, hk1, cm1, hkk1⟩ := (hK.2 0 _ rfl).1 n2 (fun j => .int (g j))
  obtain ⟨vm', X', step⟩ := X.arraycopy S.1 S.2.2.2.1 (S.tb hl.1 rfl) (S.tb hl.2.1 rfl) (S.tb hl.2.2.1 rfl) (S.tb hl.2.2.2 rfl) (src := a) (dst := b) (cs := vp_cell (cA 0) (n1, .inl f)) (cd := vp_cell (cA 0) (n2, .inl g)) (srcPos := sp) (destPos := dp) (n := n) (by rw [hT]; exact hata) (by rw [hT]; exact hatb)
    (fun _ h => by cases h) (fun _ h => by cases h) (fun h => by cases h) (fun h => by cases h) hk0 hk1 hkk0 hkk1 (by simp [refKind]) h1 h2 h3
    (by rw [nn_clamp sp h1, nn_clamp n h3]; show ¬ _ > ((arrV (cA 0) n1 (fun j => .int (f j))).slots.size : Int); rw [arrV_size]; omega)
    (by rw [nn_clamp dp h2, nn_clamp n h3]; show ¬ _ > ((arrV (cA 0) n2 (fun j => .int (g j))).slots.size : Int); rw [arrV_size]; omega)
    (fun vm₁ _ i hi => by
      have e : (vp_cell (cA 0) (n1, .inl f)).slots.getD (sp.toNatClampNeg + i) .null = .int (f (sp.toNatClampNeg + i)) := by
        show (arrV (cA 0) n1 (fun j => .int (f j))).slots.getD _ _ = _
        rw [Array.getD_eq_getD_getElem?, arrV_read _ _ (by omega)]
        rfl
      refine ⟨?_, ?_⟩
      · rw [e]
        rfl
      · rw [e]
        exact trivial)
    (g := F0 _ pc _ (.int n :: .int dp :: .ref b :: .int sp :: .ref a :: st)) rfl (Dn.1.1.trans S.2.2.1.symm) (rest := st) rfl (by rw [S.2.1]; exact hd) (Nat.le_trans hf hR.1) (by show 2 * 0 + _ + (7 + 11) ≤ _; have := hR.2; omega)
  have e1 : copied (vp_cell (cA 0) (n1, .inl f)) (vp_cell (cA 0) (n2, .inl g)) sp dp n = vp_cell (cA 0) (n2, .inl (va_cpy f g sp.toNatClampNeg dp.toNatClampNeg n.toNatClampNeg)) := va_copied (fun z => .int z) (cA 0) (cA 0) f g h4
  rw [e1] at X' step
  have hlt : b < T.heap.size := by rw [hT]; exact (Array.getElem?_eq_some_iff.mp hatb).1
  have oq : ∀ q : Nat, q ≠ b → (T.heap.setIfInBounds b (vp_cell (cA 0) (n2, .inl (va_cpy f g sp.toNatClampNeg dp.toNatClampNeg n.toNatClampNeg))))[q]? = T.heap[q]? := fun q hq => by simp [Array.getElem?_setIfInBounds, Ne.symm hq]
  subst hT
  obtain ⟨t, a1, b1⟩ := kk _ _ (Dn.2.1.up (by simp) oq hba (Or.inl ⟨ht4, show (T.heap.setIfInBounds b _)[b]? = some _ by simp [Array.getElem?_setIfInBounds, hlt]⟩)) ⟨by simp; exact Dn.2.2.1.1, fun q g1 g2 => by
      rw [oq q (fun e => g2 (by rw [e]; exact hba))]
      exact Dn.2.2.1.2.1 q g1 g2, fun q hq => by
      rcases List.mem_append.mp hq with h | h
      · exact Dn.2.2.1.2.2 q h
      · obtain ⟨z, -, hz⟩ := List.mem_map.mp h
        rw [← hz]
        exact hba⟩ _ rfl X'
  exact ⟨t, step t a1, b1⟩
theorem sn_copyl : Ru_copyl (Sn l D cA base) := by
  intro M pc L st G r idx a b n1 n2 sp dp n f g hd hl ha hb h1 h2 h3 h4 h5 hf hlc h
  refine h.stU (fun _ _ _ _ _ _ _ _ _ _ _ _ _ _ _ _ _ S Dn kk => ?_)
  have hba := Dn.2.1.bs hb (fun x hx => by cases hx)
  have hR := S.2.2.2.2.2.2.2.2.2.2.2.1
  have hK := S.2.2.2.2.2.2.2.2.1
  have hata := (Dn.2.1.2.2 _ _ ha).1
  have hatb := (Dn.2.1.2.2 _ _ hb).1
  replace hata := hata.resolve_right (fun h => by cases h.1)
  replace hatb := hatb.resolve_right (fun h => by cases h.1)
  obtain ⟨-, hata⟩ := hata
  obtain ⟨ht4, hatb⟩ := hatb
  intro T hT X
  obtain ⟨-, k0, hk0, cm0, hkk0⟩ := (hK.2 1 _ rfl).1 n1 (fun j => .long (f j))
  obtain ⟨-, k1, hk1, cm1, hkk1⟩ := (hK.2 1 _ rfl).1 n2 (fun j => .long (g j))
  obtain ⟨vm', X', step⟩ := X.arraycopy S.1 S.2.2.2.1 (S.tb hl.1 rfl) (S.tb hl.2.1 rfl) (S.tb hl.2.2.1 rfl) (S.tb hl.2.2.2 rfl) (src := a) (dst := b) (cs := vp_cell (cA 1) (n1, .inr (.inl f))) (cd := vp_cell (cA 1) (n2, .inr (.inl g))) (srcPos := sp) (destPos := dp) (n := n) (by rw [hT]; exact hata) (by rw [hT]; exact hatb)
    (fun _ h => by cases h) (fun _ h => by cases h) (fun h => by cases h) (fun h => by cases h) hk0 hk1 hkk0 hkk1 (by simp [refKind]) h1 h2 h3
    (by rw [nn_clamp sp h1, nn_clamp n h3]; show ¬ _ > ((arrV (cA 1) n1 (fun j => .long (f j))).slots.size : Int); rw [arrV_size]; omega)
    (by rw [nn_clamp dp h2, nn_clamp n h3]; show ¬ _ > ((arrV (cA 1) n2 (fun j => .long (g j))).slots.size : Int); rw [arrV_size]; omega)
    (fun vm₁ _ i hi => by
      have e : (vp_cell (cA 1) (n1, .inr (.inl f))).slots.getD (sp.toNatClampNeg + i) .null = .long (f (sp.toNatClampNeg + i)) := by
        show (arrV (cA 1) n1 (fun j => .long (f j))).slots.getD _ _ = _
        rw [Array.getD_eq_getD_getElem?, arrV_read _ _ (by omega)]
        rfl
      refine ⟨?_, ?_⟩
      · rw [e]
        rfl
      · rw [e]
        exact trivial)
    (g := F0 _ pc _ (.int n :: .int dp :: .ref b :: .int sp :: .ref a :: st)) rfl (Dn.1.1.trans S.2.2.1.symm) (rest := st) rfl (by rw [S.2.1]; exact hd) (Nat.le_trans hf hR.1) (by show 2 * 0 + _ + (7 + 11) ≤ _; have := hR.2; omega)
  have e1 : copied (vp_cell (cA 1) (n1, .inr (.inl f))) (vp_cell (cA 1) (n2, .inr (.inl g))) sp dp n = vp_cell (cA 1) (n2, .inr (.inl (va_cpy f g sp.toNatClampNeg dp.toNatClampNeg n.toNatClampNeg))) := va_copied (fun z => .long z) (cA 1) (cA 1) f g h4
  rw [e1] at X' step
  have hlt : b < T.heap.size := by rw [hT]; exact (Array.getElem?_eq_some_iff.mp hatb).1
  have oq : ∀ q : Nat, q ≠ b → (T.heap.setIfInBounds b (vp_cell (cA 1) (n2, .inr (.inl (va_cpy f g sp.toNatClampNeg dp.toNatClampNeg n.toNatClampNeg)))))[q]? = T.heap[q]? := fun q hq => by simp [Array.getElem?_setIfInBounds, Ne.symm hq]
  subst hT
  obtain ⟨t, a1, b1⟩ := kk _ _ (Dn.2.1.up (by simp) oq hba (Or.inl ⟨ht4, show (T.heap.setIfInBounds b _)[b]? = some _ by simp [Array.getElem?_setIfInBounds, hlt]⟩)) ⟨by simp; exact Dn.2.2.1.1, fun q g1 g2 => by
      rw [oq q (fun e => g2 (by rw [e]; exact hba))]
      exact Dn.2.2.1.2.1 q g1 g2, fun q hq => by
      rcases List.mem_append.mp hq with h | h
      · exact Dn.2.2.1.2.2 q h
      · obtain ⟨z, -, hz⟩ := List.mem_map.mp h
        rw [← hz]
        exact hba⟩ _ rfl X'
  exact ⟨t, step t a1, b1⟩
end SNW
