/-! bits of the links -/
theorem sh_amt : ∀ j : Fin 64, ((nI j.val).toInt64.toUInt64 &&& Int64.toUInt64 63) = UInt64.ofNat j.val := by decide
theorem sh_one : ∀ j : Fin 64, (lN 1 <<< ((nI j.val).toInt64 &&& 63)).toUInt64.toNat = 2 ^ j.val := by decide
theorem tb_iff {c : Int64} {j : Nat} (hj : j < 64) : tb c j ↔ c.toUInt64.toNat.testBit j = true := by
  unfold tb
  rw [sh_amt ⟨j, hj⟩]
  have e1 : ∀ x : Int64, lg_cmp x (lN 0) = 0 ↔ x = lN 0 := fun x => by
    unfold lg_cmp
    constructor
    · intro h
      split at h
      · cases h
      · split at h
        · assumption
        · cases h
    · intro h
      rw [h, if_neg (Int64.lt_irrefl), if_pos rfl]
  rw [e1]
  have e2 : ((c.toUInt64 >>> UInt64.ofNat j).toInt64 &&& lN 1 = lN 0) ↔ ((c.toUInt64 >>> UInt64.ofNat j) &&& 1).toNat = 0 := by
    constructor
    · intro h
      have := congrArg (fun z : Int64 => z.toUInt64.toNat) h
      exact this
    · intro h
      apply Int64.toBitVec_inj.mp
      apply BitVec.eq_of_toNat_eq
      exact h
  rw [e2, UInt64.toNat_and, UInt64.toNat_shiftRight]
  have e3 : (UInt64.ofNat j).toNat % 64 = j := by
    rw [UInt64.toNat_ofNat']
    omega
  rw [e3, show (1 : UInt64).toNat = 1 from rfl, Nat.and_one_is_mod, Nat.shiftRight_eq_div_pow, Nat.testBit_eq_decide_div_mod_eq, decide_eq_true_eq]
  omega
theorem flp_n {c : Int64} {j : Nat} (hj : j < 64) : (flp c j).toUInt64.toNat = c.toUInt64.toNat ^^^ 2 ^ j := by
  unfold flp
  rw [Int64.toUInt64_xor, UInt64.toNat_xor, sh_one ⟨j, hj⟩]
theorem tb_eq {c : Int64} {j : Nat} (hj : j < 64) : tb (flp c j) j ↔ ¬ tb c j := by
  rw [tb_iff hj, tb_iff hj, flp_n hj, Nat.testBit_xor, Nat.testBit_two_pow_self]
  cases c.toUInt64.toNat.testBit j <;> simp
theorem tb_ne {c : Int64} {i j : Nat} (hi : i < 64) (hj : j < 64) (h : i ≠ j) : tb (flp c j) i ↔ tb c i := by
  rw [tb_iff hi, tb_iff hi, flp_n hj, Nat.testBit_xor, Nat.testBit_two_pow_of_ne (Ne.symm h)]
  simp
theorem tb_0 {j : Nat} (hj : j < 64) : ¬ tb 0 j := by
  rw [tb_iff hj, show (Int64.toUInt64 0).toNat = 0 from rfl, Nat.zero_testBit]
  decide
/-- the links after a change -/
theorem ct_at {c : Nat → Int64} {i j : Nat} (hne : i ≠ j) (k : Nat) : vp_updL (vp_updL c i (flp (c i) j)) j (flp (vp_updL c i (flp (c i) j) j) i) k = if k = j then flp (c j) i else if k = i then flp (c i) j else c k := by
  unfold vp_updL
  by_cases h : k = j
  · rw [if_pos h, if_pos h, if_neg (Ne.symm hne)]
  · rw [if_neg h, if_neg h]
theorem ct_tb {c : Nat → Int64} {i j : Nat} (hi : i < 64) (hj : j < 64) (hne : i ≠ j) (hs : symC c) {a b : Nat} (ha : a < 64) (hb : b < 64) : tb (vp_updL (vp_updL c i (flp (c i) j)) j (flp (vp_updL c i (flp (c i) j) j) i) a) b ↔ if (a = i ∧ b = j) ∨ (a = j ∧ b = i) then ¬ tb (c i) j else tb (c a) b := by
  rw [ct_at hne]
  by_cases h1 : a = j
  · subst h1
    rw [if_pos rfl]
    by_cases h2 : b = i
    · subst h2
      rw [if_pos (Or.inr ⟨rfl, rfl⟩), tb_eq hb, hs a b ha hb]
    · rw [if_neg (fun q => q.elim (fun z => hne z.1.symm) (fun z => h2 z.2)), tb_ne hb hi h2]
  · rw [if_neg h1]
    by_cases h2 : a = i
    · subst h2
      rw [if_pos rfl]
      by_cases h3 : b = j
      · subst h3
        rw [if_pos (Or.inl ⟨rfl, rfl⟩), tb_eq hb]
      · rw [if_neg (fun q => q.elim (fun z => h3 z.2) (fun z => h1 z.1)), tb_ne hb hj h3]
    · rw [if_neg h2, if_neg (fun q => q.elim (fun z => h2 z.1) (fun z => h1 z.1))]
theorem ct_sym {c : Nat → Int64} {i j : Nat} (hi : i < 64) (hj : j < 64) (hne : i ≠ j) (hs : symC c) : symC (vp_updL (vp_updL c i (flp (c i) j)) j (flp (vp_updL c i (flp (c i) j) j) i)) := by
  intro a b ha hb
  rw [ct_tb hi hj hne hs ha hb, ct_tb hi hj hne hs hb ha]
  by_cases h : (a = i ∧ b = j) ∨ (a = j ∧ b = i)
  · rw [if_pos h, if_pos (by omega)]
  · rw [if_neg h, if_neg (by omega)]
    exact hs a b ha hb
/-! the acts -/
theorem eoF_INV {N m x : Nat} {A : AW} (h : INV N N A) (hmb : m < 64) (hd : mdA A m) (hx : x < 64) : INV N N (eoF m A x) := by
  unfold eoF
  split
  · split
    · exact h.tl
    · exact (h.tl.tl).set (A := tlA (tlA A (nI 8)) (nI 9)) hd (okMm_en (h.m hmb hd) ⟨3, by omega, by omega, rfl⟩ ((h.m hmb hd).2.2.2.2.2 x hx).2.2.1 (Or.inl rfl)) hd
  · exact h
theorem eoR_INV {N m : Nat} (hmb : m < 64) : ∀ (c i : Nat) (A : AW), i + c ≤ 64 → INV N N A → mdA A m → INV N N (eoR m i c A)
  | 0, i, A, _, h, _ => h
  | c + 1, i, A, hi, h, hd => eoR_INV hmb c (i + 1) (eoF m A i) (by omega) (eoF_INV h hmb hd (by omega)) (by unfold mdA; rw [eoF_k.2.1]; exact hd)
theorem askT_INV {N m : Nat} {A : AW} (h : INV N N A) (hmb : m < 64) (hd : mdA A m) (hl : bL (aB A) + 1 ≤ 1200) (hp : bP (aB A) + 6 ≤ 20000) : INV N N (askT A m).1 := by
  unfold askT
  have hM := h.m hmb hd
  cases ho : nxO (A.1 m) with
  | none => exact h
  | some i =>
    dsimp only
    obtain ⟨n, hn1, hn2, hin⟩ := nxO_lt hM.2.2.2.2.1 ho
    obtain ⟨n', q, k1, k2, k3, k4, k5⟩ := hM.2.2.2.2.1
    obtain rfl : n' = n := eqT (k1.symm.trans hn1) (by omega) (by omega)
    obtain ⟨x, hx, -, ex⟩ := k5 i hin
    have h1 : INV N N (aSet A m (meSI (A.1 m) 15 (nI (i + 1)))) := h.set hd (okMm_15 hM hn1 hin hn2) hd
    have hd1 : mdA (aSet A m (meSI (A.1 m) 15 (nI (i + 1)))) m := by unfold mdA; rw [aSet_m]; exact hd
    have h2 := sndA_INV (kind := nI 1) (to := (A.1 m).2.2 36 i) (ab := -1) h1 hmb hd1 hl (by have := pkL_6 (aSet A m (meSI (A.1 m) 15 (nI (i + 1)))) m (nI 1) (by decide); show bP (aB A) + _ ≤ 20000; omega) ⟨x, hx, ex⟩ isN_m1 (fun q => absurd q (by decide))
    have hkp := sndA_keep (A := aSet A m (meSI (A.1 m) 15 (nI (i + 1)))) (m := m) (kind := nI 1) (to := (A.1 m).2.2 36 i) (ab := -1)
    have hd2 : mdA (sndA (aSet A m (meSI (A.1 m) 15 (nI (i + 1)))) m (nI 1) ((A.1 m).2.2 36 i) (-1)) m := by unfold mdA; rw [hkp.1]; exact hd1
    exact h2.set hd2 (okMm_s (h2.m hmb hd2) (Or.inl rfl) (Or.inl (Or.inr ⟨x, hx, ex⟩))) hd2
theorem anA_INV {N m : Nat} {A : AW} (h : INV N N A) (hmb : m < 64) (hd : mdA A m) (hl : bL (aB A) + 1 ≤ 1200) (hp : bP (aB A) + 6 ≤ 20000) : INV N N (anA A m).1 := by
  unfold anA
  split
  · have h1 : INV N N (aSet A m (meMkR m (A.1 m))) := h.set hd (okMm_mkR (h.m hmb hd)) hd
    exact askT_INV (A := tlA (aSet A m (meMkR m (A.1 m))) (nI 11)) h1.tl hmb (by show ((aSet A m (meMkR m (A.1 m))).1 m).1 1 = nI 1; rw [aSet_m]; exact hd) hl hp
  · exact askT_INV h hmb hd hl hp
theorem ttA_INV {N m : Nat} {A : AW} (h : INV N N A) (hmb : m < 64) (hd : mdA A m) (hl : bL (aB A) ≤ 1196) (hp : bP (aB A) ≤ 19800) : INV N N (ttA A m).1 := by
  have h1 : INV N N (aSet A m (meSI (A.1 m) 5 ((A.1 m).1 5 + nI 1))) := h.set hd (okMm_s (h.m hmb hd) (Or.inr (Or.inr rfl)) (Or.inr rfl)) hd
  have hd1 : mdA (aSet A m (meSI (A.1 m) 5 ((A.1 m).1 5 + nI 1))) m := by unfold mdA; rw [aSet_m]; exact hd
  have h2 : INV N N (ttB A m) := eoR_INV hmb 64 0 _ (by omega) h1 hd1
  have hd2 : mdA (ttB A m) m := by unfold mdA; rw [ttB_k.2.1]; exact hd
  have h3 : INV N N (ttC A m) := h2.set hd2 (okMm_dbt (h2.m hmb hd2)) (by rw [meDbt_1.1, meSI_ne (by omega)]; exact (show ((ttB A m).1 m).1 1 = nI 1 from hd2))
  obtain ⟨hd3, -, hb3⟩ := ttC_k hd (h.m hmb hd).2.2.2.2.1
  unfold ttA
  split
  · exact anA_INV h3 hmb hd3 (by rw [hb3]; omega) (by rw [hb3]; omega)
  · rename_i c6
    have h4 : INV N N (ttD (ttC A m) m) := h3.set hd3 (okMm_s (okMm_s (h3.m hmb hd3) (Or.inr (Or.inl rfl)) (Or.inl (h3.m hmb hd3).2.2.1)) (Or.inl rfl) (Or.inl isN_m1)) hd3
    have hd4 : mdA (ttD (ttC A m) m) m := by unfold mdA; rw [ttD_k.1]; exact hd3
    have hb4 : aB (ttD (ttC A m) m) = aB A := ttD_k.2.trans hb3
    have e18 : pmx (nI 2) = 6 := by decide
    have h5 := sdA_INV (kind := nI 2) (ab := ((ttC A m).1 m).1 6) h4 hmb hd4 (by rw [hb4]; omega) (by rw [hb4, e18]; omega) (h3.m hmb hd3).2.2.1 (fun _ => c6)
    have hk := sdA_k (A := ttD (ttC A m) m) (m := m) (kind := nI 2) (ab := ((ttC A m).1 m).1 6)
    rw [hb4, e18] at hk
    exact anA_INV h5 hmb (by unfold mdA; rw [hk.1]; exact hd4) (by omega) (by omega)
theorem gwA_INV {N m : Nat} {A : AW} (h : INV N N A) (hmb : m < 64) (hd : mdA A m) (hl : bL (aB A) ≤ 1196) (hp : bP (aB A) ≤ 19800) : INV N N (gwA A m).1 := by
  have hM := h.m hmb hd
  have h1 : okMm N (aB A) m (meEn (A.1 m) m (nI 4) ((A.1 m).1 4) (-1)) := okMm_en hM ⟨4, by omega, by omega, rfl⟩ hM.2.1 (Or.inl rfl)
  have h2 : okMm N (aB A) m (meStop (meSI (meEn (A.1 m) m (nI 4) ((A.1 m).1 4) (-1)) 2 (nI 2))) := by
    refine okMm_stop ?_
    obtain ⟨a1, a2, a3, a4, a5, a6⟩ := h1
    exact ⟨⟨2, by omega, rfl⟩, a2, a3, a4, wfR_cg a5 rfl rfl rfl, a6⟩
  have h3 : INV N N (gwB A m) := h.set hd h2 hd
  have hd3 : mdA (gwB A m) m := by unfold gwB mdA; rw [aSet_m]; exact hd
  have e : pmx (nI 6) = 64 := by decide
  exact sdA_INV h3 hmb hd3 (by show bL (aB A) + 3 ≤ 1200; omega) (by rw [e]; show bP (aB A) + _ ≤ 20000; omega) isN_m1 (fun q => absurd q (by decide))
theorem faA_INV {N m : Nat} {A : AW} (h : INV N N A) (hmb : m < 64) (hd : mdA A m) : INV N N (faA A m).1 := h.set hd (okMm_fgt ⟨⟨1, by omega, rfl⟩, (h.m hmb hd).2.1⟩) hd
theorem riA_INV {N m : Nat} {A : AW} (h : INV N N A) (hmb : m < 64) (hd : mdA A m) : INV N (N + 1) (riA A m).1 := by
  have hM := h.m hmb hd
  have h1 : okMm (N + 1) (aB A) m (meSI (A.1 m) 2 (nI 0)) := by
    obtain ⟨a1, a2, a3, a4, a5, a6⟩ := hM.up (P' := N + 1) (by omega) (Nat.le_refl _) (fun _ _ _ q => q)
    exact ⟨⟨0, by omega, rfl⟩, a2, a3, a4, wfR_cg a5 rfl rfl rfl, a6⟩
  obtain ⟨t, ht, et⟩ := hM.2.1
  refine (h.up (by omega)).set hd (okMm_rai h1 ⟨t + 1, by omega, ?_⟩) hd
  show (A.1 m).1 4 + nI 1 = _
  rw [et, nI_add]
theorem aMk_INV {N m : Nat} {A : AW} {sd : Int64} (h : INV N N A) (hN : 1 ≤ N) (hmb : m < 64) (hd : ¬ mdA A m) : INV N N (aMk A m sd) := by
  obtain ⟨b1, b2, b3, b4⟩ := h
  have hM : okMm N (aB A) m (meBgn m sd (A.1 m)) := okMm_fgt ⟨⟨0, by omega, rfl⟩, 1, hN, rfl⟩
  refine ⟨b1, fun m' hm' hd' => ?_, ?_, b4⟩
  · by_cases e : m' = m
    · subst e
      show okMm N (aB A) m' ((aSet A m' (meBgn m' sd (A.1 m'))).1 m')
      rw [aSet_m]
      exact hM
    · have e2 : (aMk A m sd).1 m' = A.1 m' := aSet_ne e
      rw [e2] at hd' ⊢
      exact b2 m' hm' hd'
  · show A.2.1 + 1 = cntM (aSet A m (meBgn m sd (A.1 m))).1
    rw [b3]
    unfold cntM
    have := sel_up (c := fun m => decide ((A.1 m).1 1 = nI 1)) (c' := fun i => decide (((aSet A m (meBgn m sd (A.1 m))).1 i).1 1 = nI 1)) (l := m) (decide_eq_false hd) (by rw [aSet_m]; rfl) (fun i hi => by rw [aSet_ne hi]) 64
    rw [this, if_pos hmb]
theorem cpR_INV {N l k s : Nat} {C : Bk} : ∀ (c i : Nat) (B : Bk), i + c = k → okB N B → opK B i → pOk B l k s → l + 1 < bL B → (∀ j, j < k → okP N B l (s + j)) → bP B + c ≤ 20000 → (∀ a b, hasQ C a b → hasQ B a b) → okB N (cpR s i c B) ∧ (∀ a b, hasQ C a b → hasQ (cpR s i c B) a b) ∧ bL (cpR s i c B) = bL B
  | 0, i, B, _, h, _, _, _, _, _, hq => ⟨h, hq, rfl⟩
  | c + 1, i, B, hi, h, ho, hp, hl, hP, hb, hq => by
    obtain ⟨x, kd, h1, h2, h3, h4, h5, h6, h7⟩ := hP i (by omega)
    have hk : i < 64 := by have := hp.2.2.2.2; omega
    have hpu := okB_pu (x := x) (kd := kd) (term := bp B (s + i) 2) (br := bp B (s + i) 3) h ho hk (by omega) h1 ⟨h3, h4⟩ h6 (h7.imp id (fun ⟨l', a, b, c⟩ => ⟨l', by omega, b, c⟩))
    have e : cpF s B i = puB B (nI x) (nI kd) (bp B (s + i) 2) (bp B (s + i) 3) := by unfold cpF; rw [h2, h5]
    have hq2 : ∀ a b, hasQ B a b → hasQ (cpF s B i) a b := fun a b q => by rw [e]; exact hasQ_pu h.2.1 ho hk q
    have := cpR_INV (N := N) (l := l) (k := k) (s := s) (C := C) c (i + 1) (cpF s B i) (by omega) (by rw [e]; exact hpu.1) (by rw [e]; exact hpu.2) (by rw [e]; exact pOk_pu hp hl) (by rw [e]; exact hl) (fun j hj => ?_) (by rw [e]; show bP B + 1 + c ≤ 20000; omega) (fun a b q => hq2 a b (hq a b q))
    · refine ⟨this.1, this.2.1, this.2.2.trans ?_⟩
      rw [e]
      rfl
    · obtain ⟨x', kd', d1, d2, d3, d4, d5, d6, d7⟩ := hP j hj
      have hlt : s + j < bP B := by have := hp.2.2.2.1; omega
      have ep : ∀ c, bp (cpF s B i) (s + j) c = bp B (s + j) c := fun c => by rw [e]; exact puB_p hlt
      exact ⟨x', kd', d1, by rw [ep]; exact d2, d3, d4, by rw [ep]; exact d5, by rw [ep]; exact d6, by rw [ep]; exact d7.imp id (fun ⟨l', a, b, c⟩ => ⟨l', a, b, hq2 _ _ c⟩)⟩
theorem cpB_INV {N l k s : Nat} {A : AW} (h : INV N N A) (hp : pOk (aB A) l k s) (hl : bL (aB A) ≤ 1196) (hb : bP (aB A) ≤ 19800) : INV N N (aBk A (cpB (aB A) l k s)) := by
  obtain ⟨k', s', q1, q2, q3, q4, q5, -, q7⟩ := h.1.2.2.1 l hp.1
  obtain ⟨rfl, rfl⟩ := pOk_uni h.1.2.1 hp q1
  obtain ⟨o1, o2⟩ := okB_op (kind := bl (aB A) l 0) (fr := bl (aB A) l 1) (to := bl (aB A) l 2) (ab := bl (aB A) l 3) (cp := nI l) h.1 (by omega) q2 q3 q4 q5
  have hb2 : bP (opB (aB A) (bl (aB A) l 0) (bl (aB A) l 1) (bl (aB A) l 2) (bl (aB A) l 3) (nI l)) + k' ≤ 20000 := by have := hp.2.2.2.2; show bP (aB A) + k' ≤ 20000; omega
  have := cpR_INV (N := N) (l := l) (k := k') (s := s') (C := aB A) k' 0 _ (by omega) o1 o2 (pOk_op hp) (by have := hp.1; show l + 1 < bL (aB A) + 1; omega) (fun j hj => okP_op (q7 j hj)) hb2 (fun a b q => hasQ_op q)
  unfold cpB
  exact h.bk this.1 (by rw [this.2.2]; show bL (aB A) ≤ bL (aB A) + 1; omega) (fun a b _ q => this.2.1 a b q)
theorem liA_INV {N i j : Nat} {A : AW} {b : Prop} (h : INV N N A) (hi : i < 64) (hj : j < 64) (hne : i ≠ j) : INV N N (liA A i j b).1 := by
  unfold liA
  by_cases c : tb (A.2.2.1 i) j ↔ b
  · rw [cIf_t c]; exact h
  · rw [cIf_f c]
    exact ⟨h.1, h.2.1, h.2.2.1, ct_sym hi hj hne h.2.2.2⟩
/-- every act that isn't refused -/
theorem stA_INV {N n v : Nat} {A : AW} {a b : Int32} {sd : Int64} (h : INV N N A) (hN : 1 ≤ N) (hv : 1 ≤ v ∧ v ≤ 11) (hw : whyA A n v a b = nI 0) : INV (N + 1) (N + 1) (stA A v a b sd).1 := by
  obtain ⟨hb, hm, hdn, ha, hr, hn⟩ := whyA_0 hw
  have up : ∀ A', INV N N A' → INV (N + 1) (N + 1) A' := fun A' q => (q.up (by omega)).upN (by omega)
  obtain ⟨h1, h2⟩ := hv
  have hmem : ∀ {x : Int32}, isM x → cl x < 64 ∧ x = nI (cl x) := fun q => cl_of q (by decide)
  have hmd : ∀ {x : Int32}, mdX A x → mdA A (cl x) := fun ⟨i, hi, e, hd⟩ => by rw [e, cl_nI (by omega)]; exact hd
  have hlt : ∀ {x : Int32}, isLt A x → cl x < bL (aB A) ∧ x = nI (cl x) := fun q => cl_of q (by omega)
  obtain rfl | rfl | rfl | rfl | rfl | rfl | rfl | rfl | rfl | rfl | rfl : v = 1 ∨ v = 2 ∨ v = 3 ∨ v = 4 ∨ v = 5 ∨ v = 6 ∨ v = 7 ∨ v = 8 ∨ v = 9 ∨ v = 10 ∨ v = 11 := by omega
  · have q := hmem (Classical.not_not.mp hb : isM a)
    exact up _ (aMk_INV h hN q.1 (fun z => ha ⟨cl a, q.1, q.2, z⟩))
  · have qa : isM a := Classical.not_not.mp (fun q => hb (Or.inl q))
    have qb : isM b := Classical.not_not.mp (fun q => hb (Or.inr q))
    have da : mdX A a := Classical.not_not.mp (fun q => hm (Or.inl q))
    exact up _ (sndA_INV h (hmem qa).1 (hmd da) (by omega) (by have := pkL_6 A (cl a) (nI 5) (by decide); omega) ⟨cl b, hmem qb⟩ isN_m1 (fun q => absurd q (by decide)))
  · exact up _ (gwA_INV h (hmem (Classical.not_not.mp hb : isM a)).1 (hmd (Classical.not_not.mp hm)) hr.1 hr.2)
  · exact up _ (ttA_INV h (hmem (Classical.not_not.mp hb : isM a)).1 (hmd (Classical.not_not.mp hm)) hr.1 hr.2)
  · exact up _ (faA_INV h (hmem (Classical.not_not.mp hb : isM a)).1 (hmd (Classical.not_not.mp hm)))
  · exact (riA_INV h (hmem (Classical.not_not.mp hb : isM a)).1 (hmd (Classical.not_not.mp hm))).upN (by omega)
  · have q := hlt (Classical.not_not.mp hb : isLt A a)
    have h0 : bl (aB A) (cl a) 5 = nI 0 := Classical.byContradiction (fun z => hm ⟨cl a, q.1, q.2, z⟩)
    obtain ⟨k, s, q1, -, ⟨t, ht, et⟩, -⟩ := h.1.2.2.1 (cl a) q.1
    have := brA_INV (f := cl (bl (aB A) (cl a) 1)) (t := t) h q.1 h0 q1 ht (by omega) (by omega)
    show INV (N + 1) (N + 1) (brA A (cl a) (cl (bl (aB A) (cl a) 1)) (cl (bl (aB A) (cl a) 2)) (cl (bl (aB A) (cl a) 4)) (cl (bl (aB A) (cl a) 7))).1
    rw [et, cl_nI (n := t) (by omega), q1.2.1, cl_nI (n := k) (by have := q1.2.2.2.2; omega), q1.2.2.1, cl_nI (n := s) (by have := q1.2.2.2.1; omega)]
    exact this
  · have q := hlt (Classical.not_not.mp hb : isLt A a)
    have h0 : bl (aB A) (cl a) 5 = nI 0 := Classical.byContradiction (fun z => hm ⟨cl a, q.1, q.2, z⟩)
    exact up _ (h.bk (okB_ex h.1 q.1 h0) (Nat.le_refl _) (fun _ _ _ q => hasQ_ex q))
  · have q := hlt (Classical.not_not.mp hb : isLt A a)
    obtain ⟨k, s, q1, -⟩ := h.1.2.2.1 (cl a) q.1
    have := cpB_INV h q1 hr.1 hr.2
    show INV (N + 1) (N + 1) (aBk A (cpB (aB A) (cl a) (cl (bl (aB A) (cl a) 4)) (cl (bl (aB A) (cl a) 7))))
    rw [q1.2.1, cl_nI (n := k) (by have := q1.2.2.2.2; omega), q1.2.2.1, cl_nI (n := s) (by have := q1.2.2.2.1; omega)]
    exact up _ this
  all_goals
    have qa : isM a := Classical.not_not.mp (fun q => hb (Or.inl q))
    have qb : isM b := Classical.not_not.mp (fun q => hb (Or.inr q))
    exact up _ (liA_INV h (hmem qa).1 (hmem qb).1 (fun e => ha (by show a = b; rw [(hmem qa).2, (hmem qb).2, e])))
