def opF (f : Nat → Int32) (b q : Nat) (kind fr to ab : Int32) : Nat → Int32 := upd (upd (upd (upd (upd (upd (upd (upd f 118720 (nI (b + 1))) (29120 + 8 * b) kind) (29120 + 8 * b + 1) fr) (29120 + 8 * b + 2) to) (29120 + 8 * b + 3) ab) (29120 + 8 * b + 4) (nI q)) (29120 + 8 * b + 6) (nI 0)) (29120 + 8 * b + 7) (-1)
theorem RF_op {f : Nat → Int32} {sd : Nat → Int64} {A : AW} {n : Nat} {kind fr to ab : Int32} (h : RF f sd A n False) (hb : bL (aB A) + 1 ≤ 1200) : RF (opF f (bL (aB A)) (bP (aB A)) kind fr to ab) sd (aBk A (opB (aB A) kind fr to ab (-1))) n True := by
  obtain ⟨a1, a2, ⟨c0, c1, c2, c3, c4⟩, a4, a5⟩ := h
  have hlo : ∀ i, (i < 29120 + 8 * bL (aB A) ∨ 29120 + 8 * bL (aB A) + 8 ≤ i) ∧ i ≠ 118720 → opF f (bL (aB A)) (bP (aB A)) kind fr to ab i = f i := fun i hi => by
    unfold opF
    rw [upd_ne (by omega), upd_ne (by omega), upd_ne (by omega), upd_ne (by omega), upd_ne (by omega), upd_ne (by omega), upd_ne (by omega), upd_ne (by omega)]
  refine ⟨a1.cg (fun i hi => hlo i (by omega)), a2.cg (fun i _ hi => hlo i (by omega)), ⟨⟨hb, c0.2⟩, ?_, ?_, fun l c hl hc ho => ?_, fun p c hp hc => ?_⟩, a4.cg (fun i hi _ => hlo i (by omega)), ?_⟩
  · show opF f (bL (aB A)) (bP (aB A)) kind fr to ab 118720 = nI (bL (aB A) + 1)
    unfold opF
    rw [upd_ne (by omega), upd_ne (by omega), upd_ne (by omega), upd_ne (by omega), upd_ne (by omega), upd_ne (by omega), upd_ne (by omega), upd_eq]
  · rw [hlo _ (by omega)]; exact c2
  · by_cases e : l = bL (aB A)
    · subst e
      have hc' : ∀ c, bl (opB (aB A) kind fr to ab (-1)) (bL (aB A)) c = (match c with | 0 => kind | 1 => fr | 2 => to | 3 => ab | 4 => 0 | 5 => 0 | 6 => -1 | _ => nI (bP (aB A))) := fun c => if_pos rfl
      show opF f (bL (aB A)) (bP (aB A)) kind fr to ab (ltx (bL (aB A)) c) = bl (opB (aB A) kind fr to ab (-1)) (bL (aB A)) (lcx c)
      rw [hc']
      have hc8 : c = 0 ∨ c = 1 ∨ c = 2 ∨ c = 3 ∨ c = 4 ∨ c = 5 ∨ c = 6 ∨ c = 7 := by omega
      unfold opF ltx
      rcases hc8 with rfl | rfl | rfl | rfl | rfl | rfl | rfl | rfl
      · rw [upd_ne (by omega), upd_ne (by omega), upd_ne (by omega), upd_ne (by omega), upd_ne (by omega), upd_ne (by omega)]; exact upd_eq
      · rw [upd_ne (by omega), upd_ne (by omega), upd_ne (by omega), upd_ne (by omega), upd_ne (by omega), upd_eq]; rfl
      · rw [upd_ne (by omega), upd_ne (by omega), upd_ne (by omega), upd_ne (by omega), upd_eq]; rfl
      · rw [upd_ne (by omega), upd_ne (by omega), upd_ne (by omega), upd_eq]; rfl
      · rw [upd_ne (by omega), upd_ne (by omega), upd_eq]; rfl
      · exact absurd ⟨rfl, rfl⟩ (ho trivial)
      · rw [upd_ne (by omega), upd_eq]; rfl
      · rw [upd_eq]; rfl
    · have hl' : l < bL (aB A) := by have : l < bL (aB A) + 1 := hl; omega
      rw [hlo _ (by unfold ltx; omega), c3 l c hl' hc (fun q => q.elim)]
      exact (opB_old hl').symm
  · have hp' : p < bP (aB A) := hp
    rw [hlo _ (by omega)]; exact c4 p c hp' hc
  · rw [hlo _ (by omega)]; exact a5
/-- the last letter's pieces -/
def opS (B : Bk) (k s : Nat) : Prop := ∃ l, bL B = l + 1 ∧ pOk B l k s ∧ s + k = bP B
theorem opS_op {B : Bk} {kind fr to ab cp : Int32} : opS (opB B kind fr to ab cp) 0 (bP B) := by
  refine ⟨bL B, rfl, ⟨by show bL B < bL B + 1; omega, ?_, ?_, Nat.le_refl _, by omega⟩, rfl⟩
  · show (if bL B = bL B then _ else _) = _
    rw [if_pos rfl]; rfl
  · show (if bL B = bL B then _ else _) = _
    rw [if_pos rfl]
theorem opS_fold {m : Nat} {wh : Bool} {s : Nat} : ∀ (l : List Nat) (A : AW) (k : Nat), opS (aB A) k s → k + l.length ≤ 64 → opS (aB (l.foldl (snd1 m wh) A)) (k + l.length) s
  | [], A, k, h, _ => h
  | x :: l, A, k, h, hk => by
    rw [List.length_cons] at hk ⊢
    have h1 : opS (aB (snd1 m wh A x)) (k + 1) s := by
      obtain ⟨l0, e, hp, hs⟩ := h
      have : aB (snd1 m wh A x) = puB (aB A) (nI x) ((A.1 m).2.2 31 x) ((A.1 m).2.2 32 x) ((A.1 m).2.2 35 x) := by
        unfold snd1
        split <;> rfl
      rw [this]
      exact ⟨l0, e, pOk_last hp (by omega) hs (by omega), by show s + (k + 1) = bP (aB A) + 1; omega⟩
    have := opS_fold (m := m) (wh := wh) l (snd1 m wh A x) (k + 1) h1 (by omega)
    rw [show k + (l.length + 1) = k + 1 + l.length by omega]
    exact this
theorem fold_t {m : Nat} : ∀ (l : List Nat) (A : AW), (l.foldl (snd1 m true) A).1 = A.1
  | [], A => rfl
  | x :: l, A => (fold_t l (snd1 m true A x)).trans rfl
def meTL (M : Me) (t : Nat → Bool) : Me := (M.1, M.2.1, fun k => if k = 33 then (fun x => if t x = true then M.2.2 33 x + nI 1 else M.2.2 33 x) else M.2.2 k)
theorem snd1_set {m x : Nat} {A : AW} {M : Me} (h : ∀ k, k ≠ 33 → M.2.2 k = (A.1 m).2.2 k) : snd1 m true (aSet A m M) x = aSet (snd1 m true A x) m M := by
  unfold snd1
  rw [if_pos rfl, if_pos rfl, aSet_m, h 31 (by omega), h 32 (by omega), h 35 (by omega)]
  rfl
theorem fold_set {m : Nat} {M : Me} : ∀ (l : List Nat) (A : AW), (∀ k, k ≠ 33 → M.2.2 k = (A.1 m).2.2 k) → l.foldl (snd1 m true) (aSet A m M) = aSet (l.foldl (snd1 m true) A) m M
  | [], A, _ => rfl
  | x :: l, A, h => by
    show l.foldl (snd1 m true) (snd1 m true (aSet A m M) x) = _
    rw [snd1_set h]
    exact fold_set l (snd1 m true A x) h
theorem fold_tl {m : Nat} : ∀ (l : List Nat) (A : AW), l.Nodup → l.foldl (snd1 m false) A = aSet (l.foldl (snd1 m true) A) m (meTL (A.1 m) (fun x => decide (x ∈ l)))
  | [], A, _ => by
    show A = aSet A m _
    have : meTL (A.1 m) (fun x => decide (x ∈ ([] : List Nat))) = A.1 m := by
      unfold meTL
      have e : (fun k => if k = 33 then (fun x => if decide (x ∈ ([] : List Nat)) = true then (A.1 m).2.2 33 x + nI 1 else (A.1 m).2.2 33 x) else (A.1 m).2.2 k) = (A.1 m).2.2 := by
        funext k
        split
        · rename_i h; subst h; funext x; simp
        · rfl
      rw [e]
    rw [this, aSet_self]
  | x :: l, A, hn => by
    obtain ⟨h1, h2⟩ := List.nodup_cons.mp hn
    have e1 : snd1 m false A x = aSet (snd1 m true A x) m (meTo (A.1 m) x) := by unfold snd1; rfl
    show l.foldl (snd1 m false) (snd1 m false A x) = aSet (l.foldl (snd1 m true) (snd1 m true A x)) m _
    rw [fold_tl l _ h2, e1, fold_set l (snd1 m true A x) (fun k hk => by show (if k = 33 then _ else (A.1 m).2.2 k) = (A.1 m).2.2 k; rw [if_neg hk]), aSet_aSet, aSet_m]
    congr 1
    unfold meTL meTo
    dsimp only
    congr 1
    congr 1
    funext k
    by_cases hk : k = 33
    · subst hk
      rw [if_pos rfl, if_pos rfl, if_pos rfl]
      funext y
      by_cases hy : y = x
      · subst hy
        rw [if_neg (by simp [h1]), if_pos (by simp), upd_eq]
      · rw [upd_ne hy]
        by_cases hyl : y ∈ l
        · rw [if_pos (by simp [hyl]), if_pos (by simp [hyl])]
        · rw [if_neg (by simp [hyl]), if_neg (by simp [hyl, hy])]
    · rw [if_neg hk, if_neg hk, if_neg hk]
def sdS (n : Nm) : Prop := n.1 = 41 ∨ n.1 = 49
theorem sdS_m {n : Nm} (h : sdS n) : msS n := by unfold sdS at h; unfold msS; omega
theorem sdM {g g' : Sg} (h : EqX sdS g g') : EqM g g' := ⟨h.mono (fun _ q => sdS_m q), fun k _ _ => by rw [(h.1 (40, 0, 0) (fun q => by unfold sdS at q; simp at q)).1]⟩
theorem EqX.rs {S : Nm → Prop} {g g' : Sg} {A : AW} {n : Nat} {o : Prop} (h : EqX S g g') (hS : ∀ n, S n → n.1 ≠ 41 ∧ n.1 ≠ 43) (hR : RS g A n o) : RS g' A n o := by
  refine ⟨h.al' hR.1, ?_⟩
  rw [(h.1 (41, 0, 0) (fun q => (hS _ q).1 rfl)).2.2.1, (h.1 (43, 0, 0) (fun q => (hS _ q).2 rfl)).2.2.2]
  exact hR.2
set_option maxRecDepth 20000 in
set_option maxHeartbeats 4000000 in
theorem s_snd0 {ad : Nm → Nat} {g : Sg} {A : AW} {n m : Nat} {to kind ab : Int32} {Q : Option Value → PH → Prop} (h : RS g A n False) (hb : bL (aB A) + 1 ≤ 1200) (hk : ∀ g', RS g' (aBk A (opB (aB A) kind (nI m) to ab (-1))) n True → EqX sdS g g' → PP mX7_send 113 [some (.ref (ad (40, 0, 0))), some (.int (nI m)), some (.int to), some (.int kind), some (.int ab), some (.int (nI (bL (aB A)))), some (.int (nI (29120 + 8 * bL (aB A)))), some (.int (nI 0)), none] [] (Rel ad g') Q) : PP mX7_send 0 (ent mX7_send [.ref (ad (40, 0, 0)), .int (nI m), .int to, .int kind, .int ab]) [] (Rel ad g) Q := by
  have hm := h.1
  have hL := h.2.2.2.1.2.1
  have hP := h.2.2.2.1.2.2.1
  have hb2 := h.2.2.2.1.1
  show PP mX7_send 0 [some (.ref (ad (40, 0, 0))), some (.int (nI m)), some (.int to), some (.int kind), some (.int ab), none, none, none, none] [] (Rel ad g) _
  refine pp_aload_n dX7_send_0 rfl isRf_r (q := 1) rfl ?_
  refine ps_get dX7_send_1 fl_X7_8 hm rfl rfl (q := 4) rfl ?_
  refine pp_ldc (v := nI 118720) dX7_send_4 kc_X7_51 (q := 6) rfl ?_
  refine ps_iald dX7_send_6 hm rfl rfl (by omega) (by decide) (q := 7) rfl ?_
  rw [hL]
  refine pp_istore dX7_send_7 (by decide) (ls1_5 (nl1 rfl)) (q := 9) rfl ?_
  refine pp_sipush dX7_send_9 cs_29120 (q := 12) rfl ?_
  refine pp_bipush dX7_send_12 cb_8 (q := 14) rfl ?_
  refine pp_iload dX7_send_14 rfl (q := 16) rfl ?_
  refine pp_imul dX7_send_16 (q := 17) rfl ?_
  try rw [pk_mul]
  refine pp_iadd dX7_send_17 (q := 18) rfl ?_
  try rw [nI_add]
  refine pp_istore dX7_send_18 (by decide) (ls1_6 (nl1 rfl)) (q := 20) rfl ?_
  refine pp_aload_n dX7_send_20 rfl isRf_r (q := 21) rfl ?_
  refine ps_get dX7_send_21 fl_X7_8 hm rfl rfl (q := 24) rfl ?_
  refine pp_ldc (v := nI 118720) dX7_send_24 kc_X7_51 (q := 26) rfl ?_
  refine pp_dup2 dX7_send_26 rfl rfl (q := 27) rfl ?_
  refine ps_iald dX7_send_27 hm rfl rfl (by omega) (by decide) (q := 28) rfl ?_
  rw [hL]
  refine pp_iconst dX7_send_28 ci_1 (q := 29) rfl ?_
  refine pp_iadd dX7_send_29 (q := 30) rfl ?_
  try rw [nI_add]
  refine ps_iast dX7_send_30 hm (fun _ => rfl) rfl (by omega) (by decide) (q := 31) rfl ?_
  refine pp_aload_n dX7_send_31 rfl isRf_r (q := 32) rfl ?_
  refine ps_get dX7_send_32 fl_X7_8 hm rfl rfl (q := 35) rfl ?_
  refine pp_iload dX7_send_35 rfl (q := 37) rfl ?_
  refine pp_iconst dX7_send_37 ci_0 (q := 38) rfl ?_
  refine pp_iadd dX7_send_38 (q := 39) rfl ?_
  rw [nI_add, Nat.add_zero]
  refine pp_iload_n dX7_send_39 rfl (q := 40) rfl ?_
  refine ps_iast dX7_send_40 hm (fun _ => rfl) rfl (by omega) (by decide) (q := 41) rfl ?_
  rw [sA_sA]
  change PP mX7_send 41 _ [] (Rel ad (sA g (41, 0, 0) (upd (upd (gA g (41, 0, 0)) 118720 (nI (bL (aB A) + 1))) (29120 + 8 * bL (aB A)) kind))) _
  refine pp_aload_n dX7_send_41 rfl isRf_r (q := 42) rfl ?_
  refine ps_get dX7_send_42 fl_X7_8 hm rfl rfl (q := 45) rfl ?_
  refine pp_iload dX7_send_45 rfl (q := 47) rfl ?_
  refine pp_iconst dX7_send_47 ci_1 (q := 48) rfl ?_
  refine pp_iadd dX7_send_48 (q := 49) rfl ?_
  try rw [nI_add]
  refine pp_iload_n dX7_send_49 rfl (q := 50) rfl ?_
  refine ps_iast dX7_send_50 hm (fun _ => rfl) rfl (by omega) (by decide) (q := 51) rfl ?_
  rw [sA_sA]
  change PP mX7_send 51 _ [] (Rel ad (sA g (41, 0, 0) (upd (upd (upd (gA g (41, 0, 0)) 118720 (nI (bL (aB A) + 1))) (29120 + 8 * bL (aB A)) kind) (29120 + 8 * bL (aB A) + 1) (nI m)))) _
  refine pp_aload_n dX7_send_51 rfl isRf_r (q := 52) rfl ?_
  refine ps_get dX7_send_52 fl_X7_8 hm rfl rfl (q := 55) rfl ?_
  refine pp_iload dX7_send_55 rfl (q := 57) rfl ?_
  refine pp_iconst dX7_send_57 ci_2 (q := 58) rfl ?_
  refine pp_iadd dX7_send_58 (q := 59) rfl ?_
  try rw [nI_add]
  refine pp_iload_n dX7_send_59 rfl (q := 60) rfl ?_
  refine ps_iast dX7_send_60 hm (fun _ => rfl) rfl (by omega) (by decide) (q := 61) rfl ?_
  rw [sA_sA]
  change PP mX7_send 61 _ [] (Rel ad (sA g (41, 0, 0) (upd (upd (upd (upd (gA g (41, 0, 0)) 118720 (nI (bL (aB A) + 1))) (29120 + 8 * bL (aB A)) kind) (29120 + 8 * bL (aB A) + 1) (nI m)) (29120 + 8 * bL (aB A) + 2) to))) _
  refine pp_aload_n dX7_send_61 rfl isRf_r (q := 62) rfl ?_
  refine ps_get dX7_send_62 fl_X7_8 hm rfl rfl (q := 65) rfl ?_
  refine pp_iload dX7_send_65 rfl (q := 67) rfl ?_
  refine pp_iconst dX7_send_67 ci_3 (q := 68) rfl ?_
  refine pp_iadd dX7_send_68 (q := 69) rfl ?_
  try rw [nI_add]
  refine pp_iload dX7_send_69 rfl (q := 71) rfl ?_
  refine ps_iast dX7_send_71 hm (fun _ => rfl) rfl (by omega) (by decide) (q := 72) rfl ?_
  rw [sA_sA]
  change PP mX7_send 72 _ [] (Rel ad (sA g (41, 0, 0) (upd (upd (upd (upd (upd (gA g (41, 0, 0)) 118720 (nI (bL (aB A) + 1))) (29120 + 8 * bL (aB A)) kind) (29120 + 8 * bL (aB A) + 1) (nI m)) (29120 + 8 * bL (aB A) + 2) to) (29120 + 8 * bL (aB A) + 3) ab))) _
  refine pp_aload_n dX7_send_72 rfl isRf_r (q := 73) rfl ?_
  refine ps_get dX7_send_73 fl_X7_8 hm rfl rfl (q := 76) rfl ?_
  refine pp_iload dX7_send_76 rfl (q := 78) rfl ?_
  refine pp_iconst dX7_send_78 ci_4 (q := 79) rfl ?_
  refine pp_iadd dX7_send_79 (q := 80) rfl ?_
  try rw [nI_add]
  refine pp_aload_n dX7_send_80 rfl isRf_r (q := 81) rfl ?_
  refine ps_get dX7_send_81 fl_X7_8 hm rfl rfl (q := 84) rfl ?_
  refine pp_ldc (v := nI 118721) dX7_send_84 kc_X7_52 (q := 86) rfl ?_
  refine ps_iald dX7_send_86 hm rfl rfl (by omega) (by decide) (q := 87) rfl ?_
  rw [gA_41, show (upd (upd (upd (upd (upd (gA g (41, 0, 0)) 118720 (nI (bL (aB A) + 1))) (29120 + 8 * bL (aB A)) kind) (29120 + 8 * bL (aB A) + 1) (nI m)) (29120 + 8 * bL (aB A) + 2) to) (29120 + 8 * bL (aB A) + 3) ab) 118721 = nI (bP (aB A)) from by rw [upd_ne (by omega), upd_ne (by omega), upd_ne (by omega), upd_ne (by omega), upd_ne (by omega)]; exact hP]
  refine ps_iast dX7_send_87 hm (fun _ => rfl) rfl (by omega) (by decide) (q := 88) rfl ?_
  rw [sA_sA]
  change PP mX7_send 88 _ [] (Rel ad (sA g (41, 0, 0) (upd (upd (upd (upd (upd (upd (gA g (41, 0, 0)) 118720 (nI (bL (aB A) + 1))) (29120 + 8 * bL (aB A)) kind) (29120 + 8 * bL (aB A) + 1) (nI m)) (29120 + 8 * bL (aB A) + 2) to) (29120 + 8 * bL (aB A) + 3) ab) (29120 + 8 * bL (aB A) + 4) (nI (bP (aB A)))))) _
  refine pp_aload_n dX7_send_88 rfl isRf_r (q := 89) rfl ?_
  refine ps_get dX7_send_89 fl_X7_8 hm rfl rfl (q := 92) rfl ?_
  refine pp_iload dX7_send_92 rfl (q := 94) rfl ?_
  refine pp_bipush dX7_send_94 cb_6 (q := 96) rfl ?_
  refine pp_iadd dX7_send_96 (q := 97) rfl ?_
  try rw [nI_add]
  refine pp_iconst dX7_send_97 ci_0 (q := 98) rfl ?_
  refine ps_iast dX7_send_98 hm (fun _ => rfl) rfl (by omega) (by decide) (q := 99) rfl ?_
  rw [sA_sA]
  change PP mX7_send 99 _ [] (Rel ad (sA g (41, 0, 0) (upd (upd (upd (upd (upd (upd (upd (gA g (41, 0, 0)) 118720 (nI (bL (aB A) + 1))) (29120 + 8 * bL (aB A)) kind) (29120 + 8 * bL (aB A) + 1) (nI m)) (29120 + 8 * bL (aB A) + 2) to) (29120 + 8 * bL (aB A) + 3) ab) (29120 + 8 * bL (aB A) + 4) (nI (bP (aB A)))) (29120 + 8 * bL (aB A) + 6) (nI 0)))) _
  refine pp_aload_n dX7_send_99 rfl isRf_r (q := 100) rfl ?_
  refine ps_get dX7_send_100 fl_X7_8 hm rfl rfl (q := 103) rfl ?_
  refine pp_iload dX7_send_103 rfl (q := 105) rfl ?_
  refine pp_bipush dX7_send_105 cb_7 (q := 107) rfl ?_
  refine pp_iadd dX7_send_107 (q := 108) rfl ?_
  try rw [nI_add]
  refine pp_iconst dX7_send_108 ci_m1 (q := 109) rfl ?_
  refine ps_iast dX7_send_109 hm (fun _ => rfl) rfl (by omega) (by decide) (q := 110) rfl ?_
  rw [sA_sA]
  change PP mX7_send 110 _ [] (Rel ad (sA g (41, 0, 0) (upd (upd (upd (upd (upd (upd (upd (upd (gA g (41, 0, 0)) 118720 (nI (bL (aB A) + 1))) (29120 + 8 * bL (aB A)) kind) (29120 + 8 * bL (aB A) + 1) (nI m)) (29120 + 8 * bL (aB A) + 2) to) (29120 + 8 * bL (aB A) + 3) ab) (29120 + 8 * bL (aB A) + 4) (nI (bP (aB A)))) (29120 + 8 * bL (aB A) + 6) (nI 0)) (29120 + 8 * bL (aB A) + 7) (-1)))) _
  refine pp_iconst dX7_send_110 ci_0 (q := 111) rfl ?_
  refine pp_istore dX7_send_111 (by decide) (ls1_7 (nl1 rfl)) (q := 113) rfl ?_
  exact hk _ ⟨hm, RF_op h.2 hb⟩ (EqX.rf.sA (Or.inl rfl))
set_option maxRecDepth 20000 in
set_option maxHeartbeats 4000000 in
theorem s_snd1a {ad : Nm → Nat} {g : Sg} {A : AW} {n m i : Nat} {to kind ab l0 a0 : Int32} {Q : Option Value → PH → Prop} (h : RS g A n True) (hmb : m < 64) (hd : mdA A m) (hi : i < 64) (ht : ∀ x, x < i → gA g (49, 0, 0) x = nI 0) (hf : ¬ kind = nI 6) (hk : ∀ g', RS g' A n True → EqX sdS g g' → (∀ x, x < i + 1 → gA g' (49, 0, 0) x = nI 0) → ∀ z, PP mX7_send 113 [some (.ref (ad (40, 0, 0))), some (.int (nI m)), some (.int to), some (.int kind), some (.int ab), some (.int l0), some (.int a0), some (.int (nI (i + 1))), z] [] (Rel ad g') Q) (z : Option Value) : PP mX7_send 113 [some (.ref (ad (40, 0, 0))), some (.int (nI m)), some (.int to), some (.int kind), some (.int ab), some (.int l0), some (.int a0), some (.int (nI i)), z] [] (Rel ad g) Q := by
  have hm := h.1
  refine pp_iload dX7_send_113 rfl (q := 115) rfl ?_
  refine pp_bipush dX7_send_115 cb_64 (q := 117) rfl ?_
  refine pp_icmp_ge (tgt := 157) dX7_send_117 (by decide) (q := 120) rfl (fun c117 => absurd c117 (nI_ge hi (by decide))) (fun c117 => ?_)
  refine pp_aload_n dX7_send_120 rfl isRf_r (q := 121) rfl ?_
  refine ps_get dX7_send_121 fl_X7_36 hm rfl rfl (q := 124) rfl ?_
  refine pp_iload dX7_send_124 rfl (q := 126) rfl ?_
  refine pp_iconst dX7_send_126 ci_0 (q := 127) rfl ?_
  refine ps_zast (j := i) dX7_send_127 hm (fun _ => rfl) rfl hi (by decide) rfl (q := 128) rfl ?_
  have h1 : RS (sA g (49, 0, 0) (upd (gA g (49, 0, 0)) i (nI 0))) A n True := h
  have hE1 : EqX sdS g (sA g (49, 0, 0) (upd (gA g (49, 0, 0)) i (nI 0))) := EqX.rf.sA (Or.inr rfl)
  have ht1 : ∀ x, x < i + 1 → gA (sA g (49, 0, 0) (upd (gA g (49, 0, 0)) i (nI 0))) (49, 0, 0) x = nI 0 := fun x hx => by
    show upd (gA g (49, 0, 0)) i (nI 0) x = nI 0
    by_cases e : x = i
    · rw [e, upd_eq]
    · rw [upd_ne e]; exact ht x (by omega)
  refine pp_iload_n dX7_send_128 rfl (q := 129) rfl ?_
  refine pp_bipush dX7_send_129 cb_6 (q := 131) rfl ?_
  refine pp_icmp_ne (tgt := 151) dX7_send_131 (by decide) (q := 134) rfl (fun c131 => ?_) (fun c131 => absurd c131 hf)
  refine pp_iinc dX7_send_151 rfl (nI_1 _) (ls1_7 (nl1 rfl)) (q := 154) rfl ?_
  refine pp_goto (tgt := 113) dX7_send_154 (by decide) ?_
  exact hk _ h1 hE1 ht1 _
set_option maxRecDepth 20000 in
set_option maxHeartbeats 4000000 in
theorem s_snd1b {ad : Nm → Nat} {g : Sg} {A : AW} {n m i : Nat} {to kind ab l0 a0 : Int32} {Q : Option Value → PH → Prop} (h : RS g A n True) (hmb : m < 64) (hd : mdA A m) (hi : i < 64) (ht : ∀ x, x < i → gA g (49, 0, 0) x = nI 0) (hf : kind = nI 6) (hk0 : (A.1 m).2.2 31 i = nI 0) (hk : ∀ g', RS g' A n True → EqX sdS g g' → (∀ x, x < i + 1 → gA g' (49, 0, 0) x = nI 0) → ∀ z, PP mX7_send 113 [some (.ref (ad (40, 0, 0))), some (.int (nI m)), some (.int to), some (.int kind), some (.int ab), some (.int l0), some (.int a0), some (.int (nI (i + 1))), z] [] (Rel ad g') Q) (z : Option Value) : PP mX7_send 113 [some (.ref (ad (40, 0, 0))), some (.int (nI m)), some (.int to), some (.int kind), some (.int ab), some (.int l0), some (.int a0), some (.int (nI i)), z] [] (Rel ad g) Q := by
  have hm := h.1
  refine pp_iload dX7_send_113 rfl (q := 115) rfl ?_
  refine pp_bipush dX7_send_115 cb_64 (q := 117) rfl ?_
  refine pp_icmp_ge (tgt := 157) dX7_send_117 (by decide) (q := 120) rfl (fun c117 => absurd c117 (nI_ge hi (by decide))) (fun c117 => ?_)
  refine pp_aload_n dX7_send_120 rfl isRf_r (q := 121) rfl ?_
  refine ps_get dX7_send_121 fl_X7_36 hm rfl rfl (q := 124) rfl ?_
  refine pp_iload dX7_send_124 rfl (q := 126) rfl ?_
  refine pp_iconst dX7_send_126 ci_0 (q := 127) rfl ?_
  refine ps_zast (j := i) dX7_send_127 hm (fun _ => rfl) rfl hi (by decide) rfl (q := 128) rfl ?_
  have h1 : RS (sA g (49, 0, 0) (upd (gA g (49, 0, 0)) i (nI 0))) A n True := h
  have hE1 : EqX sdS g (sA g (49, 0, 0) (upd (gA g (49, 0, 0)) i (nI 0))) := EqX.rf.sA (Or.inr rfl)
  have ht1 : ∀ x, x < i + 1 → gA (sA g (49, 0, 0) (upd (gA g (49, 0, 0)) i (nI 0))) (49, 0, 0) x = nI 0 := fun x hx => by
    show upd (gA g (49, 0, 0)) i (nI 0) x = nI 0
    by_cases e : x = i
    · rw [e, upd_eq]
    · rw [upd_ne e]; exact ht x (by omega)
  refine pp_iload_n dX7_send_128 rfl (q := 129) rfl ?_
  refine pp_bipush dX7_send_129 cb_6 (q := 131) rfl ?_
  refine pp_icmp_ne (tgt := 151) dX7_send_131 (by decide) (q := 134) rfl (fun c131 => absurd hf c131) (fun c131 => ?_)
  refine pp_aload_n dX7_send_134 rfl isRf_r (q := 135) rfl ?_
  refine pp_iload_n dX7_send_135 rfl (q := 136) rfl ?_
  refine pp_iload dX7_send_136 rfl (q := 138) rfl ?_
  refine ps_callVi dX7_send_138 lk_X7_72 (by exact hm) (by rfl) (by rfl) (by rfl) (m_kindOf (by exact hm) hmb hi) (by rfl) (by exact Nat.le_of_ble_eq_true rfl) (by decide) (by decide) (by exact Nat.le_of_ble_eq_true rfl) (q := 141) rfl (fun r138 g138 h138 => ?_)
  obtain ⟨rfl, rfl⟩ := And.intro h138.1.symm h138.2.symm
  rw [show gA (sA g (49, 0, 0) (upd (gA g (49, 0, 0)) i (nI 0))) (41, 0, 0) (nw m i) = (A.1 m).2.2 31 i from ((h.2.o hmb hd).2.2.1 i hi).1]
  refine pp_if_eq (tgt := 151) dX7_send_141 (by decide) (q := 144) rfl (fun c141 => ?_) (fun c141 => absurd hk0 c141)
  refine pp_iinc dX7_send_151 rfl (nI_1 _) (ls1_7 (nl1 rfl)) (q := 154) rfl ?_
  refine pp_goto (tgt := 113) dX7_send_154 (by decide) ?_
  exact hk _ h1 hE1 ht1 _
set_option maxRecDepth 20000 in
set_option maxHeartbeats 4000000 in
theorem s_snd1c {ad : Nm → Nat} {g : Sg} {A : AW} {n m i : Nat} {to kind ab l0 a0 : Int32} {Q : Option Value → PH → Prop} (h : RS g A n True) (hmb : m < 64) (hd : mdA A m) (hi : i < 64) (ht : ∀ x, x < i → gA g (49, 0, 0) x = nI 0) (hf : kind = nI 6) (hk1 : ∃ kd, 1 ≤ kd ∧ kd ≤ 4 ∧ (A.1 m).2.2 31 i = nI kd) (hb : bP (aB A) + 1 ≤ 20000) (hk : ∀ g', RS g' (snd1 m true A i) n True → EqX sdS g g' → (∀ x, x < i + 1 → gA g' (49, 0, 0) x = nI 0) → ∀ z, PP mX7_send 113 [some (.ref (ad (40, 0, 0))), some (.int (nI m)), some (.int to), some (.int kind), some (.int ab), some (.int l0), some (.int a0), some (.int (nI (i + 1))), z] [] (Rel ad g') Q) (z : Option Value) : PP mX7_send 113 [some (.ref (ad (40, 0, 0))), some (.int (nI m)), some (.int to), some (.int kind), some (.int ab), some (.int l0), some (.int a0), some (.int (nI i)), z] [] (Rel ad g) Q := by
  have hm := h.1
  refine pp_iload dX7_send_113 rfl (q := 115) rfl ?_
  refine pp_bipush dX7_send_115 cb_64 (q := 117) rfl ?_
  refine pp_icmp_ge (tgt := 157) dX7_send_117 (by decide) (q := 120) rfl (fun c117 => absurd c117 (nI_ge hi (by decide))) (fun c117 => ?_)
  refine pp_aload_n dX7_send_120 rfl isRf_r (q := 121) rfl ?_
  refine ps_get dX7_send_121 fl_X7_36 hm rfl rfl (q := 124) rfl ?_
  refine pp_iload dX7_send_124 rfl (q := 126) rfl ?_
  refine pp_iconst dX7_send_126 ci_0 (q := 127) rfl ?_
  refine ps_zast (j := i) dX7_send_127 hm (fun _ => rfl) rfl hi (by decide) rfl (q := 128) rfl ?_
  have h1 : RS (sA g (49, 0, 0) (upd (gA g (49, 0, 0)) i (nI 0))) A n True := h
  have hE1 : EqX sdS g (sA g (49, 0, 0) (upd (gA g (49, 0, 0)) i (nI 0))) := EqX.rf.sA (Or.inr rfl)
  have ht1 : ∀ x, x < i + 1 → gA (sA g (49, 0, 0) (upd (gA g (49, 0, 0)) i (nI 0))) (49, 0, 0) x = nI 0 := fun x hx => by
    show upd (gA g (49, 0, 0)) i (nI 0) x = nI 0
    by_cases e : x = i
    · rw [e, upd_eq]
    · rw [upd_ne e]; exact ht x (by omega)
  refine pp_iload_n dX7_send_128 rfl (q := 129) rfl ?_
  refine pp_bipush dX7_send_129 cb_6 (q := 131) rfl ?_
  refine pp_icmp_ne (tgt := 151) dX7_send_131 (by decide) (q := 134) rfl (fun c131 => absurd hf c131) (fun c131 => ?_)
  refine pp_aload_n dX7_send_134 rfl isRf_r (q := 135) rfl ?_
  refine pp_iload_n dX7_send_135 rfl (q := 136) rfl ?_
  refine pp_iload dX7_send_136 rfl (q := 138) rfl ?_
  refine ps_callVi dX7_send_138 lk_X7_72 (by exact hm) (by rfl) (by rfl) (by rfl) (m_kindOf (by exact hm) hmb hi) (by rfl) (by exact Nat.le_of_ble_eq_true rfl) (by decide) (by decide) (by exact Nat.le_of_ble_eq_true rfl) (q := 141) rfl (fun r138 g138 h138 => ?_)
  obtain ⟨rfl, rfl⟩ := And.intro h138.1.symm h138.2.symm
  rw [show gA (sA g (49, 0, 0) (upd (gA g (49, 0, 0)) i (nI 0))) (41, 0, 0) (nw m i) = (A.1 m).2.2 31 i from ((h.2.o hmb hd).2.2.1 i hi).1]
  refine pp_if_eq (tgt := 151) dX7_send_141 (by decide) (q := 144) rfl (fun c141 => absurd c141 (fun q => by obtain ⟨kd, k1, k2, k3⟩ := hk1; rw [k3] at q; have := eqT (b := 0) q (by omega) (by omega); omega)) (fun c141 => ?_)
  refine pp_aload_n dX7_send_144 rfl isRf_r (q := 145) rfl ?_
  refine pp_iload_n dX7_send_145 rfl (q := 146) rfl ?_
  refine pp_iload dX7_send_146 rfl (q := 148) rfl ?_
  refine ps_callVv dX7_send_148 lk_X7_75 (by exact hm) (by rfl) (by rfl) (by rfl) (m_carry (o := True) h1 hmb hd hi hk1 hb) (by rfl) (by exact Nat.le_of_ble_eq_true rfl) (by decide) (by decide) (by exact Nat.le_of_ble_eq_true rfl) (q := 151) rfl (fun g148 h148 => ?_)
  obtain ⟨h2, hE2⟩ := h148
  have hE3 := hE1.tr (hE2.mono (fun n q => (Or.inl q : sdS n)))
  have ht2 : ∀ x, x < i + 1 → gA g148 (49, 0, 0) x = nI 0 := fun x hx => by rw [(hE2.1 (49, 0, 0) (fun q => by cases q)).2.2.1]; exact ht1 x hx
  refine pp_iinc dX7_send_151 rfl (nI_1 _) (ls1_7 (nl1 rfl)) (q := 154) rfl ?_
  refine pp_goto (tgt := 113) dX7_send_154 (by decide) ?_
  exact hk _ h2 hE3 ht2 _
set_option maxRecDepth 20000 in
set_option maxHeartbeats 4000000 in
theorem s_snd1z {ad : Nm → Nat} {g : Sg} {m : Nat} {to kind ab l0 a0 : Int32} {Q : Option Value → PH → Prop} (hm : al g (40, 0, 0)) (z : Option Value) (hk : PP mX7_send 160 [some (.ref (ad (40, 0, 0))), some (.int (nI m)), some (.int to), some (.int kind), some (.int ab), some (.int l0), some (.int a0), some (.int (nI 0)), z] [] (Rel ad g) Q) : PP mX7_send 113 [some (.ref (ad (40, 0, 0))), some (.int (nI m)), some (.int to), some (.int kind), some (.int ab), some (.int l0), some (.int a0), some (.int (nI 64)), z] [] (Rel ad g) Q := by
  refine pp_iload dX7_send_113 rfl (q := 115) rfl ?_
  refine pp_bipush dX7_send_115 cb_64 (q := 117) rfl ?_
  refine pp_icmp_ge (tgt := 157) dX7_send_117 (by decide) (q := 120) rfl (fun c117 => ?_) (fun c117 => absurd (nI_le (Nat.le_refl 64) (by decide)) c117)
  refine pp_iconst dX7_send_157 ci_0 (q := 158) rfl ?_
  refine pp_istore dX7_send_158 (by decide) (ls1_7 (nl1 rfl)) (q := 160) rfl ?_
  exact hk
def pk1 (K : Nat → Int32) (kind : Int32) (i : Nat) : List Nat := if kind = nI 6 then sel (asel K) i else []
theorem pk1_s {K : Nat → Int32} {kind : Int32} {i : Nat} : pk1 K kind (i + 1) = if kind = nI 6 ∧ ¬ K i = nI 0 then pk1 K kind i ++ [i] else pk1 K kind i := by
  unfold pk1
  by_cases h : kind = nI 6
  · rw [if_pos h, if_pos h, sel_s]
    unfold asel
    by_cases e : K i = nI 0
    · rw [if_neg (fun q => (of_decide_eq_true q) e), if_neg (fun q => q.2 e)]
    · rw [if_pos (decide_eq_true (show ¬ K i = 0 from e)), if_pos ⟨h, e⟩]
  · rw [if_neg h, if_neg h, if_neg (fun q => h q.1)]
theorem pk1_le {K : Nat → Int32} {kind : Int32} {i : Nat} : (pk1 K kind i).length ≤ i := by
  unfold pk1
  split
  · exact sel_le _ _
  · exact Nat.zero_le _
theorem l_snd1 {ad : Nm → Nat} {g0 : Sg} {A : AW} {n m : Nat} {to kind ab l0 a0 : Int32} {Q : Option Value → PH → Prop} (hmb : m < 64) (hd : mdA A m) (hK : ∀ x, x < 64 → ∃ kd, kd ≤ 4 ∧ (A.1 m).2.2 31 x = nI kd) (hb : bP (aB A) + 64 ≤ 20000) (hk : ∀ g', RS g' ((pk1 ((A.1 m).2.2 31) kind 64).foldl (snd1 m true) A) n True → EqX sdS g0 g' → (∀ x, x < 64 → gA g' (49, 0, 0) x = nI 0) → ∀ z, PP mX7_send 160 [some (.ref (ad (40, 0, 0))), some (.int (nI m)), some (.int to), some (.int kind), some (.int ab), some (.int l0), some (.int a0), some (.int (nI 0)), z] [] (Rel ad g') Q) : ∀ (j i : Nat) (g : Sg), 64 - i < j → i ≤ 64 → RS g ((pk1 ((A.1 m).2.2 31) kind i).foldl (snd1 m true) A) n True → EqX sdS g0 g → (∀ x, x < i → gA g (49, 0, 0) x = nI 0) → ∀ z, PP mX7_send 113 [some (.ref (ad (40, 0, 0))), some (.int (nI m)), some (.int to), some (.int kind), some (.int ab), some (.int l0), some (.int a0), some (.int (nI i)), z] [] (Rel ad g) Q := by
  intro j
  induction j with
  | zero => intro i g h; omega
  | succ j ih =>
    intro i g hij hik h hE ht z
    by_cases e : i = 64
    · subst e
      exact s_snd1z h.1 z (hk g h hE ht z)
    · have hi : i < 64 := by omega
      have e1 : ((pk1 ((A.1 m).2.2 31) kind i).foldl (snd1 m true) A).1 = A.1 := fold_t _ _
      have hd1 : mdA ((pk1 ((A.1 m).2.2 31) kind i).foldl (snd1 m true) A) m := by unfold mdA; rw [e1]; exact hd
      have hbk := (fold_bk (m := m) (wh := true) (pk1 ((A.1 m).2.2 31) kind i) A).2.1
      have hle := pk1_le (K := (A.1 m).2.2 31) (kind := kind) (i := i)
      by_cases hf : kind = nI 6
      · by_cases hk0 : (A.1 m).2.2 31 i = nI 0
        · refine s_snd1b h hmb hd1 hi ht hf (by rw [e1]; exact hk0) (fun g' h' hE' ht' z => ih (i + 1) g' (by omega) (by omega) ?_ (hE.tr hE') ht' z) z
          rw [pk1_s, if_neg (fun q => q.2 hk0)]
          exact h'
        · refine s_snd1c h hmb hd1 hi ht hf ?_ (by omega) (fun g' h' hE' ht' z => ih (i + 1) g' (by omega) (by omega) ?_ (hE.tr hE') ht' z) z
          · obtain ⟨kd, k1, k2⟩ := hK i hi
            rw [e1]
            refine ⟨kd, ?_, k1, k2⟩
            rcases Nat.eq_zero_or_pos kd with q | q
            · subst q; exact absurd k2 hk0
            · exact q
          · rw [pk1_s, if_pos ⟨hf, hk0⟩, List.foldl_append]
            exact h'
      · refine s_snd1a h hmb hd1 hi ht hf (fun g' h' hE' ht' z => ih (i + 1) g' (by omega) (by omega) ?_ (hE.tr hE') ht' z) z
        rw [pk1_s, if_neg (fun q => hf q.1)]
        exact h'
