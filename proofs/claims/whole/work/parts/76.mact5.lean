def cpy (f : Nat → Int32) (P Q i : Nat) : Nat → Int32 := fun j => if P ≤ j ∧ j < P + i then f (Q + (j - P)) else f j
theorem cpy_0 {f : Nat → Int32} {P Q : Nat} : cpy f P Q 0 = f := by
  funext j
  unfold cpy
  rw [if_neg (by omega)]
theorem cpy_s {f : Nat → Int32} {P Q i : Nat} (h : Q + i < P) : upd (cpy f P Q i) (P + i) (f (Q + i)) = cpy f P Q (i + 1) := by
  funext j
  unfold upd cpy
  by_cases h1 : j = P + i
  · subst h1
    rw [if_pos rfl, if_pos (by omega)]
    congr 1
    omega
  · rw [if_neg h1]
    by_cases h2 : P ≤ j ∧ j < P + i
    · rw [if_pos h2, if_pos (by omega)]
    · rw [if_neg h2, if_neg (by omega)]
theorem cpy_lo {f : Nat → Int32} {P Q i j : Nat} (h : j < P) : cpy f P Q i j = f j := if_neg (by omega)
theorem cpy_hi {f : Nat → Int32} {P Q i j : Nat} (h : P + i ≤ j) : cpy f P Q i j = f j := if_neg (by omega)
theorem cpy_in {f : Nat → Int32} {P Q i j : Nat} (h : j < i) : cpy f P Q i (P + j) = f (Q + j) := by
  unfold cpy
  rw [if_pos (by omega)]
  congr 1
  omega
def cpI (B1 B : Bk) (s i : Nat) : Prop := bL B = bL B1 ∧ bP B = bP B1 + i ∧ (∀ l c, bl B l c = if l + 1 = bL B1 ∧ c = 4 then nI i else bl B1 l c) ∧ (∀ p c, p < bP B1 → bp B p c = bp B1 p c) ∧ ∀ j c, j < i → c < 4 → bp B (bP B1 + j) c = bp B1 (s + j) c
theorem cpF_I {B1 B : Bk} {s i k : Nat} (h : cpI B1 B s i) (hi : i < k) (hs : s + k ≤ bP B1) : cpI B1 (cpF s B i) s (i + 1) := by
  obtain ⟨h1, h2, h3, h4, h5⟩ := h
  refine ⟨h1, by show bP B + 1 = _; omega, fun l c => ?_, fun q c hq => ?_, fun j c hj hc => ?_⟩
  · show (if l + 1 = bL B ∧ c = 4 then bl B l 4 + nI 1 else bl B l c) = _
    rw [h1, h3, h3]
    by_cases e : l + 1 = bL B1 ∧ c = 4
    · rw [if_pos e, if_pos e, if_pos ⟨e.1, rfl⟩, nI_add]
    · rw [if_neg e, if_neg e, if_neg e]
  · show (if q = bP B then _ else bp B q c) = _
    rw [if_neg (by omega), h4 q c hq]
  · by_cases e : j = i
    · subst e
      show (if bP B1 + j = bP B then _ else bp B (bP B1 + j) c) = _
      rw [if_pos h2.symm]
      have : c = 0 ∨ c = 1 ∨ c = 2 ∨ c = 3 := by omega
      rcases this with rfl | rfl | rfl | rfl <;> exact h4 _ _ (by omega)
    · show (if bP B1 + j = bP B then _ else bp B (bP B1 + j) c) = _
      rw [if_neg (by omega), h5 j c (by omega) hc]
theorem cpR_I {B1 : Bk} {s k : Nat} (hs : s + k ≤ bP B1) : ∀ (c i : Nat) (B : Bk), i + c = k → cpI B1 B s i → cpI B1 (cpR s i c B) s k
  | 0, i, B, e, h => by
    have : i = k := by omega
    subst this
    exact h
  | c + 1, i, B, e, h => cpR_I hs c (i + 1) (cpF s B i) (by omega) (cpF_I h (by omega) hs)
def twF (f : Nat → Int32) (b P l k s : Nat) : Nat → Int32 := upd (cpy (upd (upd (cpy (upd f 118720 (nI (b + 1))) (29120 + 8 * b) (29120 + 8 * l) 8) (29120 + 8 * b + 7) (nI l)) (29120 + 8 * b + 4) (nI P)) (38720 + 4 * P) (38720 + 4 * s) (4 * k)) 118721 (nI (P + k))
theorem twF_o {f : Nat → Int32} {b P l k s j : Nat} (h1 : j < 29120 ∨ (29120 + 8 * b + 8 ≤ j ∧ j < 38720 + 4 * P) ∨ 38720 + 4 * P + 4 * k ≤ j ∨ (29120 ≤ j ∧ j < 29120 + 8 * b)) (hb : b < 1200) (hne : j ≠ 118720 ∧ j ≠ 118721) : twF f b P l k s j = f j := by
  unfold twF
  rw [upd_ne hne.2]
  have e : cpy (upd (upd (cpy (upd f 118720 (nI (b + 1))) (29120 + 8 * b) (29120 + 8 * l) 8) (29120 + 8 * b + 7) (nI l)) (29120 + 8 * b + 4) (nI P)) (38720 + 4 * P) (38720 + 4 * s) (4 * k) j = upd (upd (cpy (upd f 118720 (nI (b + 1))) (29120 + 8 * b) (29120 + 8 * l) 8) (29120 + 8 * b + 7) (nI l)) (29120 + 8 * b + 4) (nI P) j := if_neg (by omega)
  rw [e, upd_ne (by omega), upd_ne (by omega)]
  have e2 : cpy (upd f 118720 (nI (b + 1))) (29120 + 8 * b) (29120 + 8 * l) 8 j = upd f 118720 (nI (b + 1)) j := if_neg (by omega)
  rw [e2, upd_ne hne.1]
theorem twF_l {f : Nat → Int32} {b P l k s c : Nat} (hb : b < 1200) (hl : l < b) (hc : c < 8) : twF f b P l k s (29120 + 8 * b + c) = if c = 4 then nI P else if c = 7 then nI l else f (29120 + 8 * l + c) := by
  unfold twF
  rw [upd_ne (by omega), cpy_lo (by omega)]
  by_cases h4 : c = 4
  · subst h4
    rw [upd_eq, if_pos rfl]
  · rw [upd_ne (by omega), if_neg h4]
    by_cases h7 : c = 7
    · subst h7
      rw [upd_eq, if_pos rfl]
    · rw [upd_ne (by omega), if_neg h7, cpy_in hc, upd_ne (by omega)]
theorem twF_p {f : Nat → Int32} {b P l k s i c : Nat} (hb : b < 1200) (hs : s + k ≤ P) (hP : P + k ≤ 20000) (hi : i < k) (hc : c < 4) : twF f b P l k s (38720 + 4 * (P + i) + c) = f (38720 + 4 * (s + i) + c) := by
  unfold twF
  rw [upd_ne (by omega), show 38720 + 4 * (P + i) + c = (38720 + 4 * P) + (4 * i + c) from by omega, cpy_in (by omega), upd_ne (by omega), upd_ne (by omega)]
  have e2 : cpy (upd f 118720 (nI (b + 1))) (29120 + 8 * b) (29120 + 8 * l) 8 (38720 + 4 * s + (4 * i + c)) = upd f 118720 (nI (b + 1)) (38720 + 4 * s + (4 * i + c)) := if_neg (by omega)
  rw [e2, upd_ne (by omega)]
  congr 1
  omega
theorem twF_2 {f : Nat → Int32} {b P l k s : Nat} (hb : b < 1200) (hP : P + k ≤ 20000) : twF f b P l k s 118720 = nI (b + 1) ∧ twF f b P l k s 118721 = nI (P + k) := by
  unfold twF
  rw [upd_eq, upd_ne (by omega), cpy_hi (by omega), upd_ne (by omega), upd_ne (by omega), cpy_hi (by omega), upd_eq]
  exact ⟨rfl, rfl⟩
theorem RF_tw {f : Nat → Int32} {sd : Nat → Int64} {A : AW} {n l k s : Nat} (h : RF f sd A n False) (hp : pOk (aB A) l k s) (h05 : bl (aB A) l 5 = nI 0) (hlb : bL (aB A) ≤ 1196) (hpb : bP (aB A) ≤ 19800) : RF (twF f (bL (aB A)) (bP (aB A)) l k s) sd (aBk A (cpB (aB A) l k s)) n False := by
  obtain ⟨hl, hp4, hp7, hsk, hk64⟩ := hp
  obtain ⟨h1, h2, ⟨h3, h4, h5, h6, h7⟩, h8, h9⟩ := h
  have hI := cpR_I (B1 := opB (aB A) (bl (aB A) l 0) (bl (aB A) l 1) (bl (aB A) l 2) (bl (aB A) l 3) (nI l)) (s := s) (k := k) hsk k 0 _ (by omega) ⟨rfl, rfl, fun l' c => by
    by_cases e : l' + 1 = bL (aB A) + 1 ∧ c = 4
    · obtain ⟨e1, rfl⟩ := e
      rw [if_pos ⟨e1, rfl⟩]
      show (if l' = bL (aB A) then _ else _) = _
      rw [if_pos (by omega)]
      rfl
    · exact (if_neg e).symm, fun _ _ _ => rfl, fun j c hj => absurd hj (by omega)⟩
  obtain ⟨i1, i2, i3, i4, i5⟩ := hI
  have i1 : bL (cpB (aB A) l k s) = bL (aB A) + 1 := i1
  have i2 : bP (cpB (aB A) l k s) = bP (aB A) + k := i2
  refine ⟨h1.cg (fun j hj => twF_o (by omega) (by omega) (by omega)), h2.cg (fun j _ hj => twF_o (by omega) (by omega) (by omega)), ⟨?_, ?_, ?_, fun l' c hl' hc _ => ?_, fun q c hq hc => ?_⟩, h8.cg (fun j hj _ => twF_o (by omega) (by omega) (by omega)), (twF_o (by omega) (by omega) (by omega)).trans h9⟩
  · show bL (cpB (aB A) l k s) ≤ 1200 ∧ bP (cpB (aB A) l k s) ≤ 20000
    omega
  · show _ = nI (bL (cpB (aB A) l k s))
    rw [i1]; exact (twF_2 (by omega) (by omega)).1
  · show _ = nI (bP (cpB (aB A) l k s))
    rw [i2]; exact (twF_2 (by omega) (by omega)).2
  · have hl' : l' < bL (cpB (aB A) l k s) := hl'
    show _ = bl (cpR s 0 k _) l' (lcx c)
    rw [i3]
    show _ = if l' + 1 = bL (aB A) + 1 ∧ lcx c = 4 then nI k else (if l' = bL (aB A) then _ else bl (aB A) l' (lcx c))
    by_cases e : l' = bL (aB A)
    · subst e
      have hh := fun c hc => h6 l c hl hc (fun q => q.elim)
      rw [show ltx (bL (aB A)) c = 29120 + 8 * bL (aB A) + c from rfl, twF_l (by omega) (by omega) hc, if_pos rfl]
      have : c = 0 ∨ c = 1 ∨ c = 2 ∨ c = 3 ∨ c = 4 ∨ c = 5 ∨ c = 6 ∨ c = 7 := by omega
      rcases this with rfl | rfl | rfl | rfl | rfl | rfl | rfl | rfl
      · rw [if_neg (show ¬ (bL (aB A) + 1 = bL (aB A) + 1 ∧ lcx 0 = 4) from fun q => absurd q.2 (by decide))]; exact hh 0 hc
      · rw [if_neg (show ¬ (bL (aB A) + 1 = bL (aB A) + 1 ∧ lcx 1 = 4) from fun q => absurd q.2 (by decide))]; exact hh 1 hc
      · rw [if_neg (show ¬ (bL (aB A) + 1 = bL (aB A) + 1 ∧ lcx 2 = 4) from fun q => absurd q.2 (by decide))]; exact hh 2 hc
      · rw [if_neg (show ¬ (bL (aB A) + 1 = bL (aB A) + 1 ∧ lcx 3 = 4) from fun q => absurd q.2 (by decide))]; exact hh 3 hc
      · rw [if_neg (show ¬ (bL (aB A) + 1 = bL (aB A) + 1 ∧ lcx 4 = 4) from fun q => absurd q.2 (by decide))]; rfl
      · rw [if_pos (show bL (aB A) + 1 = bL (aB A) + 1 ∧ lcx 5 = 4 from ⟨rfl, rfl⟩)]; exact (hh 5 hc).trans hp4
      · rw [if_neg (show ¬ (bL (aB A) + 1 = bL (aB A) + 1 ∧ lcx 6 = 4) from fun q => absurd q.2 (by decide))]; exact (hh 6 hc).trans h05
      · rw [if_neg (show ¬ (bL (aB A) + 1 = bL (aB A) + 1 ∧ lcx 7 = 4) from fun q => absurd q.2 (by decide))]; rfl
    · rw [if_neg (by omega), if_neg e, ← h6 l' c (by omega) hc (fun q => q.elim)]
      exact twF_o (by unfold ltx; omega) (by omega) (by unfold ltx; omega)
  · have hq : q < bP (cpB (aB A) l k s) := hq
    show _ = bp (cpR s 0 k _) q c
    by_cases e : q < bP (aB A)
    · rw [i4 q c e]
      show _ = bp (aB A) q c
      rw [← h7 q c e hc]
      exact twF_o (by omega) (by omega) (by omega)
    · obtain ⟨j, rfl⟩ : ∃ j, q = bP (aB A) + j := ⟨q - bP (aB A), by omega⟩
      have i5 := i5 j c (by omega) hc
      rw [show bp (cpR s 0 k (opB (aB A) (bl (aB A) l 0) (bl (aB A) l 1) (bl (aB A) l 2) (bl (aB A) l 3) (nI l))) (bP (aB A) + j) c = bp (aB A) (s + j) c from i5, ← h7 (s + j) c (by omega) hc]
      exact twF_p (by omega) hsk (by omega) (by omega) hc
set_option maxRecDepth 20000 in
set_option maxHeartbeats 4000000 in
theorem s_tw1 {ad : Nm → Nat} {g : Sg} {l b : Nat} {v2 : Int32} {Q : Option Value → PH → Prop} {i : Nat} (hm : al g (40, 0, 0)) (hl : l < b) (hb : b < 1200) (hi : i < 8) (hk : PP mX7_twice 38 [some (.ref (ad (40, 0, 0))), some (.int (nI l)), some (.int v2), some (.int (nI b)), some (.int (nI (i + 1)))] [] (Rel ad (sA g (41, 0, 0) (upd (gA g (41, 0, 0)) (29120 + 8 * b + i) (gA g (41, 0, 0) (ltx l i))))) Q) : PP mX7_twice 38 [some (.ref (ad (40, 0, 0))), some (.int (nI l)), some (.int v2), some (.int (nI b)), some (.int (nI i))] [] (Rel ad g) Q := by
  refine pp_iload dX7_twice_38 rfl (q := 40) rfl ?_
  refine pp_bipush dX7_twice_40 cb_8 (q := 42) rfl ?_
  refine pp_icmp_ge (tgt := 74) dX7_twice_42 (by decide) (q := 45) rfl (fun c42 => absurd c42 (nI_ge hi (by decide))) (fun c42 => ?_)
  refine pp_aload_n dX7_twice_45 rfl isRf_r (q := 46) rfl ?_
  refine ps_get dX7_twice_46 fl_X7_8 hm rfl rfl (q := 49) rfl ?_
  refine pp_sipush dX7_twice_49 cs_29120 (q := 52) rfl ?_
  refine pp_bipush dX7_twice_52 cb_8 (q := 54) rfl ?_
  refine pp_iload_n dX7_twice_54 rfl (q := 55) rfl ?_
  refine pp_imul dX7_twice_55 (q := 56) rfl ?_
  try rw [pk_mul]
  refine pp_iadd dX7_twice_56 (q := 57) rfl ?_
  try rw [nI_add]
  refine pp_iload dX7_twice_57 rfl (q := 59) rfl ?_
  refine pp_iadd dX7_twice_59 (q := 60) rfl ?_
  try rw [nI_add]
  refine pp_aload_n dX7_twice_60 rfl isRf_r (q := 61) rfl ?_
  refine pp_iload_n dX7_twice_61 rfl (q := 62) rfl ?_
  refine pp_iload dX7_twice_62 rfl (q := 64) rfl ?_
  refine ps_callVi dX7_twice_64 lk_X7_83 (by exact hm) (by rfl) (by rfl) (by rfl) (m_letterOf hm (by omega) hi) (by rfl) (by exact Nat.le_of_ble_eq_true rfl) (by decide) (by decide) (by exact Nat.le_of_ble_eq_true rfl) (q := 67) rfl (fun r64 g64 h64 => ?_)
  obtain ⟨rfl, rfl⟩ := And.intro h64.1.symm h64.2.symm
  refine ps_iast (j := 29120 + 8 * b + i) dX7_twice_67 hm (fun _ => rfl) rfl (by omega) (by decide) (q := 68) rfl ?_
  refine pp_iinc dX7_twice_68 rfl (nI_1 _) (ls1_4 (nl1 rfl)) (q := 71) rfl ?_
  refine pp_goto (tgt := 38) dX7_twice_71 (by decide) ?_
  exact hk
set_option maxRecDepth 20000 in
set_option maxHeartbeats 4000000 in
theorem s_tw2 {ad : Nm → Nat} {g : Sg} {l b : Nat} {v2 : Int32} {Q : Option Value → PH → Prop} {i k s P : Nat} (hm : al g (40, 0, 0)) (hl : l < 1200) (h5 : gA g (41, 0, 0) (ltx l 5) = nI k) (h4 : gA g (41, 0, 0) (ltx l 4) = nI s) (hP : gA g (41, 0, 0) 118721 = nI P) (hPk : P + k ≤ 20000) (hs : s + k ≤ P) (hi : i < 4 * k) (hk : PP mX7_twice 116 [some (.ref (ad (40, 0, 0))), some (.int (nI l)), some (.int v2), some (.int (nI b)), some (.int (nI (i + 1)))] [] (Rel ad (sA g (41, 0, 0) (upd (gA g (41, 0, 0)) (38720 + 4 * P + i) (gA g (41, 0, 0) (38720 + 4 * s + i))))) Q) : PP mX7_twice 116 [some (.ref (ad (40, 0, 0))), some (.int (nI l)), some (.int v2), some (.int (nI b)), some (.int (nI i))] [] (Rel ad g) Q := by
  refine pp_iload dX7_twice_116 rfl (q := 118) rfl ?_
  refine pp_iconst dX7_twice_118 ci_4 (q := 119) rfl ?_
  refine pp_aload_n dX7_twice_119 rfl isRf_r (q := 120) rfl ?_
  refine pp_iload_n dX7_twice_120 rfl (q := 121) rfl ?_
  refine pp_iconst dX7_twice_121 ci_5 (q := 122) rfl ?_
  refine ps_callVi dX7_twice_122 lk_X7_83 (by exact hm) (by rfl) (by rfl) (by rfl) (m_letterOf hm (by omega) (by omega)) (by rfl) (by exact Nat.le_of_ble_eq_true rfl) (by decide) (by decide) (by exact Nat.le_of_ble_eq_true rfl) (q := 125) rfl (fun r122 g122 h122 => ?_)
  obtain ⟨rfl, rfl⟩ := And.intro h122.1.symm h122.2.symm
  rw [h5]
  refine pp_imul dX7_twice_125 (q := 126) rfl ?_
  try rw [pk_mul]
  refine pp_icmp_ge (tgt := 174) dX7_twice_126 (by decide) (q := 129) rfl (fun c126 => absurd c126 (nI_ge hi (by omega))) (fun c126 => ?_)
  refine pp_aload_n dX7_twice_129 rfl isRf_r (q := 130) rfl ?_
  refine ps_get dX7_twice_130 fl_X7_8 hm rfl rfl (q := 133) rfl ?_
  refine pp_ldc (v := nI 38720) dX7_twice_133 kc_X7_71 (q := 135) rfl ?_
  refine pp_iconst dX7_twice_135 ci_4 (q := 136) rfl ?_
  refine pp_aload_n dX7_twice_136 rfl isRf_r (q := 137) rfl ?_
  refine ps_get dX7_twice_137 fl_X7_8 hm rfl rfl (q := 140) rfl ?_
  refine pp_ldc (v := nI 118721) dX7_twice_140 kc_X7_52 (q := 142) rfl ?_
  refine ps_iald (j := 118721) dX7_twice_142 hm rfl rfl (by omega) (by decide) (q := 143) rfl ?_
  rw [hP]
  refine pp_imul dX7_twice_143 (q := 144) rfl ?_
  try rw [pk_mul]
  refine pp_iadd dX7_twice_144 (q := 145) rfl ?_
  try rw [nI_add]
  refine pp_iload dX7_twice_145 rfl (q := 147) rfl ?_
  refine pp_iadd dX7_twice_147 (q := 148) rfl ?_
  try rw [nI_add]
  refine pp_aload_n dX7_twice_148 rfl isRf_r (q := 149) rfl ?_
  refine ps_get dX7_twice_149 fl_X7_8 hm rfl rfl (q := 152) rfl ?_
  refine pp_ldc (v := nI 38720) dX7_twice_152 kc_X7_71 (q := 154) rfl ?_
  refine pp_iconst dX7_twice_154 ci_4 (q := 155) rfl ?_
  refine pp_aload_n dX7_twice_155 rfl isRf_r (q := 156) rfl ?_
  refine pp_iload_n dX7_twice_156 rfl (q := 157) rfl ?_
  refine pp_iconst dX7_twice_157 ci_4 (q := 158) rfl ?_
  refine ps_callVi dX7_twice_158 lk_X7_83 (by exact hm) (by rfl) (by rfl) (by rfl) (m_letterOf hm (by omega) (by omega)) (by rfl) (by exact Nat.le_of_ble_eq_true rfl) (by decide) (by decide) (by exact Nat.le_of_ble_eq_true rfl) (q := 161) rfl (fun r158 g158 h158 => ?_)
  obtain ⟨rfl, rfl⟩ := And.intro h158.1.symm h158.2.symm
  rw [h4]
  refine pp_imul dX7_twice_161 (q := 162) rfl ?_
  try rw [pk_mul]
  refine pp_iadd dX7_twice_162 (q := 163) rfl ?_
  try rw [nI_add]
  refine pp_iload dX7_twice_163 rfl (q := 165) rfl ?_
  refine pp_iadd dX7_twice_165 (q := 166) rfl ?_
  try rw [nI_add]
  refine ps_iald (j := 38720 + 4 * s + i) dX7_twice_166 hm rfl rfl (by omega) (by decide) (q := 167) rfl ?_
  refine ps_iast (j := 38720 + 4 * P + i) dX7_twice_167 hm (fun _ => rfl) rfl (by omega) (by decide) (q := 168) rfl ?_
  refine pp_iinc dX7_twice_168 rfl (nI_1 _) (ls1_4 (nl1 rfl)) (q := 171) rfl ?_
  refine pp_goto (tgt := 116) dX7_twice_171 (by decide) ?_
  exact hk
theorem l_tw1 {ad : Nm → Nat} {g : Sg} {l b : Nat} {v2 : Int32} {Q : Option Value → PH → Prop} {f : Nat → Int32} (hl : l < b) (hb : b < 1200) (hk : ∀ g', toQ g (cpy f (29120 + 8 * b) (29120 + 8 * l) 8) g' → PP mX7_twice 38 [some (.ref (ad (40, 0, 0))), some (.int (nI l)), some (.int v2), some (.int (nI b)), some (.int (nI 8))] [] (Rel ad g') Q) : ∀ (j i : Nat) (g' : Sg), 8 - i < j → i ≤ 8 → toQ g (cpy f (29120 + 8 * b) (29120 + 8 * l) i) g' → PP mX7_twice 38 [some (.ref (ad (40, 0, 0))), some (.int (nI l)), some (.int v2), some (.int (nI b)), some (.int (nI i))] [] (Rel ad g') Q := by
  intro j
  induction j with
  | zero => intro i g' h; omega
  | succ j ih =>
    intro i g' hij hik h
    by_cases e : i = 8
    · subst e
      exact hk g' h
    · refine s_tw1 h.1 hl hb (by omega) (ih (i + 1) _ (by omega) (by omega) ⟨h.1, ?_, h.2.2.1, h.2.2.2.sA ms41⟩)
      show upd (gA g' (41, 0, 0)) _ (gA g' (41, 0, 0) (ltx l i)) = _
      rw [h.2.1, ← cpy_s (by omega)]
      congr 1
      show cpy f _ _ i (29120 + 8 * l + i) = _
      exact cpy_lo (by omega)
theorem l_tw2 {ad : Nm → Nat} {g : Sg} {l b : Nat} {v2 : Int32} {Q : Option Value → PH → Prop} {f : Nat → Int32} {k s P : Nat} (hl : l < 1200) (h5 : f (ltx l 5) = nI k) (h4 : f (ltx l 4) = nI s) (hP : f 118721 = nI P) (hPk : P + k ≤ 20000) (hs : s + k ≤ P) (hk : ∀ g', toQ g (cpy f (38720 + 4 * P) (38720 + 4 * s) (4 * k)) g' → PP mX7_twice 116 [some (.ref (ad (40, 0, 0))), some (.int (nI l)), some (.int v2), some (.int (nI b)), some (.int (nI (4 * k)))] [] (Rel ad g') Q) : ∀ (j i : Nat) (g' : Sg), 4 * k - i < j → i ≤ 4 * k → toQ g (cpy f (38720 + 4 * P) (38720 + 4 * s) i) g' → PP mX7_twice 116 [some (.ref (ad (40, 0, 0))), some (.int (nI l)), some (.int v2), some (.int (nI b)), some (.int (nI i))] [] (Rel ad g') Q := by
  intro j
  induction j with
  | zero => intro i g' h; omega
  | succ j ih =>
    intro i g' hij hik h
    by_cases e : i = 4 * k
    · subst e
      exact hk g' h
    · have q5 : gA g' (41, 0, 0) (ltx l 5) = nI k := by rw [h.2.1, cpy_lo (by unfold ltx; omega)]; exact h5
      have q4 : gA g' (41, 0, 0) (ltx l 4) = nI s := by rw [h.2.1, cpy_lo (by unfold ltx; omega)]; exact h4
      have qP : gA g' (41, 0, 0) 118721 = nI P := by rw [h.2.1, cpy_hi (by omega)]; exact hP
      refine s_tw2 h.1 hl q5 q4 qP hPk hs (by omega) (ih (i + 1) _ (by omega) (by omega) ⟨h.1, ?_, h.2.2.1, h.2.2.2.sA ms41⟩)
      show upd (gA g' (41, 0, 0)) _ (gA g' (41, 0, 0) _) = _
      rw [h.2.1, ← cpy_s (by omega)]
      congr 1
      exact cpy_lo (by omega)
set_option maxRecDepth 20000 in
set_option maxHeartbeats 4000000 in
theorem m_twice {ad : Nm → Nat} {g : Sg} {S : CS} {a : Int32} (hR : RR g S) (hH : okH (sH S)) : PS mX7_twice 0 (ent mX7_twice [.ref (ad (40, 0, 0)), .int a]) [] ad g (MdQ g (spAct 9 a (nI 0) (lN 0) S)) := by
  have h := hR.1
  have hI := inv_run hH
  have hn := okH_len hH
  show PP mX7_twice 0 [some (.ref (ad (40, 0, 0))), some (.int a), none, none, none] [] (Rel ad g) _
  refine pp_aload_n dX7_twice_0 rfl isRf_r (q := 1) rfl ?_
  refine pp_iload_n dX7_twice_1 rfl (q := 2) rfl ?_
  refine ps_callVi dX7_twice_2 lk_X7_150 (by exact (by first | exact h1.1 | exact h.1)) (by rfl) (by rfl) (by rfl) (m_whyL (b := nI 0) h (by omega)) (by rfl) (by exact Nat.le_of_ble_eq_true rfl) (by decide) (by decide) (by exact Nat.le_of_ble_eq_true rfl) (q := 5) rfl (fun r2 g2 h2 => ?_)
  obtain ⟨rfl, rfl⟩ := And.intro h2.1.symm h2.2.symm
  refine pp_istore_n dX7_twice_5 (by decide) (ls1_2 (nl1 rfl)) (q := 6) rfl ?_
  refine pp_iload_n dX7_twice_6 rfl (q := 7) rfl ?_
  refine pp_if_eq (tgt := 16) dX7_twice_7 (by decide) (q := 10) rfl (fun c7 => ?_) (fun c7 => ?_)
  · have hw : whyA (runA (sH S)) (sH S).length 9 a (nI 0) = nI 0 := c7
    obtain ⟨⟨l, hl, rfl, h05⟩, hlb, hpb⟩ := wyLt (by omega) hw
    obtain ⟨k, s, hp, ⟨fr, hfr, efr⟩, ⟨t, ht, et⟩, hab, -, -, hP⟩ := hI.1.2.2.1 l hl
    have es : stA (runA (sH S)) 9 (nI l) (nI 0) (lN 0) = (aBk (runA (sH S)) (cpB (aB (runA (sH S))) l k s), nI (bL (aB (runA (sH S))))) := by
      show (aBk (runA (sH S)) (cpB (aB (runA (sH S))) (cl (nI l)) (cl (bl (aB (runA (sH S))) (cl (nI l)) 4)) (cl (bl (aB (runA (sH S))) (cl (nI l)) 7))), nI (bL (aB (runA (sH S))))) = _
      have hz := hI.1.2.1
      have hz2 := hp.2.2.2
      rw [cl_nI (n := l) (by omega), hp.2.1, hp.2.2.1, cl_nI (by omega), cl_nI (by omega)]
    refine pp_aload_n dX7_twice_16 rfl isRf_r (q := 17) rfl ?_
    refine ps_get dX7_twice_17 fl_X7_8 (by first | exact h1.1 | exact h.1) rfl rfl (q := 20) rfl ?_
    refine pp_ldc (v := nI 118720) dX7_twice_20 kc_X7_51 (q := 22) rfl ?_
    refine ps_iald (j := 118720) dX7_twice_22 (by first | exact h1.1 | exact h.1) rfl rfl (by omega) (by decide) (q := 23) rfl ?_
    rw [h.2.2.2.1.2.1]
    refine pp_istore_n dX7_twice_23 (by decide) (ls1_3 (nl1 rfl)) (q := 24) rfl ?_
    refine pp_aload_n dX7_twice_24 rfl isRf_r (q := 25) rfl ?_
    refine ps_get dX7_twice_25 fl_X7_8 (by first | exact h1.1 | exact h.1) rfl rfl (q := 28) rfl ?_
    refine pp_ldc (v := nI 118720) dX7_twice_28 kc_X7_51 (q := 30) rfl ?_
    refine pp_dup2 dX7_twice_30 rfl rfl (q := 31) rfl ?_
    refine ps_iald (j := 118720) dX7_twice_31 (by first | exact h1.1 | exact h.1) rfl rfl (by omega) (by decide) (q := 32) rfl ?_
    rw [h.2.2.2.1.2.1]
    refine pp_iconst dX7_twice_32 ci_1 (q := 33) rfl ?_
    refine pp_iadd dX7_twice_33 (q := 34) rfl ?_
    try rw [nI_add]
    refine ps_iast (j := 118720) dX7_twice_34 (by first | exact h1.1 | exact h.1) (fun _ => rfl) rfl (by omega) (by decide) (q := 35) rfl ?_
    refine pp_iconst dX7_twice_35 ci_0 (q := 36) rfl ?_
    refine pp_istore dX7_twice_36 (by decide) (ls1_4 (nl1 rfl)) (q := 38) rfl ?_
    refine l_tw1 (g := g) (f := (upd (gA g (41, 0, 0)) 118720 (nI (bL (aB (runA (sH S))) + 1)))) hl (by omega) (fun g2 h2 => ?_) 9 0 _ (by omega) (by omega) ⟨h.1, ?_, rfl, EqM.rf.sA ms41⟩
    · skip
      refine pp_iload dX7_twice_38 rfl (q := 40) rfl ?_
      refine pp_bipush dX7_twice_40 cb_8 (q := 42) rfl ?_
      refine pp_icmp_ge (tgt := 74) dX7_twice_42 (by decide) (q := 45) rfl (fun c42 => ?_) (fun c42 => absurd (by decide) c42)
      refine pp_aload_n dX7_twice_74 rfl isRf_r (q := 75) rfl ?_
      refine ps_get dX7_twice_75 fl_X7_8 h2.1 rfl rfl (q := 78) rfl ?_
      refine pp_sipush dX7_twice_78 cs_29120 (q := 81) rfl ?_
      refine pp_bipush dX7_twice_81 cb_8 (q := 83) rfl ?_
      refine pp_iload_n dX7_twice_83 rfl (q := 84) rfl ?_
      refine pp_imul dX7_twice_84 (q := 85) rfl ?_
      try rw [pk_mul]
      refine pp_iadd dX7_twice_85 (q := 86) rfl ?_
      try rw [nI_add]
      refine pp_bipush dX7_twice_86 cb_7 (q := 88) rfl ?_
      refine pp_iadd dX7_twice_88 (q := 89) rfl ?_
      try rw [nI_add]
      refine pp_iload_n dX7_twice_89 rfl (q := 90) rfl ?_
      refine ps_iast (j := 29120 + 8 * bL (aB (runA (sH S))) + 7) dX7_twice_90 h2.1 (fun _ => rfl) rfl (by omega) (by decide) (q := 91) rfl ?_
      refine pp_aload_n dX7_twice_91 rfl isRf_r (q := 92) rfl ?_
      refine ps_get dX7_twice_92 fl_X7_8 h2.1 rfl rfl (q := 95) rfl ?_
      refine pp_sipush dX7_twice_95 cs_29120 (q := 98) rfl ?_
      refine pp_bipush dX7_twice_98 cb_8 (q := 100) rfl ?_
      refine pp_iload_n dX7_twice_100 rfl (q := 101) rfl ?_
      refine pp_imul dX7_twice_101 (q := 102) rfl ?_
      try rw [pk_mul]
      refine pp_iadd dX7_twice_102 (q := 103) rfl ?_
      try rw [nI_add]
      refine pp_iconst dX7_twice_103 ci_4 (q := 104) rfl ?_
      refine pp_iadd dX7_twice_104 (q := 105) rfl ?_
      try rw [nI_add]
      refine pp_aload_n dX7_twice_105 rfl isRf_r (q := 106) rfl ?_
      refine ps_get dX7_twice_106 fl_X7_8 h2.1 rfl rfl (q := 109) rfl ?_
      refine pp_ldc (v := nI 118721) dX7_twice_109 kc_X7_52 (q := 111) rfl ?_
      refine ps_iald (j := 118721) dX7_twice_111 h2.1 rfl rfl (by omega) (by decide) (q := 112) rfl ?_
      rw [show gA (sA g2 (41, 0, 0) (upd (gA g2 (41, 0, 0)) (29120 + 8 * bL (aB (runA (sH S))) + 7) (nI l))) (41, 0, 0) 118721 = nI (bP (aB (runA (sH S)))) from by rw [gA_41, upd_ne (by omega), h2.2.1, cpy_hi (by omega), upd_ne (by omega)]; exact h.2.2.2.1.2.2.1]
      refine ps_iast (j := 29120 + 8 * bL (aB (runA (sH S))) + 4) dX7_twice_112 h2.1 (fun _ => rfl) rfl (by omega) (by decide) (q := 113) rfl ?_
      refine pp_iconst dX7_twice_113 ci_0 (q := 114) rfl ?_
      refine pp_istore dX7_twice_114 (by decide) (ls1_4 (nl1 rfl)) (q := 116) rfl ?_
      have f3 : ∀ j, j < 29120 + 8 * bL (aB (runA (sH S))) → cpy (upd (gA g (41, 0, 0)) 118720 (nI (bL (aB (runA (sH S))) + 1))) (29120 + 8 * bL (aB (runA (sH S)))) (29120 + 8 * l) 8 j = gA g (41, 0, 0) j := fun j hj => by rw [cpy_lo hj, upd_ne (by omega)]
      have qPb : gA g (41, 0, 0) 118721 = nI (bP (aB (runA (sH S)))) := h.2.2.2.1.2.2.1
      refine l_tw2 (g := g) (k := k) (s := s) (P := bP (aB (runA (sH S)))) (f := upd (upd (cpy (upd (gA g (41, 0, 0)) 118720 (nI (bL (aB (runA (sH S))) + 1))) (29120 + 8 * bL (aB (runA (sH S)))) (29120 + 8 * l) 8) (29120 + 8 * bL (aB (runA (sH S))) + 7) (nI l)) (29120 + 8 * bL (aB (runA (sH S))) + 4) (nI (bP (aB (runA (sH S)))))) (by omega) ?_ ?_ ?_ (by have := hp.2.2.2; omega) hp.2.2.2.1 (fun g3 h3 => ?_) (4 * k + 1) 0 _ (by omega) (by omega) ⟨h2.1, ?_, h2.2.2.1, (h2.2.2.2.sA ms41).sA ms41⟩
      · rw [upd_ne (by unfold ltx; omega), upd_ne (by unfold ltx; omega), f3 _ (by unfold ltx; omega), h.2.lt hl (by omega)]
        exact hp.2.1
      · rw [upd_ne (by unfold ltx; omega), upd_ne (by unfold ltx; omega), f3 _ (by unfold ltx; omega), h.2.lt hl (by omega)]
        exact hp.2.2.1
      · rw [upd_ne (by omega), upd_ne (by omega), cpy_hi (by omega), upd_ne (by omega)]
        exact qPb
      · have hpk := hp.2.2.2
        have q5 : gA g3 (41, 0, 0) (ltx l 5) = nI k := by
          rw [h3.2.1, cpy_lo (by unfold ltx; omega), upd_ne (by unfold ltx; omega), upd_ne (by unfold ltx; omega), f3 _ (by unfold ltx; omega), h.2.lt hl (by omega)]
          exact hp.2.1
        have qP : gA g3 (41, 0, 0) 118721 = nI (bP (aB (runA (sH S)))) := by
          rw [h3.2.1, cpy_hi (by omega), upd_ne (by omega), upd_ne (by omega), cpy_hi (by omega), upd_ne (by omega)]
          exact qPb
        refine pp_iload dX7_twice_116 rfl (q := 118) rfl ?_
        refine pp_iconst dX7_twice_118 ci_4 (q := 119) rfl ?_
        refine pp_aload_n dX7_twice_119 rfl isRf_r (q := 120) rfl ?_
        refine pp_iload_n dX7_twice_120 rfl (q := 121) rfl ?_
        refine pp_iconst dX7_twice_121 ci_5 (q := 122) rfl ?_
        refine ps_callVi dX7_twice_122 lk_X7_83 (by exact h3.1) (by rfl) (by rfl) (by rfl) (m_letterOf h3.1 (by omega) (by omega)) (by rfl) (by exact Nat.le_of_ble_eq_true rfl) (by decide) (by decide) (by exact Nat.le_of_ble_eq_true rfl) (q := 125) rfl (fun r122 g122 h122 => ?_)
        obtain ⟨rfl, rfl⟩ := And.intro h122.1.symm h122.2.symm
        rw [q5]
        refine pp_imul dX7_twice_125 (q := 126) rfl ?_
        try rw [pk_mul]
        refine pp_icmp_ge (tgt := 174) dX7_twice_126 (by decide) (q := 129) rfl (fun c126 => ?_) (fun c126 => absurd (Int32.le_refl _) c126)
        refine pp_aload_n dX7_twice_174 rfl isRf_r (q := 175) rfl ?_
        refine ps_get dX7_twice_175 fl_X7_8 h3.1 rfl rfl (q := 178) rfl ?_
        refine pp_ldc (v := nI 118721) dX7_twice_178 kc_X7_52 (q := 180) rfl ?_
        refine pp_dup2 dX7_twice_180 rfl rfl (q := 181) rfl ?_
        refine ps_iald (j := 118721) dX7_twice_181 h3.1 rfl rfl (by omega) (by decide) (q := 182) rfl ?_
        rw [qP]
        refine pp_aload_n dX7_twice_182 rfl isRf_r (q := 183) rfl ?_
        refine pp_iload_n dX7_twice_183 rfl (q := 184) rfl ?_
        refine pp_iconst dX7_twice_184 ci_5 (q := 185) rfl ?_
        refine ps_callVi dX7_twice_185 lk_X7_83 (by exact h3.1) (by rfl) (by rfl) (by rfl) (m_letterOf h3.1 (by omega) (by omega)) (by rfl) (by exact Nat.le_of_ble_eq_true rfl) (by decide) (by decide) (by exact Nat.le_of_ble_eq_true rfl) (q := 188) rfl (fun r185 g185 h185 => ?_)
        obtain ⟨rfl, rfl⟩ := And.intro h185.1.symm h185.2.symm
        rw [q5]
        refine pp_iadd dX7_twice_188 (q := 189) rfl ?_
        try rw [nI_add]
        refine ps_iast (j := 118721) dX7_twice_189 h3.1 (fun _ => rfl) rfl (by omega) (by decide) (q := 190) rfl ?_
        have h9 : RS (sA g3 (41, 0, 0) (upd (gA g3 (41, 0, 0)) 118721 (nI (bP (aB (runA (sH S))) + k)))) (aBk (runA (sH S)) (cpB (aB (runA (sH S))) l k s)) (sH S).length False := by
          refine ⟨h3.1, ?_⟩
          show RF (upd (gA g3 (41, 0, 0)) 118721 _) (gB g3 (43, 0, 0)) _ _ _
          rw [h3.2.1, h3.2.2.1]
          exact RF_tw h.2 hp h05 hlb hpb
        refine pp_aload_n dX7_twice_190 rfl isRf_r (q := 191) rfl ?_
        refine pp_iload_n dX7_twice_191 rfl (q := 192) rfl ?_
        refine ps_callVi dX7_twice_192 lk_X7_138 (by exact h3.1) (by rfl) (by rfl) (by rfl) (m_dd (m := 0) h9) (by rfl) (by exact Nat.le_of_ble_eq_true rfl) (by decide) (by decide) (by exact Nat.le_of_ble_eq_true rfl) (q := 195) rfl (fun r192 g192 h192 => ?_)
        obtain ⟨rfl, hZ, hEZ⟩ := h192
        refine ri_ret dX7_twice_195 rfl rfl ?_
        have q := mq_ok (v := 9) (a := nI l) (b := nI 0) (sd := lN 0) hR (by omega) hw ((h3.2.2.2.sA ms41).tr hEZ) (by rw [es]; exact hZ)
        rw [es] at q
        exact q
      · rw [cpy_0]
        show upd (upd (gA g2 (41, 0, 0)) _ _) _ _ = _
        rw [h2.2.1]
    · rw [cpy_0]
      rfl
  · obtain ⟨k, hk, ek⟩ := whyA_k (fun q => c7 q)
    rw [ek]
    refine pp_aload_n dX7_twice_10 rfl isRf_r (q := 11) rfl ?_
    refine pp_iload_n dX7_twice_11 rfl (q := 12) rfl ?_
    refine ps_callVi dX7_twice_12 lk_X7_132 (by exact (by first | exact h1.1 | exact h.1)) (by rfl) (by rfl) (by rfl) (m_no h.1 hk.1) (by rfl) (by exact Nat.le_of_ble_eq_true rfl) (by decide) (by decide) (by exact Nat.le_of_ble_eq_true rfl) (q := 15) rfl (fun r12 g12 h12 => ?_)
    obtain ⟨rfl, rfl⟩ := And.intro h12.1.symm h12.2.symm
    refine ri_ret dX7_twice_15 rfl rfl ?_
    exact mq_no hR hk (sp_no (show whyA (runA (sH S)) (sH S).length 9 a (nI 0) = - nI k from ek) hk.1)
