def mkI (t : Nat → Bool) (x : Nat) : Int32 := if t x = true then nI 1 else nI 0
theorem ls_val {f : Nat → Int32} {sd : Nat → Int64} {A : AW} {n m : Nat} {o : Prop} {t : Nat → Int32} {tk : Nat → Bool} {v : Int32} (h : RF f sd A n o) (hmb : m < 64) (hd : mdA A m) (ht : ∀ x, x < 64 → t x = mkI tk x) (hv : lsI f t m 64 v) : ∃ o, isLst ((A.1 m).2.2 31) ((A.1 m).2.2 33) tk 64 o ∧ v = oI o := by
  have ho := (h.o hmb hd).2.2.1
  have he : ∀ x, x < 64 → (elb f t m x ↔ (esel ((A.1 m).2.2 31) ((A.1 m).2.2 33) x = true ∧ tk x = false)) := fun x hx => by
    obtain ⟨h1, h2⟩ := ho x hx
    unfold elb esel
    rw [ht x hx, h1]
    unfold mkI
    constructor
    · rintro ⟨a, b, c⟩
      rw [h2 a 2 (by omega) (by omega)] at b
      refine ⟨by rw [decide_eq_true a, decide_eq_true b]; rfl, ?_⟩
      cases hq : tk x with
      | false => rfl
      | true => rw [hq, if_pos rfl] at c; exact absurd c (by decide)
    · rintro ⟨a, b⟩
      rw [Bool.and_eq_true] at a
      have a1 := of_decide_eq_true a.1
      refine ⟨a1, ?_, by rw [b]; rfl⟩
      rw [h2 a1 2 (by omega) (by omega)]
      exact of_decide_eq_true a.2
  have hT : ∀ x, x < 64 → elb f t m x → f (nw m x + 2) = (A.1 m).2.2 33 x := fun x hx q => by
    obtain ⟨h1, h2⟩ := ho x hx
    exact h2 (by rw [← h1]; exact q.1) 2 (by omega) (by omega)
  rcases hv with ⟨rfl, hn⟩ | ⟨b, h1, rfl, h3, h4⟩
  · refine ⟨none, fun x hx hex => ?_, rfl⟩
    cases hq : tk x with
    | true => rfl
    | false => exact absurd ((he x hx).mpr ⟨hex, hq⟩) (hn x hx)
  · have hb := (he b h1).mp h3
    refine ⟨some b, ⟨h1, hb.1, hb.2, fun x hx hex hq => ?_⟩, rfl⟩
    have hxe := (he x hx).mpr ⟨hex, hq⟩
    rcases h4 x hx hxe with q | q
    · exact Or.inl q
    · refine Or.inr ?_
      unfold ltp at q ⊢
      dsimp only at q
      rw [hT x hx hxe, hT b h1 h3] at q
      exact q
set_option maxRecDepth 20000 in
set_option maxHeartbeats 4000000 in
theorem s_snd2f {ad : Nm → Nat} {g : Sg} {m : Nat} {to kind ab l0 a0 : Int32} {Q : Option Value → PH → Prop} (hm : al g (40, 0, 0)) (hf : kind = nI 6) (z : Option Value) (hk : PP mX7_send 212 [some (.ref (ad (40, 0, 0))), some (.int (nI m)), some (.int to), some (.int kind), some (.int ab), some (.int l0), some (.int a0), some (.int (nI 0)), z] [] (Rel ad g) Q) : PP mX7_send 160 [some (.ref (ad (40, 0, 0))), some (.int (nI m)), some (.int to), some (.int kind), some (.int ab), some (.int l0), some (.int a0), some (.int (nI 0)), z] [] (Rel ad g) Q := by
  refine pp_iload dX7_send_160 rfl (q := 162) rfl ?_
  refine pp_bipush dX7_send_162 cb_6 (q := 164) rfl ?_
  refine pp_icmp_ge (tgt := 209) dX7_send_164 (by decide) (q := 167) rfl (fun c164 => absurd c164 (by decide)) (fun c164 => ?_)
  refine pp_iload_n dX7_send_167 rfl (q := 168) rfl ?_
  refine pp_bipush dX7_send_168 cb_6 (q := 170) rfl ?_
  refine pp_icmp_eq (tgt := 209) dX7_send_170 (by decide) (q := 173) rfl (fun c170 => ?_) (fun c170 => absurd hf c170)
  refine pp_iconst dX7_send_209 ci_0 (q := 210) rfl ?_
  refine pp_istore dX7_send_210 (by decide) (ls1_7 (nl1 rfl)) (q := 212) rfl ?_
  exact hk
set_option maxRecDepth 20000 in
set_option maxHeartbeats 4000000 in
theorem s_snd2z {ad : Nm → Nat} {g : Sg} {m : Nat} {to kind ab l0 a0 : Int32} {Q : Option Value → PH → Prop} (hm : al g (40, 0, 0)) (z : Option Value) (hk : PP mX7_send 212 [some (.ref (ad (40, 0, 0))), some (.int (nI m)), some (.int to), some (.int kind), some (.int ab), some (.int l0), some (.int a0), some (.int (nI 0)), z] [] (Rel ad g) Q) : PP mX7_send 160 [some (.ref (ad (40, 0, 0))), some (.int (nI m)), some (.int to), some (.int kind), some (.int ab), some (.int l0), some (.int a0), some (.int (nI 6)), z] [] (Rel ad g) Q := by
  refine pp_iload dX7_send_160 rfl (q := 162) rfl ?_
  refine pp_bipush dX7_send_162 cb_6 (q := 164) rfl ?_
  refine pp_icmp_ge (tgt := 209) dX7_send_164 (by decide) (q := 167) rfl (fun c164 => ?_) (fun c164 => absurd (nI_le (Nat.le_refl 6) (by decide)) c164)
  refine pp_iconst dX7_send_209 ci_0 (q := 210) rfl ?_
  refine pp_istore dX7_send_210 (by decide) (ls1_7 (nl1 rfl)) (q := 212) rfl ?_
  exact hk
set_option maxRecDepth 20000 in
set_option maxHeartbeats 4000000 in
theorem s_snd2n {ad : Nm → Nat} {g : Sg} {A : AW} {n m : Nat} {to kind ab l0 a0 : Int32} {Q : Option Value → PH → Prop} {tk : Nat → Bool} {k : Nat} (h : RS g A n True) (hmb : m < 64) (hd : mdA A m) (hk6 : k < 6) (hf : ¬ kind = nI 6) (ht : ∀ x, x < 64 → gA g (49, 0, 0) x = mkI tk x) (hls : isLst ((A.1 m).2.2 31) ((A.1 m).2.2 33) tk 64 none) (z : Option Value) (hk : ∀ z, PP mX7_send 212 [some (.ref (ad (40, 0, 0))), some (.int (nI m)), some (.int to), some (.int kind), some (.int ab), some (.int l0), some (.int a0), some (.int (nI 0)), z] [] (Rel ad g) Q) : PP mX7_send 160 [some (.ref (ad (40, 0, 0))), some (.int (nI m)), some (.int to), some (.int kind), some (.int ab), some (.int l0), some (.int a0), some (.int (nI k)), z] [] (Rel ad g) Q := by
  have hm := h.1
  refine pp_iload dX7_send_160 rfl (q := 162) rfl ?_
  refine pp_bipush dX7_send_162 cb_6 (q := 164) rfl ?_
  refine pp_icmp_ge (tgt := 209) dX7_send_164 (by decide) (q := 167) rfl (fun c164 => absurd c164 (nI_ge hk6 (by decide))) (fun c164 => ?_)
  refine pp_iload_n dX7_send_167 rfl (q := 168) rfl ?_
  refine pp_bipush dX7_send_168 cb_6 (q := 170) rfl ?_
  refine pp_icmp_eq (tgt := 209) dX7_send_170 (by decide) (q := 173) rfl (fun c170 => absurd c170 hf) (fun c170 => ?_)
  refine pp_aload_n dX7_send_173 rfl isRf_r (q := 174) rfl ?_
  refine pp_iload_n dX7_send_174 rfl (q := 175) rfl ?_
  refine ps_callVi dX7_send_175 lk_X7_79 (by exact hm) (by rfl) (by rfl) (by rfl) (m_least hm hmb) (by rfl) (by exact Nat.le_of_ble_eq_true rfl) (by decide) (by decide) (by exact Nat.le_of_ble_eq_true rfl) (q := 178) rfl (fun r175 g175 h175 => ?_)
  obtain ⟨hl, rfl⟩ := And.intro h175.1 h175.2.symm
  obtain ⟨o, ho1, rfl⟩ := ls_val h.2 hmb hd ht hl
  obtain rfl := isLst_uni ho1 hls
  refine pp_istore dX7_send_178 (by decide) (ls1_8 (nl1 rfl)) (q := 180) rfl ?_
  refine pp_iload dX7_send_180 rfl (q := 182) rfl ?_
  refine pp_if_ge (tgt := 188) dX7_send_182 (by decide) (q := 185) rfl (fun c182 => absurd c182 (by decide)) (fun c182 => ?_)
  refine pp_goto (tgt := 209) dX7_send_185 (by decide) ?_
  refine pp_iconst dX7_send_209 ci_0 (q := 210) rfl ?_
  refine pp_istore dX7_send_210 (by decide) (ls1_7 (nl1 rfl)) (q := 212) rfl ?_
  exact hk _
set_option maxRecDepth 20000 in
set_option maxHeartbeats 4000000 in
theorem s_snd2y {ad : Nm → Nat} {g : Sg} {A : AW} {n m : Nat} {to kind ab l0 a0 : Int32} {Q : Option Value → PH → Prop} {tk : Nat → Bool} {k b : Nat} (h : RS g A n True) (hmb : m < 64) (hd : mdA A m) (hk6 : k < 6) (hf : ¬ kind = nI 6) (ht : ∀ x, x < 64 → gA g (49, 0, 0) x = mkI tk x) (hls : isLst ((A.1 m).2.2 31) ((A.1 m).2.2 33) tk 64 (some b)) (hkd : ∃ kd, 1 ≤ kd ∧ kd ≤ 4 ∧ (A.1 m).2.2 31 b = nI kd) (hb : bP (aB A) + 1 ≤ 20000) (z : Option Value) (hk : ∀ g', RS g' (snd1 m true A b) n True → EqX sdS g g' → (∀ x, x < 64 → gA g' (49, 0, 0) x = mkI (fun y => tk y || decide (y = b)) x) → ∀ z, PP mX7_send 160 [some (.ref (ad (40, 0, 0))), some (.int (nI m)), some (.int to), some (.int kind), some (.int ab), some (.int l0), some (.int a0), some (.int (nI (k + 1))), z] [] (Rel ad g') Q) : PP mX7_send 160 [some (.ref (ad (40, 0, 0))), some (.int (nI m)), some (.int to), some (.int kind), some (.int ab), some (.int l0), some (.int a0), some (.int (nI k)), z] [] (Rel ad g) Q := by
  have hm := h.1
  refine pp_iload dX7_send_160 rfl (q := 162) rfl ?_
  refine pp_bipush dX7_send_162 cb_6 (q := 164) rfl ?_
  refine pp_icmp_ge (tgt := 209) dX7_send_164 (by decide) (q := 167) rfl (fun c164 => absurd c164 (nI_ge hk6 (by decide))) (fun c164 => ?_)
  refine pp_iload_n dX7_send_167 rfl (q := 168) rfl ?_
  refine pp_bipush dX7_send_168 cb_6 (q := 170) rfl ?_
  refine pp_icmp_eq (tgt := 209) dX7_send_170 (by decide) (q := 173) rfl (fun c170 => absurd c170 hf) (fun c170 => ?_)
  refine pp_aload_n dX7_send_173 rfl isRf_r (q := 174) rfl ?_
  refine pp_iload_n dX7_send_174 rfl (q := 175) rfl ?_
  refine ps_callVi dX7_send_175 lk_X7_79 (by exact hm) (by rfl) (by rfl) (by rfl) (m_least hm hmb) (by rfl) (by exact Nat.le_of_ble_eq_true rfl) (by decide) (by decide) (by exact Nat.le_of_ble_eq_true rfl) (q := 178) rfl (fun r175 g175 h175 => ?_)
  obtain ⟨hl, rfl⟩ := And.intro h175.1 h175.2.symm
  obtain ⟨o, ho1, rfl⟩ := ls_val h.2 hmb hd ht hl
  obtain rfl := isLst_uni ho1 hls
  refine pp_istore dX7_send_178 (by decide) (ls1_8 (nl1 rfl)) (q := 180) rfl ?_
  refine pp_iload dX7_send_180 rfl (q := 182) rfl ?_
  refine pp_if_ge (tgt := 188) dX7_send_182 (by decide) (q := 185) rfl (fun c182 => ?_) (fun c182 => absurd (nI_pos' (by have := hls.1; omega)) c182)
  refine pp_aload_n dX7_send_188 rfl isRf_r (q := 189) rfl ?_
  refine ps_get dX7_send_189 fl_X7_36 hm rfl rfl (q := 192) rfl ?_
  refine pp_iload dX7_send_192 rfl (q := 194) rfl ?_
  refine pp_iconst dX7_send_194 ci_1 (q := 195) rfl ?_
  refine ps_zast (j := b) dX7_send_195 hm (fun _ => rfl) rfl hls.1 (by decide) rfl (q := 196) rfl ?_
  have h1 : RS (sA g (49, 0, 0) (upd (gA g (49, 0, 0)) b (nI 1))) A n True := h
  have hE1 : EqX sdS g (sA g (49, 0, 0) (upd (gA g (49, 0, 0)) b (nI 1))) := EqX.rf.sA (Or.inr rfl)
  refine pp_aload_n dX7_send_196 rfl isRf_r (q := 197) rfl ?_
  refine pp_iload_n dX7_send_197 rfl (q := 198) rfl ?_
  refine pp_iload dX7_send_198 rfl (q := 200) rfl ?_
  refine ps_callVv dX7_send_200 lk_X7_75 (by exact hm) (by rfl) (by rfl) (by rfl) (m_carry (o := True) h1 hmb hd hls.1 hkd hb) (by rfl) (by exact Nat.le_of_ble_eq_true rfl) (by decide) (by decide) (by exact Nat.le_of_ble_eq_true rfl) (q := 203) rfl (fun g200 h200 => ?_)
  obtain ⟨h2, hE2⟩ := h200
  have hE3 := hE1.tr (hE2.mono (fun n q => (Or.inl q : sdS n)))
  have ht2 : ∀ x, x < 64 → gA g200 (49, 0, 0) x = mkI (fun y => tk y || decide (y = b)) x := fun x hx => by
    rw [(hE2.1 (49, 0, 0) (fun q => by cases q)).2.2.1]
    show upd (gA g (49, 0, 0)) b (nI 1) x = _
    by_cases e : x = b
    · rw [e, upd_eq]
      unfold mkI
      rw [if_pos (by simp)]
    · rw [upd_ne e, ht x hx]
      unfold mkI
      simp [e]
  refine pp_iinc dX7_send_203 rfl (nI_1 _) (ls1_7 (nl1 rfl)) (q := 206) rfl ?_
  refine pp_goto (tgt := 160) dX7_send_206 (by decide) ?_
  exact hk _ h2 hE3 ht2 _
theorem mkI_cg {t t' : Nat → Bool} {x : Nat} (h : t x = t' x) : mkI t x = mkI t' x := by unfold mkI; rw [h]
theorem l_snd2 {ad : Nm → Nat} {g0 : Sg} {A : AW} {n m : Nat} {to kind ab l0 a0 : Int32} {Q : Option Value → PH → Prop} (hmb : m < 64) (hd : mdA A m) (hf : ¬ kind = nI 6) (hK : ∀ x, x < 64 → ∃ kd, kd ≤ 4 ∧ (A.1 m).2.2 31 x = nI kd) (hb : bP (aB A) + 6 ≤ 20000) (hk : ∀ g', RS g' ((frs ((A.1 m).2.2 31) ((A.1 m).2.2 33) 64).foldl (snd1 m true) A) n True → EqX sdS g0 g' → (∀ x, x < 64 → gA g' (49, 0, 0) x = mkI (fun x => decide (x ∈ (frs ((A.1 m).2.2 31) ((A.1 m).2.2 33) 64))) x) → ∀ z, PP mX7_send 212 [some (.ref (ad (40, 0, 0))), some (.int (nI m)), some (.int to), some (.int kind), some (.int ab), some (.int l0), some (.int a0), some (.int (nI 0)), z] [] (Rel ad g') Q) : ∀ (j k : Nat) (g : Sg), 6 - k < j → k ≤ 6 → RS g (((frs ((A.1 m).2.2 31) ((A.1 m).2.2 33) 64).take k).foldl (snd1 m true) A) n True → EqX sdS g0 g → (∀ x, x < 64 → gA g (49, 0, 0) x = mkI (tkM (frs ((A.1 m).2.2 31) ((A.1 m).2.2 33) 64) k) x) → ∀ z, PP mX7_send 160 [some (.ref (ad (40, 0, 0))), some (.int (nI m)), some (.int to), some (.int kind), some (.int ab), some (.int l0), some (.int a0), some (.int (nI k)), z] [] (Rel ad g) Q := by
  intro j
  induction j with
  | zero => intro k g h; omega
  | succ j ih =>
    intro k g hij hk6 h hE ht z
    have hl6 := (frs_P ((A.1 m).2.2 31) ((A.1 m).2.2 33) 64).2.2.1
    have e1 : (((frs ((A.1 m).2.2 31) ((A.1 m).2.2 33) 64).take k).foldl (snd1 m true) A).1 = A.1 := fold_t _ _
    have hd1 : mdA (((frs ((A.1 m).2.2 31) ((A.1 m).2.2 33) 64).take k).foldl (snd1 m true) A) m := by unfold mdA; rw [e1]; exact hd
    by_cases e : k = 6
    · subst e
      rw [List.take_of_length_le hl6] at h
      refine s_snd2z h.1 z (hk g h hE (fun x hx => ?_) z)
      rw [ht x hx]
      refine mkI_cg ?_
      unfold tkM
      rw [List.take_of_length_le hl6]
    · have hls := frs_lst (K := (A.1 m).2.2 31) (T := (A.1 m).2.2 33) (k := k) (by omega)
      cases hb2 : (frs ((A.1 m).2.2 31) ((A.1 m).2.2 33) 64)[k]? with
      | none =>
        rw [hb2] at hls
        have hlk : (frs ((A.1 m).2.2 31) ((A.1 m).2.2 33) 64).length ≤ k := List.getElem?_eq_none_iff.mp hb2
        rw [List.take_of_length_le hlk] at h hd1 e1
        refine s_snd2n (tk := tkM (frs ((A.1 m).2.2 31) ((A.1 m).2.2 33) 64) k) h hmb hd1 (by omega) hf ht (by rw [e1]; exact hls) z (fun z => hk g h hE (fun x hx => ?_) z)
        rw [ht x hx]
        refine mkI_cg ?_
        unfold tkM
        rw [List.take_of_length_le hlk]
      | some b =>
        rw [hb2] at hls
        have hbk := (fold_bk (m := m) (wh := true) ((frs ((A.1 m).2.2 31) ((A.1 m).2.2 33) 64).take k) A).2.1
        have htl : ((frs ((A.1 m).2.2 31) ((A.1 m).2.2 33) 64).take k).length ≤ k := by rw [List.length_take]; omega
        have hkl := lt_of_getE hb2
        have hts : (frs ((A.1 m).2.2 31) ((A.1 m).2.2 33) 64).take (k + 1) = (frs ((A.1 m).2.2 31) ((A.1 m).2.2 33) 64).take k ++ [b] := by
          rw [← List.take_append_getElem hkl]
          congr 2
          exact Option.some.inj ((List.getElem?_eq_getElem hkl).symm.trans hb2)
        refine s_snd2y (tk := tkM (frs ((A.1 m).2.2 31) ((A.1 m).2.2 33) 64) k) (b := b) h hmb hd1 (by omega) hf ht (by rw [e1]; exact hls) ?_ (by omega) z (fun g' h' hE' ht' z => ih (k + 1) g' (by omega) (by omega) ?_ (hE.tr hE') (fun x hx => ?_) z)
        · rw [e1]
          obtain ⟨kd, k1, k2⟩ := hK b hls.1
          refine ⟨kd, ?_, k1, k2⟩
          rcases Nat.eq_zero_or_pos kd with q | q
          · subst q
            have := hls.2.1
            unfold esel at this
            rw [Bool.and_eq_true] at this
            exact absurd k2 (of_decide_eq_true this.1)
          · exact q
        · rw [hts, List.foldl_append]
          exact h'
        · rw [ht' x hx]
          refine mkI_cg ?_
          unfold tkM
          rw [hts]
          simp
/-! told once more -/
theorem RFo_to {f : Nat → Int32} {sd : Nat → Int64} {m x : Nat} {M : Me} (h : RFo f sd m M) (hm : m < 64) (hx : x < 64) : RFo (upd f (nw m x + 2) (f (nw m x + 2) + nI 1)) sd m (meTo M x) := by
  obtain ⟨⟨a0, a1, a2, a3, a4, a5, a6⟩, b, c, d⟩ := h
  have hr := nw_own (m := m) (c := 2) hx (by omega)
  refine ⟨⟨(upd_ne (by omega)).trans a0, (upd_ne (by omega)).trans a1, (upd_ne (by omega)).trans a2, (upd_ne (by omega)).trans a3, (upd_ne (by omega)).trans a4, (upd_ne (by omega)).trans a5, (upd_ne (by omega)).trans a6⟩, b, fun y hy => ?_, fun j h1 h2 => (upd_ne (by omega)).trans (d j h1 h2)⟩
  obtain ⟨c1, c2⟩ := c y hy
  refine ⟨(upd_ne (by unfold nw; omega)).trans c1, fun hk e h1 h2 => ?_⟩
  have hk' : ¬ M.2.2 31 y = nI 0 := hk
  show _ = (if 31 + e = 33 then upd (M.2.2 33) x (M.2.2 33 x + nI 1) else M.2.2 (31 + e)) y
  by_cases he : e = 2
  · subst he
    rw [if_pos rfl]
    by_cases q : y = x
    · subst q
      rw [upd_eq, upd_eq, c2 hk' 2 (by omega) (by omega)]
    · rw [upd_ne (by unfold nw; omega), upd_ne q, c2 hk' 2 (by omega) (by omega)]
  · rw [if_neg (by omega), upd_ne (by unfold nw; omega)]
    exact c2 hk' e h1 h2
theorem meTL_s {M : Me} {t : Nat → Bool} {i : Nat} : meTL M (fun x => t x && decide (x < i + 1)) = if t i = true then meTo (meTL M (fun x => t x && decide (x < i))) i else meTL M (fun x => t x && decide (x < i)) := by
  by_cases h : t i = true
  · rw [if_pos h]
    unfold meTL meTo
    dsimp only
    congr 1
    congr 1
    funext k
    by_cases hk : k = 33
    · subst hk
      rw [if_pos rfl, if_pos rfl, if_pos rfl]
      funext x
      by_cases hx : x = i
      · subst hx
        rw [upd_eq, if_pos (by simp [h]), if_neg (by simp)]
      · rw [upd_ne hx]
        by_cases q : x < i
        · have q2 : x < i + 1 := by omega
          simp [q, q2]
        · have q2 : ¬ x < i + 1 := by omega
          simp [q, q2]
    · rw [if_neg hk, if_neg hk, if_neg hk]
  · rw [if_neg h]
    have : (fun x => t x && decide (x < i + 1)) = fun x => t x && decide (x < i) := by
      funext x
      by_cases hx : x = i
      · subst hx
        have : t x = false := by cases q : t x with | false => rfl | true => exact absurd q h
        rw [this]
        rfl
      · by_cases q : x < i
        · have q2 : x < i + 1 := by omega
          simp [q, q2]
        · have q2 : ¬ x < i + 1 := by omega
          simp [q, q2]
    rw [this]
set_option maxRecDepth 20000 in
set_option maxHeartbeats 4000000 in
theorem s_snd3n {ad : Nm → Nat} {g : Sg} {A : AW} {n m : Nat} {to kind ab l0 a0 : Int32} {Q : Option Value → PH → Prop} {tk : Nat → Bool} {i : Nat} (h : RS g A n True) (hmb : m < 64) (hd : mdA A m) (hi : i < 64) (ht : ∀ x, x < 64 → gA g (49, 0, 0) x = mkI tk x) (hn : ¬ tk i = true) (hk : ∀ g', RS g' A n True → EqX sdS g g' → (∀ x, x < 64 → gA g' (49, 0, 0) x = mkI tk x) → ∀ z, PP mX7_send 212 [some (.ref (ad (40, 0, 0))), some (.int (nI m)), some (.int to), some (.int kind), some (.int ab), some (.int l0), some (.int a0), some (.int (nI (i + 1))), z] [] (Rel ad g') Q) (z : Option Value) : PP mX7_send 212 [some (.ref (ad (40, 0, 0))), some (.int (nI m)), some (.int to), some (.int kind), some (.int ab), some (.int l0), some (.int a0), some (.int (nI i)), z] [] (Rel ad g) Q := by
  have hm := h.1
  refine pp_iload dX7_send_212 rfl (q := 214) rfl ?_
  refine pp_bipush dX7_send_214 cb_64 (q := 216) rfl ?_
  refine pp_icmp_ge (tgt := 252) dX7_send_216 (by decide) (q := 219) rfl (fun c216 => absurd c216 (nI_ge hi (by decide))) (fun c216 => ?_)
  refine pp_aload_n dX7_send_219 rfl isRf_r (q := 220) rfl ?_
  refine ps_get dX7_send_220 fl_X7_36 hm rfl rfl (q := 223) rfl ?_
  refine pp_iload dX7_send_223 rfl (q := 225) rfl ?_
  refine ps_zald (j := i) dX7_send_225 hm rfl rfl hi (by decide) (q := 226) rfl ?_
  rw [ht i hi]
  refine pp_if_eq (tgt := 246) dX7_send_226 (by decide) (q := 229) rfl (fun c226 => ?_) (fun c226 => absurd (by unfold mkI; rw [if_neg hn]; rfl) c226)
  refine pp_iinc dX7_send_246 rfl (nI_1 _) (ls1_7 (nl1 rfl)) (q := 249) rfl ?_
  refine pp_goto (tgt := 212) dX7_send_249 (by decide) ?_
  exact hk _ h EqX.rf ht _
set_option maxRecDepth 20000 in
set_option maxHeartbeats 4000000 in
theorem s_snd3y {ad : Nm → Nat} {g : Sg} {A : AW} {n m : Nat} {to kind ab l0 a0 : Int32} {Q : Option Value → PH → Prop} {tk : Nat → Bool} {i : Nat} (h : RS g A n True) (hmb : m < 64) (hd : mdA A m) (hi : i < 64) (ht : ∀ x, x < 64 → gA g (49, 0, 0) x = mkI tk x) (hy : tk i = true) (hk : ∀ g', RS g' (aSet A m (meTo (A.1 m) i)) n True → EqX sdS g g' → (∀ x, x < 64 → gA g' (49, 0, 0) x = mkI tk x) → ∀ z, PP mX7_send 212 [some (.ref (ad (40, 0, 0))), some (.int (nI m)), some (.int to), some (.int kind), some (.int ab), some (.int l0), some (.int a0), some (.int (nI (i + 1))), z] [] (Rel ad g') Q) (z : Option Value) : PP mX7_send 212 [some (.ref (ad (40, 0, 0))), some (.int (nI m)), some (.int to), some (.int kind), some (.int ab), some (.int l0), some (.int a0), some (.int (nI i)), z] [] (Rel ad g) Q := by
  have hm := h.1
  refine pp_iload dX7_send_212 rfl (q := 214) rfl ?_
  refine pp_bipush dX7_send_214 cb_64 (q := 216) rfl ?_
  refine pp_icmp_ge (tgt := 252) dX7_send_216 (by decide) (q := 219) rfl (fun c216 => absurd c216 (nI_ge hi (by decide))) (fun c216 => ?_)
  refine pp_aload_n dX7_send_219 rfl isRf_r (q := 220) rfl ?_
  refine ps_get dX7_send_220 fl_X7_36 hm rfl rfl (q := 223) rfl ?_
  refine pp_iload dX7_send_223 rfl (q := 225) rfl ?_
  refine ps_zald (j := i) dX7_send_225 hm rfl rfl hi (by decide) (q := 226) rfl ?_
  rw [ht i hi]
  refine pp_if_eq (tgt := 246) dX7_send_226 (by decide) (q := 229) rfl (fun c226 => absurd c226 (by unfold mkI; rw [if_pos hy]; exact nI1_ne)) (fun c226 => ?_)
  refine pp_aload_n dX7_send_229 rfl isRf_r (q := 230) rfl ?_
  refine ps_get dX7_send_230 fl_X7_8 hm rfl rfl (q := 233) rfl ?_
  refine pp_iload_n dX7_send_233 rfl (q := 234) rfl ?_
  refine pp_iload dX7_send_234 rfl (q := 236) rfl ?_
  refine ps_callSi dX7_send_236 lk_X7_44 (by rfl) m_newsAt (by rfl) (by exact Nat.le_of_ble_eq_true rfl) (by decide) (by decide) (by exact Nat.le_of_ble_eq_true rfl) (q := 239) rfl (fun r236 g236 h236 => ?_)
  obtain ⟨rfl, rfl⟩ := And.intro h236.1.symm h236.2.symm
  refine pp_iconst dX7_send_239 ci_2 (q := 240) rfl ?_
  refine pp_iadd dX7_send_240 (q := 241) rfl ?_
  try rw [nI_add]
  refine pp_dup2 dX7_send_241 rfl rfl (q := 242) rfl ?_
  refine ps_iald dX7_send_242 hm rfl rfl (by unfold nw; omega) (by decide) (q := 243) rfl ?_
  refine pp_iconst dX7_send_243 ci_1 (q := 244) rfl ?_
  refine pp_iadd dX7_send_244 (q := 245) rfl ?_
  skip
  refine ps_iast dX7_send_245 hm (fun _ => rfl) rfl (by unfold nw; omega) (by decide) (q := 246) rfl ?_
  have hr := nw_own (m := m) (c := 2) hi (by omega)
  have h1 := h.set (f := upd (gA g (41, 0, 0)) (nw m i + 2) (gA g (41, 0, 0) (nw m i + 2) + nI 1)) (M := meTo (A.1 m) i) hmb (fun j hj => upd_ne (fun e => hj (by unfold ownI; omega))) (RFo_to (h.2.o hmb hd) hmb hi) hd
  refine pp_iinc dX7_send_246 rfl (nI_1 _) (ls1_7 (nl1 rfl)) (q := 249) rfl ?_
  refine pp_goto (tgt := 212) dX7_send_249 (by decide) ?_
  exact hk _ h1.1 (EqX.rf.sA (Or.inl rfl)) ht _
theorem RF_cl {f : Nat → Int32} {sd : Nat → Int64} {A : AW} {n l k s : Nat} (h : RF f sd A n True) (hl : bL (aB A) = l + 1) (hp : pOk (aB A) l k s) : RF (upd f (29120 + 8 * l + 5) (nI k)) sd A n False := by
  obtain ⟨a1, a2, ⟨c0, c1, c2, c3, c4⟩, a4, a5⟩ := h
  refine ⟨a1.cg (fun i hi => upd_ne (by omega)), a2.cg (fun i _ hi => upd_ne (by omega)), ⟨c0, (upd_ne (by omega)).trans c1, (upd_ne (by omega)).trans c2, fun l' c hl' hc _ => ?_, fun p c hp hc => (upd_ne (by omega)).trans (c4 p c hp hc)⟩, a4.cg (fun i hi _ => upd_ne (by omega)), (upd_ne (by omega)).trans a5⟩
  by_cases e : l' = l ∧ c = 5
  · obtain ⟨rfl, rfl⟩ := e
    exact upd_eq.trans hp.2.1.symm
  · rw [upd_ne (by unfold ltx; omega)]
    exact c3 l' c hl' hc (fun _ q => e ⟨by omega, q.2⟩)
set_option maxRecDepth 20000 in
set_option maxHeartbeats 4000000 in
theorem s_snd4 {ad : Nm → Nat} {g : Sg} {A : AW} {n m l k s : Nat} {to kind ab : Int32} (h : RS g A n True) (hl : bL (aB A) = l + 1) (hp : pOk (aB A) l k s) (hs : s + k = bP (aB A)) (z : Option Value) : PS mX7_send 212 [some (.ref (ad (40, 0, 0))), some (.int (nI m)), some (.int to), some (.int kind), some (.int ab), some (.int (nI l)), some (.int (nI (29120 + 8 * l))), some (.int (nI 64)), z] [] ad g (Ri (fun v g' => v = nI l ∧ RS g' A n False ∧ EqX sdS g g')) := by
  have hm := h.1
  have hb2 := h.2.2.2.1.1
  have hP := h.2.2.2.1.2.2.1
  have h4 : gA g (41, 0, 0) (29120 + 8 * l + 4) = nI s := (h.2.2.2.1.2.2.2.1 l 4 (by omega) (by omega) (fun _ q => by omega)).trans hp.2.2.1
  refine pp_iload dX7_send_212 rfl (q := 214) rfl ?_
  refine pp_bipush dX7_send_214 cb_64 (q := 216) rfl ?_
  refine pp_icmp_ge (tgt := 252) dX7_send_216 (by decide) (q := 219) rfl (fun c216 => ?_) (fun c216 => absurd (nI_le (Nat.le_refl 64) (by decide)) c216)
  refine pp_aload_n dX7_send_252 rfl isRf_r (q := 253) rfl ?_
  refine ps_get dX7_send_253 fl_X7_8 hm rfl rfl (q := 256) rfl ?_
  refine pp_iload dX7_send_256 rfl (q := 258) rfl ?_
  refine pp_iconst dX7_send_258 ci_5 (q := 259) rfl ?_
  refine pp_iadd dX7_send_259 (q := 260) rfl ?_
  try rw [nI_add]
  refine pp_aload_n dX7_send_260 rfl isRf_r (q := 261) rfl ?_
  refine ps_get dX7_send_261 fl_X7_8 hm rfl rfl (q := 264) rfl ?_
  refine pp_ldc (v := nI 118721) dX7_send_264 kc_X7_52 (q := 266) rfl ?_
  refine ps_iald dX7_send_266 hm rfl rfl (by omega) (by decide) (q := 267) rfl ?_
  rw [hP]
  refine pp_aload_n dX7_send_267 rfl isRf_r (q := 268) rfl ?_
  refine ps_get dX7_send_268 fl_X7_8 hm rfl rfl (q := 271) rfl ?_
  refine pp_iload dX7_send_271 rfl (q := 273) rfl ?_
  refine pp_iconst dX7_send_273 ci_4 (q := 274) rfl ?_
  refine pp_iadd dX7_send_274 (q := 275) rfl ?_
  try rw [nI_add]
  refine ps_iald dX7_send_275 hm rfl rfl (by omega) (by decide) (q := 276) rfl ?_
  rw [h4]
  refine pp_isub dX7_send_276 (q := 277) rfl ?_
  rw [nI_sb (by omega), show bP (aB A) - s = k by omega]
  refine ps_iast dX7_send_277 hm (fun _ => rfl) rfl (by omega) (by decide) (q := 278) rfl ?_
  refine pp_iload dX7_send_278 rfl (q := 280) rfl ?_
  refine ri_ret dX7_send_280 rfl rfl ?_
  exact ⟨rfl, ⟨hm, RF_cl h.2 hl hp⟩, EqX.rf.sA (Or.inl rfl)⟩
theorem l_snd3 {ad : Nm → Nat} {g0 : Sg} {A : AW} {M : Me} {n m : Nat} {to kind ab l0 a0 : Int32} {tk : Nat → Bool} {Q : Option Value → PH → Prop} (hmb : m < 64) (hd : M.1 1 = nI 1) (hk : ∀ g', RS g' (aSet A m (meTL M (fun x => tk x && decide (x < 64)))) n True → EqX sdS g0 g' → ∀ z, PP mX7_send 212 [some (.ref (ad (40, 0, 0))), some (.int (nI m)), some (.int to), some (.int kind), some (.int ab), some (.int l0), some (.int a0), some (.int (nI 64)), z] [] (Rel ad g') Q) : ∀ (j i : Nat) (g : Sg), 64 - i < j → i ≤ 64 → RS g (aSet A m (meTL M (fun x => tk x && decide (x < i)))) n True → EqX sdS g0 g → (∀ x, x < 64 → gA g (49, 0, 0) x = mkI tk x) → ∀ z, PP mX7_send 212 [some (.ref (ad (40, 0, 0))), some (.int (nI m)), some (.int to), some (.int kind), some (.int ab), some (.int l0), some (.int a0), some (.int (nI i)), z] [] (Rel ad g) Q := by
  intro j
  induction j with
  | zero => intro i g h; omega
  | succ j ih =>
    intro i g hij hik h hE ht z
    by_cases e : i = 64
    · subst e
      exact hk g h hE z
    · have hi : i < 64 := by omega
      have hd1 : mdA (aSet A m (meTL M (fun x => tk x && decide (x < i)))) m := by unfold mdA; rw [aSet_m]; exact hd
      by_cases ht1 : tk i = true
      · refine s_snd3y h hmb hd1 hi ht ht1 (fun g' h' hE' ht' z => ih (i + 1) g' (by omega) (by omega) ?_ (hE.tr hE') ht' z) z
        rw [aSet_m, aSet_aSet] at h'
        rw [meTL_s, if_pos ht1]
        exact h'
      · refine s_snd3n h hmb hd1 hi ht ht1 (fun g' h' hE' ht' z => ih (i + 1) g' (by omega) (by omega) ?_ (hE.tr hE') ht' z) z
        rw [meTL_s, if_neg ht1]
        exact h'
theorem meTL_0 {M : Me} {t : Nat → Bool} (h : ∀ x, t x = false) : meTL M t = M := by
  unfold meTL
  have e : (fun k => if k = 33 then (fun x => if t x = true then M.2.2 33 x + nI 1 else M.2.2 33 x) else M.2.2 k) = M.2.2 := by
    funext k
    split
    · rename_i q
      subst q
      funext x
      rw [h x]
      rfl
    · rfl
  rw [e]
theorem m_send {ad : Nm → Nat} {g : Sg} {A : AW} {n m : Nat} {to kind ab : Int32} (h : RS g A n False) (hmb : m < 64) (hd : mdA A m) (hK : ∀ x, x < 64 → ∃ kd, kd ≤ 4 ∧ (A.1 m).2.2 31 x = nI kd) (hl : bL (aB A) + 1 ≤ 1200) (hp : bP (aB A) + 64 ≤ 20000) : PS mX7_send 0 (ent mX7_send [.ref (ad (40, 0, 0)), .int (nI m), .int to, .int kind, .int ab]) [] ad g (Ri (fun v g' => v = nI (bL (aB A)) ∧ RS g' (sndA A m kind to ab) n False ∧ EqX sdS g g')) := by
  obtain ⟨A1, hA1⟩ : ∃ A1, A1 = aBk A (opB (aB A) kind (nI m) to ab (-1)) := ⟨_, rfl⟩
  have h1m : A1.1 = A.1 := by rw [hA1]; rfl
  have hd1 : mdA A1 m := by unfold mdA; rw [h1m]; exact hd
  have hK1 : ∀ x, x < 64 → ∃ kd, kd ≤ 4 ∧ (A1.1 m).2.2 31 x = nI kd := by rw [h1m]; exact hK
  have hbp : bP (aB A1) = bP (aB A) := by rw [hA1]; rfl
  have hbl : bL (aB A1) = bL (aB A) + 1 := by rw [hA1]; rfl
  have hos : opS (aB A1) 0 (bP (aB A)) := by rw [hA1]; exact opS_op
  have hend : ∀ (L : List Nat) (tk : Nat → Bool) (g2 : Sg), L.length ≤ 64 → RS g2 (aSet (L.foldl (snd1 m true) A1) m (meTL (A.1 m) (fun x => tk x && decide (x < 64)))) n True → EqX sdS g g2 → aSet (L.foldl (snd1 m true) A1) m (meTL (A.1 m) (fun x => tk x && decide (x < 64))) = sndA A m kind to ab → ∀ z, PS mX7_send 212 [some (.ref (ad (40, 0, 0))), some (.int (nI m)), some (.int to), some (.int kind), some (.int ab), some (.int (nI (bL (aB A)))), some (.int (nI (29120 + 8 * bL (aB A)))), some (.int (nI 64)), z] [] ad g2 (Ri (fun v g' => v = nI (bL (aB A)) ∧ RS g' (sndA A m kind to ab) n False ∧ EqX sdS g g')) := by
    intro L tk g2 hL h2 hE2 heq z
    have ho2 := opS_fold (m := m) (wh := true) (s := bP (aB A)) L A1 0 hos (by omega)
    have hbk := fold_bk (m := m) (wh := true) L A1
    obtain ⟨l, e, hpk, hs⟩ := ho2
    have el : l = bL (aB A) := by rw [hbk.1, hbl] at e; omega
    subst el
    rw [heq] at h2
    have hbs : aB (L.foldl (snd1 m true) A1) = aB (sndA A m kind to ab) := by rw [← heq]; rfl
    rw [hbs] at e hpk hs
    refine (s_snd4 h2 e hpk hs z).weak (fun v G hG => ?_)
    obtain ⟨g', k1, r, k2, k3, k4, k5⟩ := hG
    exact ⟨g', k1, r, k2, k3, k4, hE2.tr k5⟩
  refine s_snd0 h hl (fun g1 h1 hE1 => ?_)
  rw [← hA1] at h1
  by_cases hf : kind = nI 6
  · -- the whole roll
    have hfl : isFl kind = true := decide_eq_true hf
    have hL : (pk1 ((A1.1 m).2.2 31) kind 64) = sel (asel ((A.1 m).2.2 31)) 64 := by unfold pk1; rw [if_pos hf, h1m]
    refine l_snd1 (g0 := g) hmb hd1 hK1 (by omega) (fun g2 h2 hE2 ht2 z => ?_) 65 0 g1 (by omega) (by omega) (by unfold pk1; rw [if_pos hf]; exact h1) hE1 (fun x hx => absurd hx (Nat.not_lt_zero x)) _
    refine s_snd2f h2.1 hf z ?_
    rw [hL] at h2
    have hself : aSet ((sel (asel ((A.1 m).2.2 31)) 64).foldl (snd1 m true) A1) m (A.1 m) = (sel (asel ((A.1 m).2.2 31)) 64).foldl (snd1 m true) A1 := by
      have := aSet_self (A := (sel (asel ((A.1 m).2.2 31)) 64).foldl (snd1 m true) A1) (m := m)
      rw [fold_t, h1m] at this
      exact this
    refine l_snd3 (g0 := g) (n := n) (A := (sel (asel ((A.1 m).2.2 31)) 64).foldl (snd1 m true) A1) (M := A.1 m) (tk := fun _ => false) hmb hd (fun g3 h3 hE3 z => ?_) 65 0 g2 (by omega) (by omega) ?_ hE2 (fun x hx => (ht2 x hx).trans rfl) z
    · refine hend (sel (asel ((A.1 m).2.2 31)) 64) (fun _ => false) g3 (sel_le _ _) h3 hE3 ?_ z
      rw [meTL_0 (t := fun x => false && decide (x < 64)) (fun x => rfl), hself]
      unfold sndA pkL
      rw [hfl, if_pos rfl, ← hA1]
    · rw [meTL_0 (t := fun x => false && decide (x < 0)) (fun x => rfl), hself]
      exact h2
  · have hfl : isFl kind = false := decide_eq_false hf
    refine l_snd1 (g0 := g) hmb hd1 hK1 (by omega) (fun g2 h2 hE2 ht2 z => ?_) 65 0 g1 (by omega) (by omega) (by unfold pk1; rw [if_neg hf]; exact h1) hE1 (fun x hx => absurd hx (Nat.not_lt_zero x)) _
    have h2' : RS g2 A1 n True := by unfold pk1 at h2; rw [if_neg hf] at h2; exact h2
    refine l_snd2 (g0 := g) (A := A1) hmb hd1 hf hK1 (by omega) (fun g3 h3 hE3 ht3 z => ?_) 7 0 g2 (by omega) (by omega) h2' hE2 (fun x hx => (ht2 x hx).trans (by unfold mkI tkM; simp)) z
    rw [h1m] at h3 ht3
    have hself : aSet ((frs ((A.1 m).2.2 31) ((A.1 m).2.2 33) 64).foldl (snd1 m true) A1) m (A.1 m) = (frs ((A.1 m).2.2 31) ((A.1 m).2.2 33) 64).foldl (snd1 m true) A1 := by
      have := aSet_self (A := (frs ((A.1 m).2.2 31) ((A.1 m).2.2 33) 64).foldl (snd1 m true) A1) (m := m)
      rw [fold_t, h1m] at this
      exact this
    refine l_snd3 (g0 := g) (n := n) (A := (frs ((A.1 m).2.2 31) ((A.1 m).2.2 33) 64).foldl (snd1 m true) A1) (M := A.1 m) (tk := fun x => decide (x ∈ frs ((A.1 m).2.2 31) ((A.1 m).2.2 33) 64)) hmb hd (fun g4 h4 hE4 z => ?_) 65 0 g3 (by omega) (by omega) ?_ hE3 ht3 z
    · refine hend (frs ((A.1 m).2.2 31) ((A.1 m).2.2 33) 64) (fun x => decide (x ∈ frs ((A.1 m).2.2 31) ((A.1 m).2.2 33) 64)) g4 (by have := frs_le ((A.1 m).2.2 31) ((A.1 m).2.2 33) 64; omega) h4 hE4 ?_ z
      have e5 : (fun x => decide (x ∈ frs ((A.1 m).2.2 31) ((A.1 m).2.2 33) 64) && decide (x < 64)) = fun x => decide (x ∈ frs ((A.1 m).2.2 31) ((A.1 m).2.2 33) 64) := by
        funext x
        by_cases q : x ∈ frs ((A.1 m).2.2 31) ((A.1 m).2.2 33) 64
        · have := (frs_mem q).1
          simp [q, this]
        · simp [q]
      rw [e5]
      unfold sndA pkL
      rw [hfl, if_neg (by decide), ← hA1, fold_tl _ _ (frs_nodup _ _ _), h1m]
    · rw [meTL_0 (t := fun x => decide (x ∈ frs ((A.1 m).2.2 31) ((A.1 m).2.2 33) 64) && decide (x < 0)) (fun x => by simp), hself]
      exact h3
