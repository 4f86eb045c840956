def meTo (M : Me) (x : Nat) : Me := (M.1, M.2.1, fun k => if k = 33 then upd (M.2.2 33) x (M.2.2 33 x + nI 1) else M.2.2 k)
def snd1 (m : Nat) (wh : Bool) (A : AW) (x : Nat) : AW := if wh then tlA (aBk A (puB (aB A) (nI x) ((A.1 m).2.2 31 x) ((A.1 m).2.2 32 x) ((A.1 m).2.2 35 x))) (nI 4 + (A.1 m).2.2 31 x - nI 1) else aSet (tlA (aBk A (puB (aB A) (nI x) ((A.1 m).2.2 31 x) ((A.1 m).2.2 32 x) ((A.1 m).2.2 35 x))) (nI 4 + (A.1 m).2.2 31 x - nI 1)) m (meTo (A.1 m) x)
def pkL (A : AW) (m : Nat) (wh : Bool) : List Nat := if wh then sel (asel ((A.1 m).2.2 31)) 64 else frs ((A.1 m).2.2 31) ((A.1 m).2.2 33) 64
def isFl (kind : Int32) : Bool := decide (kind = nI 6)
/-- a letter is sent -/
def sndA (A : AW) (m : Nat) (kind to ab : Int32) : AW := (pkL A m (isFl kind)).foldl (snd1 m (isFl kind)) (aBk A (opB (aB A) kind (nI m) to ab (-1)))
theorem pkL_lt {A : AW} {m : Nat} {wh : Bool} {y : Nat} (h : y ∈ pkL A m wh) : y < 64 := by
  unfold pkL at h
  split at h
  · exact (sel_lt h).1
  · exact (frs_mem h).1
theorem pkL_le (A : AW) (m : Nat) (wh : Bool) : (pkL A m wh).length ≤ 64 := by
  unfold pkL
  split
  · exact sel_le _ _
  · have := frs_le ((A.1 m).2.2 31) ((A.1 m).2.2 33) 64; omega
theorem RM_to {g : Sg} {w m x : Nat} {M : Me} (h : RM g w m M) (hx : x < 64) : RM (sA g (33, w, m) (upd (gA g (33, w, m)) x (gA g (33, w, m) x + nI 1))) w m (meTo M x) := by
  obtain ⟨h1, h2, h3, h4, ⟨n, h5, h6, h7⟩, h8⟩ := h
  refine ⟨h1, h2, h3, fun k a b => ?_, ⟨n, h5, h6, fun j hj => ?_⟩, fun k j a b hj => ?_⟩
  · rw [gA_sA]
    show _ = if k = 33 then _ else _
    by_cases e : k = 33
    · subst e
      rw [if_pos rfl, if_pos rfl, h4 33 (by omega) (by omega)]
    · rw [if_neg (fun q => e (by cases q; rfl)), if_neg e]
      exact h4 k a b
  · rw [gA_sA, if_neg (fun q => by cases q)]
    exact h7 j hj
  · show (if k = 33 then upd (M.2.2 33) x (M.2.2 33 x + nI 1) else M.2.2 k) j = 0
    split
    · exact upd_z hx hj (h8 33 j (by omega) (by omega) hj)
    · exact h8 k j a b hj
theorem snd1_md {m : Nat} {wh : Bool} {A : AW} {x : Nat} : ((snd1 m wh A x).1 m).1 = (A.1 m).1 := by
  unfold snd1
  split
  · rfl
  · show (if m = m then meTo (A.1 m) x else _).1 = _
    rw [if_pos rfl]
    rfl
theorem snd1_bk {m : Nat} {wh : Bool} {A : AW} {x : Nat} : bL (aB (snd1 m wh A x)) = bL (aB A) ∧ bP (aB (snd1 m wh A x)) = bP (aB A) + 1 := by
  unfold snd1
  split <;> exact ⟨rfl, rfl⟩
theorem fold_bk {m : Nat} {wh : Bool} : ∀ (l : List Nat) (A : AW), bL (aB (l.foldl (snd1 m wh) A)) = bL (aB A) ∧ bP (aB (l.foldl (snd1 m wh) A)) = bP (aB A) + l.length ∧ ((l.foldl (snd1 m wh) A).1 m).1 = (A.1 m).1
  | [], A => ⟨rfl, rfl, rfl⟩
  | x :: l, A => by
    obtain ⟨h1, h2, h3⟩ := @fold_bk m wh l (snd1 m wh A x)
    obtain ⟨k1, k2⟩ := @snd1_bk m wh A x
    refine ⟨h1.trans k1, ?_, h3.trans snd1_md⟩
    rw [List.foldl_cons, h2, k2, List.length_cons]
    omega
theorem drop_cons {l : List Nat} {i x : Nat} (h : l[i]? = some x) : l.drop i = x :: l.drop (i + 1) := by
  have hi := (List.getElem?_eq_some_iff.mp h).1
  rw [List.drop_eq_getElem_cons hi]
  congr 1
  exact (List.getElem?_eq_some_iff.mp h).2
theorem EqX.a {S : Nm → Prop} {g g' : Sg} {n : Nm} (h : EqX S g g') (hn : ¬ S n) : gA g' n = gA g n := (h.1 n hn).2.2.1
theorem bk15 {w k : Nat} (hk : k = 15 ∨ k = 16) : ¬ bkS w (k, w, 0) := fun h => by rcases h.2.1 with e | e | e <;> simp at e <;> omega
set_option maxRecDepth 20000 in
set_option maxHeartbeats 4000000 in
theorem l_send {ad : Nm → Nat} {w m : Nat} {kind to ab v0 c6 : Int32} {l : List Nat} {f : Nat → Int32} {wh : Bool} (hmb : m < 64) (hc : isB c6 (wh = true)) (hl : ∀ y ∈ l, y < 64) (hll : l.length ≤ 64) : ∀ (j i : Nat) (g : Sg) (A : AW), l.length - i < j → i ≤ l.length → RW g w A → gA g (15, w, 0) = wl f l → mdA A m → (bP (aB A) + (l.length - i)) * 4 ≤ gN g (21, w, 1) → 1 ≤ bL (aB A) → ∀ z : Option Value, PP mX5_send 60 [some (.ref (ad (10, w, 0))), some (.ref (ad (30, w, m))), some (.int kind), some (.int to), some (.int ab), some (.int v0), some (.int c6), some (.int (nI l.length)), some (.int (nI i)), z] [] (Rel ad g) (fun v G => ∃ g', Rel ad g' G ∧ Ri (fun v g' => v = v0 ∧ RW g' w ((l.drop i).foldl (snd1 m wh) A) ∧ EqX (wS w) g g' ∧ gA g' (16, w, 0) = gA g (16, w, 0)) v g') := by
  intro j
  induction j with
  | zero => intro i g A h; omega
  | succ j ih =>
    intro i g A hij hik hA hpk hd hroom hbl z
    refine pp_iload dX5_send_60 rfl (q := 62) rfl ?_
    refine pp_iload dX5_send_62 rfl (q := 64) rfl ?_
    refine pp_icmp_ge (tgt := 150) dX5_send_64 (by decide) (q := 67) rfl (fun c64 => ?_) (fun c64 => ?_)
    · have e : i = l.length := by have := leT c64 (by omega) (by omega); omega
      subst e
      refine pp_iload dX5_send_150 rfl (q := 152) rfl ?_
      refine ri_ret dX5_send_152 rfl rfl ⟨rfl, ?_, EqX.rf, rfl⟩
      rw [List.drop_length]
      exact hA
    · have hlt := leF c64 (by omega) (by omega)
      obtain ⟨x, hx⟩ : ∃ x, l[i]? = some x := ⟨_, List.getElem?_eq_getElem hlt⟩
      have hxb := hl x (List.mem_of_getElem? hx)
      have hM := hA.m hmb hd
      have e31 := hM.ar (k := 31) (by omega) (by omega)
      have e32 := hM.ar (k := 32) (by omega) (by omega)
      have e35 := hM.ar (k := 35) (by omega) (by omega)
      refine pp_iload dX5_send_67 rfl (q := 69) rfl ?_
      refine pp_bipush dX5_send_69 cb_64 (q := 71) rfl ?_
      refine pp_icmp_ge (tgt := 150) dX5_send_71 (by decide) (q := 74) rfl (fun c71 => absurd c71 (nI_ge (by omega) (by decide))) (fun c71 => ?_)
      refine pp_aload_n dX5_send_74 rfl isRf_r (q := 75) rfl ?_
      refine ps_get dX5_send_75 fl_X5_45 (by first | exact hA3.1 | exact hA2.1 | exact hA1.1 | exact hA.1) rfl rfl (q := 78) rfl ?_
      refine pp_iload dX5_send_78 rfl (q := 80) rfl ?_
      refine ps_iald dX5_send_80 (by first | exact hA3.1 | exact hA2.1 | exact hA1.1 | exact hA.1) rfl rfl (by omega) (by decide) (q := 81) rfl ?_
      rw [hpk, wl_at hx]
      refine pp_istore dX5_send_81 (by decide) (ls1_9 (nl1 rfl)) (q := 83) rfl ?_
      refine pp_aload_n dX5_send_83 rfl isRf_r (q := 84) rfl ?_
      refine ps_get dX5_send_84 fl_X5_28 (by first | exact hA3.1 | exact hA2.1 | exact hA1.1 | exact hA.1) rfl rfl (q := 87) rfl ?_
      refine pp_iload dX5_send_87 rfl (q := 89) rfl ?_
      refine pp_aload_n dX5_send_89 rfl isRf_r (q := 90) rfl ?_
      refine ps_get dX5_send_90 fl_X5_222 (by first | exact hM3.1 | exact hM2.1 | exact hM1.1 | exact hM.1) rfl rfl (q := 93) rfl ?_
      refine pp_iload dX5_send_93 rfl (q := 95) rfl ?_
      refine ps_iald dX5_send_95 (by first | exact hM3.1 | exact hM2.1 | exact hM1.1 | exact hM.1) rfl rfl (by omega) (by decide) (q := 96) rfl ?_
      rw [e31]
      refine pp_aload_n dX5_send_96 rfl isRf_r (q := 97) rfl ?_
      refine ps_get dX5_send_97 fl_X5_231 (by first | exact hM3.1 | exact hM2.1 | exact hM1.1 | exact hM.1) rfl rfl (q := 100) rfl ?_
      refine pp_iload dX5_send_100 rfl (q := 102) rfl ?_
      refine ps_iald dX5_send_102 (by first | exact hM3.1 | exact hM2.1 | exact hM1.1 | exact hM.1) rfl rfl (by omega) (by decide) (q := 103) rfl ?_
      rw [e32]
      refine pp_aload_n dX5_send_103 rfl isRf_r (q := 104) rfl ?_
      refine ps_get dX5_send_104 fl_X5_267 (by first | exact hM3.1 | exact hM2.1 | exact hM1.1 | exact hM.1) rfl rfl (q := 107) rfl ?_
      refine pp_iload dX5_send_107 rfl (q := 109) rfl ?_
      refine ps_iald dX5_send_109 (by first | exact hM3.1 | exact hM2.1 | exact hM1.1 | exact hM.1) rfl rfl (by omega) (by decide) (q := 110) rfl ?_
      rw [e35]
      refine ps_callVv dX5_send_110 lk_X5_270 (by exact (by first | exact hA3.1 | exact hA2.1 | exact hA1.1 | exact hA.1)) (by rfl) (by rfl) (by rfl) (c_put hA.1 hA.2.1 hbl (by show (bP (aB A) + 1) * 4 ≤ _; omega)) (by rfl) (by exact Nat.le_of_ble_eq_true rfl) (by decide) (by decide) (by exact Nat.le_of_ble_eq_true rfl) (q := 113) rfl (fun g110 h110 => ?_)
      obtain ⟨hB1, hE1⟩ := h110
      have hA1 := RW_bk hA hE1 hB1
      have hM1 := hA1.m hmb hd
      have e31b := hM1.ar (k := 31) (by omega) (by omega)
      refine pp_aload_n dX5_send_113 rfl isRf_r (q := 114) rfl ?_
      refine pp_iconst dX5_send_114 ci_4 (q := 115) rfl ?_
      refine pp_aload_n dX5_send_115 rfl isRf_r (q := 116) rfl ?_
      refine ps_get dX5_send_116 fl_X5_222 (by first | exact hM3.1 | exact hM2.1 | exact hM1.1 | exact hM.1) rfl rfl (q := 119) rfl ?_
      refine pp_iload dX5_send_119 rfl (q := 121) rfl ?_
      refine ps_iald dX5_send_121 (by first | exact hM3.1 | exact hM2.1 | exact hM1.1 | exact hM.1) rfl rfl (by omega) (by decide) (q := 122) rfl ?_
      rw [e31b]
      refine pp_iadd dX5_send_122 (q := 123) rfl ?_
      refine pp_iconst dX5_send_123 ci_1 (q := 124) rfl ?_
      refine pp_isub dX5_send_124 (q := 125) rfl ?_
      refine ps_callVv dX5_send_125 lk_X5_225 (by exact (by first | exact hA3.1 | exact hA2.1 | exact hA1.1 | exact hA.1)) (by rfl) (by rfl) (by rfl) (c_tally hA1) (by rfl) (by exact Nat.le_of_ble_eq_true rfl) (by decide) (by decide) (by exact Nat.le_of_ble_eq_true rfl) (q := 128) rfl (fun g125 h125 => ?_)
      obtain ⟨hA2, hE2⟩ := h125
      have hM2 := hA2.m hmb hd
      have hE12 : EqX (wS w) g g125 := (hE1.mono (fun n h => bkS_w h)).tr (hE2.mono (fun n h => by subst h; exact wS_of (by decide) (by decide)))
      have h15 : ∀ k, k = 15 ∨ k = 16 → gA g125 (k, w, 0) = gA g (k, w, 0) := fun k hk => by rw [hE2.a (by intro h; cases h; omega), hE1.a (bk15 hk)]
      have hsb := @snd1_bk m wh A x
      refine pp_iload dX5_send_128 rfl (q := 130) rfl ?_
      refine pp_if_ne (tgt := 144) dX5_send_130 (by decide) (q := 133) rfl (fun c130 => ?_) (fun c130 => ?_)
      · have hwt := isB_t hc c130
        have hRn : RW g125 w (snd1 m wh A x) := by unfold snd1; rw [if_pos hwt]; exact hA2
        have hpn : gA g125 (15, w, 0) = wl f l := (h15 15 (Or.inl rfl)).trans hpk
        have hEn := hE12
        have h16 := h15 16 (Or.inr rfl)
        have hnn : gN g125 = gN g := hE12.2.1
        refine pp_iinc dX5_send_144 rfl (nI_1 _) (ls1_8 (nl1 rfl)) (q := 147) rfl ?_
        refine pp_goto (tgt := 60) dX5_send_147 (by decide) ?_
        refine (ih (i + 1) _ (snd1 m wh A x) (by omega) (by omega) hRn hpn (by unfold mdA; rw [snd1_md]; exact hd) (by rw [hnn, hsb.2]; exact (by omega : (bP (aB A) + 1 + (l.length - (i + 1))) * 4 ≤ gN g (21, w, 1))) (by rw [hsb.1]; exact hbl) _).weak (fun v G hG => ?_)
        obtain ⟨g', q1, r, q2, q3, q4, q5, q6⟩ := hG
        refine ⟨g', q1, r, q2, q3, ?_, hEn.tr q5, q6.trans h16⟩
        rw [drop_cons hx]
        exact q4
      · have hwf := isB_f hc c130
        refine pp_aload_n dX5_send_133 rfl isRf_r (q := 134) rfl ?_
        refine ps_get dX5_send_134 fl_X5_274 (by first | exact hM3.1 | exact hM2.1 | exact hM1.1 | exact hM.1) rfl rfl (q := 137) rfl ?_
        refine pp_iload dX5_send_137 rfl (q := 139) rfl ?_
        refine pp_dup2 dX5_send_139 rfl rfl (q := 140) rfl ?_
        refine ps_iald dX5_send_140 (by first | exact hM3.1 | exact hM2.1 | exact hM1.1 | exact hM.1) rfl rfl (by omega) (by decide) (q := 141) rfl ?_
        refine pp_iconst dX5_send_141 ci_1 (q := 142) rfl ?_
        refine pp_iadd dX5_send_142 (q := 143) rfl ?_
        refine ps_iast dX5_send_143 (by first | exact hM3.1 | exact hM2.1 | exact hM1.1 | exact hM.1) (fun _ => rfl) rfl (by omega) (by decide) (q := 144) rfl ?_
        have hRn : RW (sA g125 (33, w, m) (upd (gA g125 (33, w, m)) x (gA g125 (33, w, m) x + nI 1))) w (snd1 m wh A x) := by
          unfold snd1
          rw [if_neg hwf]
          exact RW_mem hA2 (EqX.rf.sA ⟨rfl, rfl, by show 30 ≤ 33; omega, by show 33 ≤ 36; omega⟩) (RM_to hM2 hxb) hd
        have hpn : gA (sA g125 (33, w, m) (upd (gA g125 (33, w, m)) x (gA g125 (33, w, m) x + nI 1))) (15, w, 0) = wl f l := by rw [gA_sA, if_neg (fun q => by cases q)]; exact (h15 15 (Or.inl rfl)).trans hpk
        have hEn : EqX (wS w) g (sA g125 (33, w, m) (upd (gA g125 (33, w, m)) x (gA g125 (33, w, m) x + nI 1))) := hE12.sA (wS_of (by decide) (by decide))
        have h16 : gA (sA g125 (33, w, m) (upd (gA g125 (33, w, m)) x (gA g125 (33, w, m) x + nI 1))) (16, w, 0) = gA g (16, w, 0) := by rw [gA_sA, if_neg (fun q => by cases q)]; exact h15 16 (Or.inr rfl)
        have hnn : gN (sA g125 (33, w, m) (upd (gA g125 (33, w, m)) x (gA g125 (33, w, m) x + nI 1))) = gN g := hE12.2.1
        refine pp_iinc dX5_send_144 rfl (nI_1 _) (ls1_8 (nl1 rfl)) (q := 147) rfl ?_
        refine pp_goto (tgt := 60) dX5_send_147 (by decide) ?_
        refine (ih (i + 1) _ (snd1 m wh A x) (by omega) (by omega) hRn hpn (by unfold mdA; rw [snd1_md]; exact hd) (by rw [hnn, hsb.2]; exact (by omega : (bP (aB A) + 1 + (l.length - (i + 1))) * 4 ≤ gN g (21, w, 1))) (by rw [hsb.1]; exact hbl) _).weak (fun v G hG => ?_)
        obtain ⟨g', q1, r, q2, q3, q4, q5, q6⟩ := hG
        refine ⟨g', q1, r, q2, q3, ?_, hEn.tr q5, q6.trans h16⟩
        rw [drop_cons hx]
        exact q4
set_option maxRecDepth 20000 in
set_option maxHeartbeats 4000000 in
theorem c_send {ad : Nm → Nat} {g : Sg} {w m : Nat} {A : AW} {kind to ab : Int32} (hA : RW g w A) (hmb : m < 64) (hd : mdA A m) (hroomL : (bL (aB A) + 1) * wdN 0 ≤ gN g (21, w, 0)) (hroomP : (bP (aB A) + (pkL A m (isFl kind)).length) * 4 ≤ gN g (21, w, 1)) : PS mX5_send 0 (ent mX5_send [.ref (ad (10, w, 0)), .ref (ad (30, w, m)), .int kind, .int to, .int ab]) [] ad g (Ri (fun v g' => v = nI (bL (aB A)) ∧ RW g' w (sndA A m kind to ab) ∧ EqX (wS w) g g' ∧ gA g' (16, w, 0) = gA g (16, w, 0))) := by
  have hM := hA.m hmb hd
  show PP mX5_send 0 [some (.ref (ad (10, w, 0))), some (.ref (ad (30, w, m))), some (.int kind), some (.int to), some (.int ab), none, none, none, none, none] [] (Rel ad g) _
  refine pp_aload_n dX5_send_0 rfl isRf_r (q := 1) rfl ?_
  refine ps_get dX5_send_1 fl_X5_28 (by first | exact hA3.1 | exact hA2.1 | exact hA1.1 | exact hA.1) rfl rfl (q := 4) rfl ?_
  refine pp_iload_n dX5_send_4 rfl (q := 5) rfl ?_
  refine pp_aload_n dX5_send_5 rfl isRf_r (q := 6) rfl ?_
  refine ps_get dX5_send_6 fl_X5_181 (by first | exact hM3.1 | exact hM2.1 | exact hM1.1 | exact hM.1) rfl rfl (q := 9) rfl ?_
  refine pp_iload_n dX5_send_9 rfl (q := 10) rfl ?_
  refine pp_iload dX5_send_10 rfl (q := 12) rfl ?_
  refine pp_iconst dX5_send_12 ci_m1 (q := 13) rfl ?_
  refine ps_callVi dX5_send_13 lk_X5_256 (by exact (by first | exact hA3.1 | exact hA2.1 | exact hA1.1 | exact hA.1)) (by rfl) (by rfl) (by rfl) (c_open hA.1 hA.2.1 hroomL) (by rfl) (by exact Nat.le_of_ble_eq_true rfl) (by decide) (by decide) (by exact Nat.le_of_ble_eq_true rfl) (q := 16) rfl (fun r13 g13 h13 => ?_)
  obtain ⟨rfl, hB1, hE1⟩ := And.intro h13.1.symm h13.2
  have hA1 := RW_bk hA hE1 hB1
  have hM1 := hA1.m hmb hd
  have e31 : gA g13 (31, w, m) = (A.1 m).2.2 31 := hM1.ar (k := 31) (by omega) (by omega)
  have e33 : gA g13 (33, w, m) = (A.1 m).2.2 33 := hM1.ar (k := 33) (by omega) (by omega)
  refine pp_istore dX5_send_16 (by decide) (ls1_5 (nl1 rfl)) (q := 18) rfl ?_
  refine pp_iload_n dX5_send_18 rfl (q := 19) rfl ?_
  refine pp_bipush dX5_send_19 cb_6 (q := 21) rfl ?_
  refine pp_icmp_ne (tgt := 28) dX5_send_21 (by decide) (q := 24) rfl (fun c21 => ?_) (fun c21 => ?_)
  · have hfl : isFl kind = false := by unfold isFl; simp [c21]
    refine pp_iconst dX5_send_28 ci_0 (q := 29) rfl ?_
    refine pp_istore dX5_send_29 (by decide) (ls1_6 (nl1 rfl)) (q := 31) rfl ?_
    refine pp_iload dX5_send_31 rfl (q := 33) rfl ?_
    refine pp_if_eq (tgt := 47) dX5_send_33 (by decide) (q := 36) rfl (fun c33 => ?_) (fun c33 => absurd rfl c33)
    refine pp_aload_n dX5_send_47 rfl isRf_r (q := 48) rfl ?_
    refine pp_aload_n dX5_send_48 rfl isRf_r (q := 49) rfl ?_
    refine ps_get dX5_send_49 fl_X5_45 (by first | exact hA3.1 | exact hA2.1 | exact hA1.1 | exact hA.1) rfl rfl (q := 52) rfl ?_
    refine ps_callVi dX5_send_52 lk_X5_264 (by exact (by first | exact hM3.1 | exact hM2.1 | exact hM1.1 | exact hM.1)) (by rfl) (by rfl) (by rfl) (c_pickFreshest (n := (15, w, 0)) hM1.1 hA1.1 (fun _ _ _ _ _ _ _ => rfl) (fun h => by cases h) (fun h => by cases h)) (by rfl) (by exact Nat.le_of_ble_eq_true rfl) (by decide) (by decide) (by exact Nat.le_of_ble_eq_true rfl) (q := 55) rfl (fun r52 g52 h52 => ?_)
    obtain ⟨rfl, rfl⟩ := And.intro h52.1.symm h52.2.symm
    rw [e31, e33]
    refine pp_istore dX5_send_55 (by decide) (ls1_7 (nl1 rfl)) (q := 57) rfl ?_
    refine pp_iconst dX5_send_57 ci_0 (q := 58) rfl ?_
    refine pp_istore dX5_send_58 (by decide) (ls1_8 (nl1 rfl)) (q := 60) rfl ?_
    have hRs := RW_oth hA1 (g' := sA g13 (15, w, 0) (wl (gA g13 (15, w, 0)) (frs ((A.1 m).2.2 31) ((A.1 m).2.2 33) 64))) (EqX.rf.sA ⟨rfl, Or.inl rfl⟩)
    have hEs : EqX (wS w) g (sA g13 (15, w, 0) (wl (gA g13 (15, w, 0)) (frs ((A.1 m).2.2 31) ((A.1 m).2.2 33) 64))) := (hE1.mono (fun n h => bkS_w h)).sA (wS_of (by decide) (by decide))
    have hpl : pkL A m (isFl kind) = (frs ((A.1 m).2.2 31) ((A.1 m).2.2 33) 64) := by unfold pkL; rw [hfl, if_neg Bool.false_ne_true]
    rw [hpl] at hroomP
    have hll : ((frs ((A.1 m).2.2 31) ((A.1 m).2.2 33) 64)).length ≤ 64 := by rw [← hpl]; exact pkL_le _ _ _
    refine (l_send (f := gA g13 (15, w, 0)) (l := (frs ((A.1 m).2.2 31) ((A.1 m).2.2 33) 64)) (wh := isFl kind) hmb (isB_0 (by rw [hfl]; exact Bool.false_ne_true)) (fun y hy => pkL_lt (A := A) (m := m) (wh := isFl kind) (by rw [hpl]; exact hy)) hll (((frs ((A.1 m).2.2 31) ((A.1 m).2.2 33) 64)).length + 1) 0 _ (aBk A (opB (aB A) kind (nI m) to ab (-1))) (by omega) (by omega) hRs (by rw [gA_sA, if_pos rfl]) hd (by show (bP (aB A) + _) * 4 ≤ gN g13 (21, w, 1); rw [hE1.2.1]; exact hroomP) (by show 1 ≤ bL (aB A) + 1; omega) _).weak (fun v G hG => ?_)
    obtain ⟨g', q1, r, q2, q3, q4, q5, q6⟩ := hG
    rw [List.drop_zero] at q4
    refine ⟨g', q1, r, q2, q3, ?_, hEs.tr q5, ?_⟩
    · unfold sndA
      rw [hpl]
      exact q4
    · rw [q6, gA_sA, if_neg (fun q => by cases q)]
      exact hE1.a (bk15 (Or.inr rfl))
  · have hfl : isFl kind = true := by unfold isFl; simp [c21]
    refine pp_iconst dX5_send_24 ci_1 (q := 25) rfl ?_
    refine pp_goto (tgt := 29) dX5_send_25 (by decide) ?_
    refine pp_istore dX5_send_29 (by decide) (ls1_6 (nl1 rfl)) (q := 31) rfl ?_
    refine pp_iload dX5_send_31 rfl (q := 33) rfl ?_
    refine pp_if_eq (tgt := 47) dX5_send_33 (by decide) (q := 36) rfl (fun c33 => absurd c33 nI1_ne) (fun c33 => ?_)
    refine pp_aload_n dX5_send_36 rfl isRf_r (q := 37) rfl ?_
    refine pp_aload_n dX5_send_37 rfl isRf_r (q := 38) rfl ?_
    refine ps_get dX5_send_38 fl_X5_45 (by first | exact hA3.1 | exact hA2.1 | exact hA1.1 | exact hA.1) rfl rfl (q := 41) rfl ?_
    refine ps_callVi dX5_send_41 lk_X5_260 (by exact (by first | exact hM3.1 | exact hM2.1 | exact hM1.1 | exact hM.1)) (by rfl) (by rfl) (by rfl) (c_pickAll (n := (15, w, 0)) hM1.1 hA1.1 (fun _ _ _ _ _ _ _ => rfl) (fun h => by cases h)) (by rfl) (by exact Nat.le_of_ble_eq_true rfl) (by decide) (by decide) (by exact Nat.le_of_ble_eq_true rfl) (q := 44) rfl (fun r41 g41 h41 => ?_)
    obtain ⟨rfl, rfl⟩ := And.intro h41.1.symm h41.2.symm
    rw [e31]
    refine pp_goto (tgt := 55) dX5_send_44 (by decide) ?_
    refine pp_istore dX5_send_55 (by decide) (ls1_7 (nl1 rfl)) (q := 57) rfl ?_
    refine pp_iconst dX5_send_57 ci_0 (q := 58) rfl ?_
    refine pp_istore dX5_send_58 (by decide) (ls1_8 (nl1 rfl)) (q := 60) rfl ?_
    have hRs := RW_oth hA1 (g' := sA g13 (15, w, 0) (wl (gA g13 (15, w, 0)) (sel (asel ((A.1 m).2.2 31)) 64))) (EqX.rf.sA ⟨rfl, Or.inl rfl⟩)
    have hEs : EqX (wS w) g (sA g13 (15, w, 0) (wl (gA g13 (15, w, 0)) (sel (asel ((A.1 m).2.2 31)) 64))) := (hE1.mono (fun n h => bkS_w h)).sA (wS_of (by decide) (by decide))
    have hpl : pkL A m (isFl kind) = (sel (asel ((A.1 m).2.2 31)) 64) := by unfold pkL; rw [hfl, if_pos rfl]
    rw [hpl] at hroomP
    have hll : ((sel (asel ((A.1 m).2.2 31)) 64)).length ≤ 64 := by rw [← hpl]; exact pkL_le _ _ _
    refine (l_send (f := gA g13 (15, w, 0)) (l := (sel (asel ((A.1 m).2.2 31)) 64)) (wh := isFl kind) hmb (isB_1 hfl) (fun y hy => pkL_lt (A := A) (m := m) (wh := isFl kind) (by rw [hpl]; exact hy)) hll (((sel (asel ((A.1 m).2.2 31)) 64)).length + 1) 0 _ (aBk A (opB (aB A) kind (nI m) to ab (-1))) (by omega) (by omega) hRs (by rw [gA_sA, if_pos rfl]) hd (by show (bP (aB A) + _) * 4 ≤ gN g13 (21, w, 1); rw [hE1.2.1]; exact hroomP) (by show 1 ≤ bL (aB A) + 1; omega) _).weak (fun v G hG => ?_)
    obtain ⟨g', q1, r, q2, q3, q4, q5, q6⟩ := hG
    rw [List.drop_zero] at q4
    refine ⟨g', q1, r, q2, q3, ?_, hEs.tr q5, ?_⟩
    · unfold sndA
      rw [hpl]
      exact q4
    · rw [q6, gA_sA, if_neg (fun q => by cases q)]
      exact hE1.a (bk15 (Or.inr rfl))
