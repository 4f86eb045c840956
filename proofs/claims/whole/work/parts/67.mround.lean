/-! rows -/
def EqR (g g' : Sg) : Prop := EqX (fun n => n.1 = 48 ∨ n.1 = 40) g g' ∧ ∀ k, k ≠ 11 → gI g' (40, 0, 0) k = gI g (40, 0, 0) k
theorem EqR.rf {g : Sg} : EqR g g := ⟨EqX.rf, fun _ _ => rfl⟩
theorem EqR.tr {g g' g'' : Sg} (h : EqR g g') (h' : EqR g' g'') : EqR g g'' := ⟨h.1.tr h'.1, fun k a => (h'.2 k a).trans (h.2 k a)⟩
theorem EqR.m {g g' : Sg} (h : EqR g g') : EqM g g' := ⟨h.1.mono (fun n q => by unfold msS; omega), fun k a _ => h.2 k a⟩
theorem EqR.rs {g g' : Sg} {A : AW} {n : Nat} {o : Prop} (h : EqR g g') (hR : RS g A n o) : RS g' A n o := EqX.rs h.1 (fun n q => by omega) hR
def rowL (g : Sg) (l : List Nat) : Prop := gI g (40, 0, 0) 11 = nI l.length ∧ ∀ j x, l[j]? = some x → gA g (48, 0, 0) j = nI x
theorem rowL_push {g : Sg} {l : List Nat} {x : Nat} (h : rowL g l) : rowL (sI (sA g (48, 0, 0) (upd (gA g (48, 0, 0)) l.length (nI x))) (40, 0, 0) 11 (nI (l.length + 1))) (l ++ [x]) := by
  refine ⟨?_, fun j y hy => ?_⟩
  · rw [gI_sI, if_pos ⟨rfl, rfl⟩, List.length_append]; rfl
  · show upd (gA g (48, 0, 0)) l.length (nI x) j = nI y
    by_cases e : j = l.length
    · subst e
      rw [upd_eq]
      rw [List.getElem?_append_right (Nat.le_refl _), Nat.sub_self] at hy
      rw [Option.some.inj hy]
    · rw [upd_ne e]
      have hlt := lt_of_getE hy
      rw [List.length_append] at hlt
      have : j < l.length + 1 := hlt
      rw [List.getElem?_append_left (by omega)] at hy
      exact h.2 j y hy
set_option maxRecDepth 20000 in
set_option maxHeartbeats 4000000 in
theorem l_gat {ad : Nm → Nat} {g : Sg} {A : AW} {n m : Nat} {o : Prop} {lo : Int32} (hmb : m < 64) (hd : mdA A m) : ∀ (j i : Nat) (g1 : Sg), 64 - i < j → i ≤ 64 → RS g1 A n o → rowL g1 (sel (gsel ((A.1 m).2.2 31) m lo) i) → EqR g g1 → PS mX7_gather 7 [some (.ref (ad (40, 0, 0))), some (.int (nI m)), some (.int lo), some (.int (nI i))] [] ad g1 (Rv (fun g' => rowL g' (sel (gsel ((A.1 m).2.2 31) m lo) 64) ∧ EqR g g')) := by
  intro j
  induction j with
  | zero => intro i g1 h; omega
  | succ j ih =>
    intro i g1 hij hik h hL hE
    refine pp_iload_n dX7_gather_7 rfl (q := 8) rfl ?_
    refine pp_bipush dX7_gather_8 cb_64 (q := 10) rfl ?_
    refine pp_icmp_ge (tgt := 56) dX7_gather_10 (by decide) (q := 13) rfl (fun c10 => ?_) (fun c10 => ?_)
    · have e : i = 64 := by have := leT c10 (by decide) (by omega); omega
      subst e
      exact rv_ret dX7_gather_56 rfl ⟨hL, hE⟩
    · have hi := leF c10 (by decide) (by omega)
      refine pp_iload_n dX7_gather_13 rfl (q := 14) rfl ?_
      refine pp_iload_n dX7_gather_14 rfl (q := 15) rfl ?_
      refine pp_icmp_eq (tgt := 50) dX7_gather_15 (by decide) (q := 18) rfl (fun c15 => ?_) (fun c15 => ?_)
      · have hc : (gsel ((A.1 m).2.2 31) m lo) i = false := gsel_f (Or.inr (Or.inl c15))
        refine pp_iinc dX7_gather_50 rfl (nI_1 _) (ls1_3 (nl1 rfl)) (q := 53) rfl ?_
        refine pp_goto (tgt := 7) dX7_gather_53 (by decide) ?_
        first
          | (have hs : sel (gsel ((A.1 m).2.2 31) m lo) (i + 1) = sel (gsel ((A.1 m).2.2 31) m lo) i ++ [i] := (by rw [sel_s, if_pos hc]); exact ih (i + 1) _ (by omega) (by omega) (EqX.rs (S := fun n => n.1 = 48 ∨ n.1 = 40) ((EqX.rf.sA (Or.inl rfl)).sI (Or.inr rfl)) (fun n q => by omega) h) (by rw [hs]; exact rowL_push hL) (hE.tr ⟨(EqX.rf.sA (Or.inl rfl)).sI (Or.inr rfl), fun k hk => by rw [gI_sI, if_neg (fun q => hk q.2)]; rfl⟩))
          | (have hs : sel (gsel ((A.1 m).2.2 31) m lo) (i + 1) = sel (gsel ((A.1 m).2.2 31) m lo) i := (by rw [sel_s, if_neg (by rw [hc]; decide)]); exact ih (i + 1) _ (by omega) (by omega) h (by rw [hs]; exact hL) hE)
      · refine pp_aload_n dX7_gather_18 rfl isRf_r (q := 19) rfl ?_
        refine pp_iload_n dX7_gather_19 rfl (q := 20) rfl ?_
        refine pp_iload_n dX7_gather_20 rfl (q := 21) rfl ?_
        refine ps_callVi dX7_gather_21 lk_X7_99 (by exact h.1) (by rfl) (by rfl) (by rfl) (m_isAround h.1 hmb hi) (by rfl) (by exact Nat.le_of_ble_eq_true rfl) (by decide) (by decide) (by exact Nat.le_of_ble_eq_true rfl) (q := 24) rfl (fun r21 g21 h21 => ?_)
        obtain ⟨hb, rfl⟩ := And.intro h21.1 h21.2.symm
        rw [((h.2.o hmb hd).2.2.1 i hi).1] at hb
        refine pp_if_ne (tgt := 30) dX7_gather_24 (by decide) (q := 27) rfl (fun c24 => ?_) (fun c24 => ?_)
        · have hq := isB_t hb c24
          have hc : (gsel ((A.1 m).2.2 31) m lo) i = true := gsel_t hq.1 c15 hq.2
          refine pp_aload_n dX7_gather_30 rfl isRf_r (q := 31) rfl ?_
          refine ps_get dX7_gather_31 fl_X7_33 h.1 rfl rfl (q := 34) rfl ?_
          refine pp_aload_n dX7_gather_34 rfl isRf_r (q := 35) rfl ?_
          refine ps_get dX7_gather_35 fl_X7_96 h.1 rfl rfl (q := 38) rfl ?_
          rw [hL.1]
          refine pp_iload_n dX7_gather_38 rfl (q := 39) rfl ?_
          refine ps_iast (j := (sel (gsel ((A.1 m).2.2 31) m lo) i).length) dX7_gather_39 h.1 (fun _ => rfl) rfl (by have := sel_le (gsel ((A.1 m).2.2 31) m lo) i; omega) (by decide) (q := 40) rfl ?_
          refine pp_aload_n dX7_gather_40 rfl isRf_r (q := 41) rfl ?_
          refine pp_dup dX7_gather_41 rfl (q := 42) rfl ?_
          refine ps_get dX7_gather_42 fl_X7_96 h.1 rfl rfl (q := 45) rfl ?_
          rw [show gI (sA g1 (48, 0, 0) (upd (gA g1 (48, 0, 0)) (sel (gsel ((A.1 m).2.2 31) m lo) i).length (nI i))) (40, 0, 0) 11 = nI (sel (gsel ((A.1 m).2.2 31) m lo) i).length from hL.1]
          refine pp_iconst dX7_gather_45 ci_1 (q := 46) rfl ?_
          refine pp_iadd dX7_gather_46 (q := 47) rfl ?_
          rw [nI_add]
          refine ps_puti dX7_gather_47 fl_X7_96 h.1 rfl (by exact Nat.le_of_ble_eq_true rfl) rfl rfl rfl (q := 50) rfl ?_
          refine pp_iinc dX7_gather_50 rfl (nI_1 _) (ls1_3 (nl1 rfl)) (q := 53) rfl ?_
          refine pp_goto (tgt := 7) dX7_gather_53 (by decide) ?_
          first
            | (have hs : sel (gsel ((A.1 m).2.2 31) m lo) (i + 1) = sel (gsel ((A.1 m).2.2 31) m lo) i ++ [i] := (by rw [sel_s, if_pos hc]); exact ih (i + 1) _ (by omega) (by omega) (EqX.rs (S := fun n => n.1 = 48 ∨ n.1 = 40) ((EqX.rf.sA (Or.inl rfl)).sI (Or.inr rfl)) (fun n q => by omega) h) (by rw [hs]; exact rowL_push hL) (hE.tr ⟨(EqX.rf.sA (Or.inl rfl)).sI (Or.inr rfl), fun k hk => by rw [gI_sI, if_neg (fun q => hk q.2)]; rfl⟩))
            | (have hs : sel (gsel ((A.1 m).2.2 31) m lo) (i + 1) = sel (gsel ((A.1 m).2.2 31) m lo) i := (by rw [sel_s, if_neg (by rw [hc]; decide)]); exact ih (i + 1) _ (by omega) (by omega) h (by rw [hs]; exact hL) hE)
        · have hq := isB_f hb c24
          have hc : (gsel ((A.1 m).2.2 31) m lo) i = false := gsel_f (by by_cases e : i = m; exact Or.inl e; exact Or.inr (Or.inr (fun z => hq ⟨e, z⟩)))
          refine pp_goto (tgt := 50) dX7_gather_27 (by decide) ?_
          refine pp_iinc dX7_gather_50 rfl (nI_1 _) (ls1_3 (nl1 rfl)) (q := 53) rfl ?_
          refine pp_goto (tgt := 7) dX7_gather_53 (by decide) ?_
          first
            | (have hs : sel (gsel ((A.1 m).2.2 31) m lo) (i + 1) = sel (gsel ((A.1 m).2.2 31) m lo) i ++ [i] := (by rw [sel_s, if_pos hc]); exact ih (i + 1) _ (by omega) (by omega) (EqX.rs (S := fun n => n.1 = 48 ∨ n.1 = 40) ((EqX.rf.sA (Or.inl rfl)).sI (Or.inr rfl)) (fun n q => by omega) h) (by rw [hs]; exact rowL_push hL) (hE.tr ⟨(EqX.rf.sA (Or.inl rfl)).sI (Or.inr rfl), fun k hk => by rw [gI_sI, if_neg (fun q => hk q.2)]; rfl⟩))
            | (have hs : sel (gsel ((A.1 m).2.2 31) m lo) (i + 1) = sel (gsel ((A.1 m).2.2 31) m lo) i := (by rw [sel_s, if_neg (by rw [hc]; decide)]); exact ih (i + 1) _ (by omega) (by omega) h (by rw [hs]; exact hL) hE)
set_option maxRecDepth 20000 in
set_option maxHeartbeats 4000000 in
theorem m_gather {ad : Nm → Nat} {g : Sg} {A : AW} {n m : Nat} {o : Prop} {lo : Int32} (h : RS g A n o) (hmb : m < 64) (hd : mdA A m) : PS mX7_gather 0 (ent mX7_gather [.ref (ad (40, 0, 0)), .int (nI m), .int lo]) [] ad g (Rv (fun g' => rowL g' (sel (gsel ((A.1 m).2.2 31) m lo) 64) ∧ EqR g g')) := by
  show PP mX7_gather 0 [some (.ref (ad (40, 0, 0))), some (.int (nI m)), some (.int lo), none] [] (Rel ad g) _
  refine pp_aload_n dX7_gather_0 rfl isRf_r (q := 1) rfl ?_
  refine pp_iconst dX7_gather_1 ci_0 (q := 2) rfl ?_
  refine ps_puti dX7_gather_2 fl_X7_96 h.1 rfl (by exact Nat.le_of_ble_eq_true rfl) rfl rfl rfl (q := 5) rfl ?_
  refine pp_iconst dX7_gather_5 ci_0 (q := 6) rfl ?_
  refine pp_istore_n dX7_gather_6 (by decide) (ls1_3 (nl1 rfl)) (q := 7) rfl ?_
  have hE : EqR g (sI g (40, 0, 0) 11 (nI 0)) := ⟨EqX.rf.sI (Or.inr rfl), fun k hk => by rw [gI_sI, if_neg (fun q => hk q.2)]⟩
  exact l_gat (o := o) (n := n) hmb hd 65 0 _ (by omega) (by omega) (hE.rs h) ⟨by rw [gI_sI, if_pos ⟨rfl, rfl⟩]; rfl, fun j x hx => by simp [sel] at hx⟩ hE
theorem meSJ_2 {M : Me} {v : Int64} : (meSJ M v).2.1 = v := rfl
theorem meSJ_J {M : Me} {v u : Int64} : meSJ (meSJ M v) u = meSJ M u := rfl
set_option maxRecDepth 20000 in
set_option maxHeartbeats 4000000 in
theorem l_mix {ad : Nm → Nat} {g0 : Sg} {A : AW} {n m : Nat} {o : Prop} {M : Me} {v11 : Int32} (hmb : m < 64) (hM : M.1 1 = nI 1) : ∀ (i : Nat) (g : Sg) (r : Nat → Int32) (s : Int64), i < 64 → RS g (aSet A m (meSJ M s)) n o → gA g (48, 0, 0) = r → gI g (40, 0, 0) 11 = v11 → EqM g0 g → ∀ x y, PS mX7_mix 13 [some (.ref (ad (40, 0, 0))), some (.int (nI m)), some (.int (nI i)), x, y] [] ad g (Rv (fun g' => RS g' (aSet A m (meSJ M (shl i (r, s)).2)) n o ∧ gA g' (48, 0, 0) = (shl i (r, s)).1 ∧ gI g' (40, 0, 0) 11 = v11 ∧ EqM g0 g')) := by
  intro i
  induction i with
  | zero =>
    intro g r s hi h hr h11 hE x y
    refine pp_iload_n dX7_mix_13 rfl (q := 14) rfl ?_
    refine pp_iconst dX7_mix_14 ci_1 (q := 15) rfl ?_
    refine pp_icmp_lt (tgt := 61) dX7_mix_15 (by decide) (q := 18) rfl (fun c15 => ?_) (fun c15 => absurd (by decide) c15)
    refine rv_ret dX7_mix_61 rfl ?_
    exact ⟨h, hr, h11, hE⟩
  | succ i ih =>
    intro g r s hi h hr h11 hE x y
    have hd1 : mdA (aSet A m (meSJ M s)) m := by unfold mdA; rw [aSet_m]; exact hM
    refine pp_iload_n dX7_mix_13 rfl (q := 14) rfl ?_
    refine pp_iconst dX7_mix_14 ci_1 (q := 15) rfl ?_
    refine pp_icmp_lt (tgt := 61) dX7_mix_15 (by decide) (q := 18) rfl (fun c15 => absurd c15 (fun q => by have := ltT q (by omega) (by omega); omega)) (fun c15 => ?_)
    refine pp_aload_n dX7_mix_18 rfl isRf_r (q := 19) rfl ?_
    refine pp_iload_n dX7_mix_19 rfl (q := 20) rfl ?_
    refine pp_iload_n dX7_mix_20 rfl (q := 21) rfl ?_
    refine pp_iconst dX7_mix_21 ci_1 (q := 22) rfl ?_
    refine pp_iadd dX7_mix_22 (q := 23) rfl ?_
    rw [nI_add]
    refine ps_callVi dX7_mix_23 lk_X7_106 (by exact (by first | exact h1.1 | exact h.1)) (by rfl) (by rfl) (by rfl) (m_dr h hmb hd1 (by omega) (by omega)) (by rfl) (by exact Nat.le_of_ble_eq_true rfl) (by decide) (by decide) (by exact Nat.le_of_ble_eq_true rfl) (q := 26) rfl (fun r23 g23 h23 => ?_)
    obtain ⟨rfl, h1, rfl⟩ := h23
    rw [aSet_m, meSJ_2, aSet_aSet, meSJ_J] at h1
    rw [aSet_m, meSJ_2]
    have hj := drN_lt (stir s) (n := i + 1 + 1) (by omega)
    have hr1 : gA (sB g (43, 0, 0) (vp_updL (gB g (43, 0, 0)) m (stir (gB g (43, 0, 0) m)))) (48, 0, 0) = r := hr
    refine pp_istore_n dX7_mix_26 (by decide) (ls1_3 (nl1 rfl)) (q := 27) rfl ?_
    refine pp_aload_n dX7_mix_27 rfl isRf_r (q := 28) rfl ?_
    refine ps_get dX7_mix_28 fl_X7_33 (by first | exact h1.1 | exact h.1) rfl rfl (q := 31) rfl ?_
    refine pp_iload_n dX7_mix_31 rfl (q := 32) rfl ?_
    refine ps_iald (j := i + 1) dX7_mix_32 (by first | exact h1.1 | exact h.1) rfl rfl (by omega) (by decide) (q := 33) rfl ?_
    rw [hr1]
    refine pp_istore dX7_mix_33 (by decide) (ls1_4 (nl1 rfl)) (q := 35) rfl ?_
    refine pp_aload_n dX7_mix_35 rfl isRf_r (q := 36) rfl ?_
    refine ps_get dX7_mix_36 fl_X7_33 (by first | exact h1.1 | exact h.1) rfl rfl (q := 39) rfl ?_
    refine pp_iload_n dX7_mix_39 rfl (q := 40) rfl ?_
    refine pp_aload_n dX7_mix_40 rfl isRf_r (q := 41) rfl ?_
    refine ps_get dX7_mix_41 fl_X7_33 (by first | exact h1.1 | exact h.1) rfl rfl (q := 44) rfl ?_
    refine pp_iload_n dX7_mix_44 rfl (q := 45) rfl ?_
    refine ps_iald (j := (drN (stir s) (i + 1 + 1))) dX7_mix_45 (by first | exact h1.1 | exact h.1) rfl rfl (by omega) (by decide) (q := 46) rfl ?_
    rw [hr1]
    refine ps_iast (j := i + 1) dX7_mix_46 (by first | exact h1.1 | exact h.1) (fun _ => rfl) rfl (by omega) (by decide) (q := 47) rfl ?_
    rw [hr1]
    refine pp_aload_n dX7_mix_47 rfl isRf_r (q := 48) rfl ?_
    refine ps_get dX7_mix_48 fl_X7_33 (by first | exact h1.1 | exact h.1) rfl rfl (q := 51) rfl ?_
    refine pp_iload_n dX7_mix_51 rfl (q := 52) rfl ?_
    refine pp_iload dX7_mix_52 rfl (q := 54) rfl ?_
    refine ps_iast (j := (drN (stir s) (i + 1 + 1))) dX7_mix_54 (by first | exact h1.1 | exact h.1) (fun _ => rfl) rfl (by omega) (by decide) (q := 55) rfl ?_
    rw [sA_sA, show gA (sA (sB g (43, 0, 0) (vp_updL (gB g (43, 0, 0)) m (stir (gB g (43, 0, 0) m)))) (48, 0, 0) (upd r (i + 1) (r (drN (stir s) (i + 1 + 1))))) (48, 0, 0) = upd r (i + 1) (r (drN (stir s) (i + 1 + 1))) from rfl]
    refine pp_iinc dX7_mix_55 rfl (nI_m1 _) (ls1_2 (nl1 rfl)) (q := 58) rfl ?_
    refine pp_goto (tgt := 13) dX7_mix_58 (by decide) ?_
    have := ih (sA (sB g (43, 0, 0) (vp_updL (gB g (43, 0, 0)) m (stir (gB g (43, 0, 0) m)))) (48, 0, 0) (upd (upd r (i + 1) (r (drN (stir s) (i + 1 + 1)))) (drN (stir s) (i + 1 + 1)) (r (i + 1)))) (upd (upd r (i + 1) (r (drN (stir s) (i + 1 + 1)))) (drN (stir s) (i + 1 + 1)) (r (i + 1))) (stir s) (by omega) (EqX.rs (S := fun n => n.1 = 48 ∨ n.1 = 40) (EqX.rf.sA (Or.inl rfl)) (fun n q => by omega) h1) rfl h11 ((hE.sB ms43).sA ms48) (some (Value.int (nI (drN (stir s) (i + 1 + 1))))) (some (Value.int (r (i + 1))))
    exact this
set_option maxRecDepth 20000 in
set_option maxHeartbeats 4000000 in
theorem m_mix0 {ad : Nm → Nat} {g : Sg} {A : AW} {n m : Nat} {o : Prop} (h : RS g A n o) (hmb : m < 64) (hd : mdA A m) (hl0 : (sel (gsel ((A.1 m).2.2 31) m (-1)) 64).length = 0) : PS mX7_mix 0 (ent mX7_mix [.ref (ad (40, 0, 0)), .int (nI m)]) [] ad g (Rv (fun g' => ∃ r0, (∀ j x, (sel (gsel ((A.1 m).2.2 31) m (-1)) 64)[j]? = some x → r0 j = nI x) ∧ RS g' (aSet A m (meSJ (A.1 m) (shl ((sel (gsel ((A.1 m).2.2 31) m (-1)) 64).length - 1) (r0, (A.1 m).2.1)).2)) n o ∧ gA g' (48, 0, 0) = (shl ((sel (gsel ((A.1 m).2.2 31) m (-1)) 64).length - 1) (r0, (A.1 m).2.1)).1 ∧ gI g' (40, 0, 0) 11 = nI (sel (gsel ((A.1 m).2.2 31) m (-1)) 64).length ∧ EqM g g')) := by
  show PP mX7_mix 0 [some (.ref (ad (40, 0, 0))), some (.int (nI m)), none, none, none] [] (Rel ad g) _
  refine pp_aload_n dX7_mix_0 rfl isRf_r (q := 1) rfl ?_
  refine pp_iload_n dX7_mix_1 rfl (q := 2) rfl ?_
  refine pp_iconst dX7_mix_2 ci_m1 (q := 3) rfl ?_
  refine ps_callVv dX7_mix_3 lk_X7_103 (by exact (by first | exact h1.1 | exact h.1)) (by rfl) (by rfl) (by rfl) (m_gather (lo := -1) h hmb hd) (by rfl) (by exact Nat.le_of_ble_eq_true rfl) (by decide) (by decide) (by exact Nat.le_of_ble_eq_true rfl) (q := 6) rfl (fun g3 h3 => ?_)
  obtain ⟨hL, hE⟩ := h3
  have h1 := hE.rs h
  refine pp_aload_n dX7_mix_6 rfl isRf_r (q := 7) rfl ?_
  refine ps_get dX7_mix_7 fl_X7_96 (by first | exact h1.1 | exact h.1) rfl rfl (q := 10) rfl ?_
  rw [hL.1]
  refine pp_iconst dX7_mix_10 ci_1 (q := 11) rfl ?_
  refine pp_isub dX7_mix_11 (q := 12) rfl ?_
  rw [hl0]
  refine pp_istore_n dX7_mix_12 (by decide) (ls1_2 (nl1 rfl)) (q := 13) rfl ?_
  refine pp_iload_n dX7_mix_13 rfl (q := 14) rfl ?_
  refine pp_iconst dX7_mix_14 ci_1 (q := 15) rfl ?_
  refine pp_icmp_lt (tgt := 61) dX7_mix_15 (by decide) (q := 18) rfl (fun c15 => ?_) (fun c15 => absurd (by decide) c15)
  refine rv_ret dX7_mix_61 rfl ?_
  refine ⟨gA g3 (48, 0, 0), hL.2, ?_, ?_, by rw [hL.1, hl0], hE.m⟩
  · show RS g3 (aSet A m (meSJ (A.1 m) (A.1 m).2.1)) n o
    rw [(show aSet A m (meSJ (A.1 m) (A.1 m).2.1) = A from aSet_self)]
    exact h1
  · rfl
set_option maxRecDepth 20000 in
set_option maxHeartbeats 4000000 in
theorem m_mix1 {ad : Nm → Nat} {g : Sg} {A : AW} {n m : Nat} {o : Prop} (h : RS g A n o) (hmb : m < 64) (hd : mdA A m) (hl0 : 1 ≤ (sel (gsel ((A.1 m).2.2 31) m (-1)) 64).length) : PS mX7_mix 0 (ent mX7_mix [.ref (ad (40, 0, 0)), .int (nI m)]) [] ad g (Rv (fun g' => ∃ r0, (∀ j x, (sel (gsel ((A.1 m).2.2 31) m (-1)) 64)[j]? = some x → r0 j = nI x) ∧ RS g' (aSet A m (meSJ (A.1 m) (shl ((sel (gsel ((A.1 m).2.2 31) m (-1)) 64).length - 1) (r0, (A.1 m).2.1)).2)) n o ∧ gA g' (48, 0, 0) = (shl ((sel (gsel ((A.1 m).2.2 31) m (-1)) 64).length - 1) (r0, (A.1 m).2.1)).1 ∧ gI g' (40, 0, 0) 11 = nI (sel (gsel ((A.1 m).2.2 31) m (-1)) 64).length ∧ EqM g g')) := by
  show PP mX7_mix 0 [some (.ref (ad (40, 0, 0))), some (.int (nI m)), none, none, none] [] (Rel ad g) _
  refine pp_aload_n dX7_mix_0 rfl isRf_r (q := 1) rfl ?_
  refine pp_iload_n dX7_mix_1 rfl (q := 2) rfl ?_
  refine pp_iconst dX7_mix_2 ci_m1 (q := 3) rfl ?_
  refine ps_callVv dX7_mix_3 lk_X7_103 (by exact (by first | exact h1.1 | exact h.1)) (by rfl) (by rfl) (by rfl) (m_gather (lo := -1) h hmb hd) (by rfl) (by exact Nat.le_of_ble_eq_true rfl) (by decide) (by decide) (by exact Nat.le_of_ble_eq_true rfl) (q := 6) rfl (fun g3 h3 => ?_)
  obtain ⟨hL, hE⟩ := h3
  have h1 := hE.rs h
  refine pp_aload_n dX7_mix_6 rfl isRf_r (q := 7) rfl ?_
  refine ps_get dX7_mix_7 fl_X7_96 (by first | exact h1.1 | exact h.1) rfl rfl (q := 10) rfl ?_
  rw [hL.1]
  refine pp_iconst dX7_mix_10 ci_1 (q := 11) rfl ?_
  refine pp_isub dX7_mix_11 (q := 12) rfl ?_
  rw [nI_sb (by omega)]
  refine pp_istore_n dX7_mix_12 (by decide) (ls1_2 (nl1 rfl)) (q := 13) rfl ?_
  have hl6 := sel_le (gsel ((A.1 m).2.2 31) m (-1)) 64
  refine (l_mix (g0 := g) (A := A) (n := n) (o := o) (M := A.1 m) (v11 := nI (sel (gsel ((A.1 m).2.2 31) m (-1)) 64).length) hmb hd ((sel (gsel ((A.1 m).2.2 31) m (-1)) 64).length - 1) g3 (gA g3 (48, 0, 0)) (A.1 m).2.1 (by omega) (by rw [(show aSet A m (meSJ (A.1 m) (A.1 m).2.1) = A from aSet_self)]; exact h1) rfl hL.1 hE.m _ _).weak (fun v G hG => ?_)
  obtain ⟨g', k1, k2, k3, k4, k5, k6⟩ := hG
  exact ⟨g', k1, k2, gA g3 (48, 0, 0), hL.2, k3, k4, k5, k6⟩
theorem m_mix {ad : Nm → Nat} {g : Sg} {A : AW} {n m : Nat} {o : Prop} (h : RS g A n o) (hmb : m < 64) (hd : mdA A m) : PS mX7_mix 0 (ent mX7_mix [.ref (ad (40, 0, 0)), .int (nI m)]) [] ad g (Rv (fun g' => ∃ r0, (∀ j x, (sel (gsel ((A.1 m).2.2 31) m (-1)) 64)[j]? = some x → r0 j = nI x) ∧ RS g' (aSet A m (meSJ (A.1 m) (shl ((sel (gsel ((A.1 m).2.2 31) m (-1)) 64).length - 1) (r0, (A.1 m).2.1)).2)) n o ∧ gA g' (48, 0, 0) = (shl ((sel (gsel ((A.1 m).2.2 31) m (-1)) 64).length - 1) (r0, (A.1 m).2.1)).1 ∧ gI g' (40, 0, 0) 11 = nI (sel (gsel ((A.1 m).2.2 31) m (-1)) 64).length ∧ EqM g g')) := by
  rcases Nat.eq_zero_or_pos (sel (gsel ((A.1 m).2.2 31) m (-1)) 64).length with e | e
  · exact m_mix0 h hmb hd e
  · exact m_mix1 h hmb hd e
set_option maxRecDepth 20000 in
set_option maxHeartbeats 4000000 in
theorem l_still {ad : Nm → Nat} {g : Sg} {A : AW} {n m : Nat} {o : Prop} {N : Nat} (h : RS g A n o) (hmb : m < 64) (hd : mdA A m) (hN : (A.1 m).1 14 = nI N) (hN2 : N ≤ 64) (hR : ∀ j, j < N → ∃ x, x < 64 ∧ x ≠ m ∧ (A.1 m).2.2 36 j = nI x) : ∀ (j i : Nat), 64 - i < j → i ≤ 64 → PS mX7_stillThere 8 [some (.ref (ad (40, 0, 0))), some (.int (nI m)), some (.int (nI i))] [] ad g (Ri (fun v g' => v = oI (fnd (livR ((A.1 m).2.2 31) ((A.1 m).2.2 36)) i (N - i)) ∧ g' = g)) := by
  intro j
  induction j with
  | zero => intro i h; omega
  | succ j ih =>
    intro i hij hik
    refine pp_iload_n dX7_stillThere_8 rfl (q := 9) rfl ?_
    refine pp_aload_n dX7_stillThere_9 rfl isRf_r (q := 10) rfl ?_
    refine pp_iload_n dX7_stillThere_10 rfl (q := 11) rfl ?_
    refine pp_iconst dX7_stillThere_11 ci_5 (q := 12) rfl ?_
    refine ps_callVi dX7_stillThere_12 lk_X7_48 (by exact h.1) (by rfl) (by rfl) (by rfl) (m_of h.1 hmb (by omega)) (by rfl) (by exact Nat.le_of_ble_eq_true rfl) (by decide) (by decide) (by exact Nat.le_of_ble_eq_true rfl) (q := 15) rfl (fun r12 g12 h12 => ?_)
    obtain ⟨rfl, rfl⟩ := And.intro h12.1.symm h12.2.symm
    rw [show gA g (41, 0, 0) (7 * m + 5) = nI N from (h.2.o hmb hd).1.2.2.2.2.2.1.trans hN]
    refine pp_icmp_ge (tgt := 49) dX7_stillThere_15 (by decide) (q := 18) rfl (fun c15 => ?_) (fun c15 => ?_)
    · have e : N ≤ i := leT c15 (by omega) (by omega)
      refine pp_iconst dX7_stillThere_49 ci_m1 (q := 50) rfl ?_
      refine ri_ret dX7_stillThere_50 rfl rfl ?_
      rw [show N - i = 0 by omega]
      exact ⟨rfl, rfl⟩
    · have hi := leF c15 (by omega) (by omega)
      obtain ⟨x, hx, hxm, ex⟩ := hR i hi
      refine pp_aload_n dX7_stillThere_18 rfl isRf_r (q := 19) rfl ?_
      refine pp_iload_n dX7_stillThere_19 rfl (q := 20) rfl ?_
      refine pp_aload_n dX7_stillThere_20 rfl isRf_r (q := 21) rfl ?_
      refine ps_get dX7_stillThere_21 fl_X7_8 h.1 rfl rfl (q := 24) rfl ?_
      refine pp_sipush dX7_stillThere_24 cs_20928 (q := 27) rfl ?_
      refine pp_bipush dX7_stillThere_27 cb_64 (q := 29) rfl ?_
      refine pp_iload_n dX7_stillThere_29 rfl (q := 30) rfl ?_
      refine pp_imul dX7_stillThere_30 (q := 31) rfl ?_
      try rw [pk_mul]
      refine pp_iadd dX7_stillThere_31 (q := 32) rfl ?_
      try rw [nI_add]
      refine pp_iload_n dX7_stillThere_32 rfl (q := 33) rfl ?_
      refine pp_iadd dX7_stillThere_33 (q := 34) rfl ?_
      try rw [nI_add]
      refine ps_iald dX7_stillThere_34 h.1 rfl rfl (by omega) (by decide) (q := 35) rfl ?_
      rw [show gA g (41, 0, 0) (20928 + 64 * m + i) = nI x from ((h.2.o hmb hd).2.2.2 i (by rw [hN, cl_nI (by omega)]; exact hi) (by omega)).trans ex]
      refine ps_callVi dX7_stillThere_35 lk_X7_99 (by exact h.1) (by rfl) (by rfl) (by rfl) (m_isAround h.1 hmb hx) (by rfl) (by exact Nat.le_of_ble_eq_true rfl) (by decide) (by decide) (by exact Nat.le_of_ble_eq_true rfl) (q := 38) rfl (fun r35 g35 h35 => ?_)
      obtain ⟨hb, rfl⟩ := And.intro h35.1 h35.2.symm
      rw [((h.2.o hmb hd).2.2.1 x hx).1] at hb
      have hcl : (((A.1 m).2.2 36 i).toNatClampNeg) = x := by rw [ex]; exact nI_clamp (by omega)
      refine pp_if_eq (tgt := 43) dX7_stillThere_38 (by decide) (q := 41) rfl (fun c38 => ?_) (fun c38 => ?_)
      · have hc : livR ((A.1 m).2.2 31) ((A.1 m).2.2 36) i = false := by
          unfold livR
          rw [hcl]
          exact decide_eq_false (fun q => isB_f hb c38 ⟨hxm, q⟩)
        refine pp_iinc dX7_stillThere_43 rfl (nI_1 _) (ls1_2 (nl1 rfl)) (q := 46) rfl ?_
        refine pp_goto (tgt := 8) dX7_stillThere_46 (by decide) ?_
        rw [fnd_step hi hc]
        exact ih (i + 1) (by omega) (by omega)
      · have hc : livR ((A.1 m).2.2 31) ((A.1 m).2.2 36) i = true := by
          unfold livR
          rw [hcl]
          exact decide_eq_true (isB_t hb c38).2
        refine pp_iload_n dX7_stillThere_41 rfl (q := 42) rfl ?_
        refine ri_ret dX7_stillThere_42 rfl rfl ?_
        rw [fnd_hit hi hc]
        exact ⟨rfl, rfl⟩
set_option maxRecDepth 20000 in
set_option maxHeartbeats 4000000 in
theorem m_still {ad : Nm → Nat} {g : Sg} {A : AW} {n m : Nat} {o : Prop} (h : RS g A n o) (hmb : m < 64) (hd : mdA A m) (hw : wfR m (A.1 m)) : PS mX7_stillThere 0 (ent mX7_stillThere [.ref (ad (40, 0, 0)), .int (nI m)]) [] ad g (Ri (fun v g' => v = oI (nxO (A.1 m)) ∧ g' = g)) := by
  obtain ⟨N, q, h1, h2, h3, hq4, h5⟩ := hw
  show PP mX7_stillThere 0 [some (.ref (ad (40, 0, 0))), some (.int (nI m)), none] [] (Rel ad g) _
  refine pp_aload_n dX7_stillThere_0 rfl isRf_r (q := 1) rfl ?_
  refine pp_iload_n dX7_stillThere_1 rfl (q := 2) rfl ?_
  refine pp_bipush dX7_stillThere_2 cb_6 (q := 4) rfl ?_
  refine ps_callVi dX7_stillThere_4 lk_X7_48 (by exact h.1) (by rfl) (by rfl) (by rfl) (m_of h.1 hmb (by omega)) (by rfl) (by exact Nat.le_of_ble_eq_true rfl) (by decide) (by decide) (by exact Nat.le_of_ble_eq_true rfl) (q := 7) rfl (fun r4 g4 h4 => ?_)
  obtain ⟨rfl, rfl⟩ := And.intro h4.1.symm h4.2.symm
  rw [show gA g (41, 0, 0) (7 * m + 6) = nI q from (h.2.o hmb hd).1.2.2.2.2.2.2.trans h3]
  refine pp_istore_n dX7_stillThere_7 (by decide) (ls1_2 (nl1 rfl)) (q := 8) rfl ?_
  have e : nxO (A.1 m) = fnd (livR ((A.1 m).2.2 31) ((A.1 m).2.2 36)) q (N - q) := by unfold nxO; rw [h1, h3, nI_clamp (by omega), nI_clamp (by omega)]
  rw [e]
  exact l_still h hmb hd h1 h2 h5 65 q (by omega) hq4
