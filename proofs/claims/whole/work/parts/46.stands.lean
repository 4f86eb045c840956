def stW (B : Bk) (x kind term : Int32) : Int32 → List Int32 → Prop
  | _, [] => True
  | rc, v :: Y => (∃ l, l < bL B ∧ v = nI l ∧ bl B l 5 = nI 1 ∧ bl B l 2 = rc) ∧ (∃ i, pcO B (cl v) x = some i ∧ bp B (cl (bl B (cl v) 7) + i) 1 = kind ∧ bp B (cl (bl B (cl v) 7) + i) 2 = term ∧ bp B (cl (bl B (cl v) 7) + i) 3 = Y.headD (-1)) ∧ stW B x kind term (bl B (cl v) 1) Y
theorem drop_consI {l : List Int32} {i : Nat} {x : Int32} (h : l[i]? = some x) : l.drop i = x :: l.drop (i + 1) := by
  have hi := lt_of_getE h
  rw [List.drop_eq_getElem_cons hi]
  rw [List.getElem?_eq_getElem hi] at h
  rw [Option.some.inj h]
theorem headD_drop {l : List Int32} {i : Nat} {x : Int32} (h : l[i]? = some x) : (l.drop i).headD (-1) = x := by rw [drop_consI h]; rfl
theorem headD_end {l : List Int32} {i : Nat} (h : l.length ≤ i) : (l.drop i).headD (-1) = -1 := by rw [List.drop_eq_nil_of_le h]; rfl
set_option maxRecDepth 20000 in
set_option maxHeartbeats 4000000 in
theorem s_stdA {ad : Nm → Nat} {g : Sg} {w i : Nat} {m x kind term rc v : Int32} {B : Bk} {Y : List Int32} (hw : al g (10, w, 0)) (hB : RB g w B) (hR : RY g Y) {u : Int32} {Q : Option Value → PH → Prop} (hv : Y[i]? = some v) (hi : i < Y.length) (hi2 : i + 1 < Y.length) (hu : Y[i + 1]? = some u) {a b z : Option Value} (hk : PP mX4_stands 72 [some (.ref (ad (3, 0, 0))), some (.ref (ad (13, w, 0))), some (.int m), some (.int x), some (.int kind), some (.int term), some (.int rc), some (.int (nI i)), some (.int v), some (.int u), z] [] (Rel ad g) Q) : PP mX4_stands 6 [some (.ref (ad (3, 0, 0))), some (.ref (ad (13, w, 0))), some (.int m), some (.int x), some (.int kind), some (.int term), some (.int rc), some (.int (nI i)), a, b, z] [] (Rel ad g) Q := by
  refine pp_iload dX4_stands_6 rfl (q := 8) rfl ?_
  refine pp_aload_n dX4_stands_8 rfl isRf_r (q := 9) rfl ?_
  refine ps_get dX4_stands_9 fl_X4_15 hR.1 rfl rfl (q := 12) rfl ?_
  rw [hR.2.1]
  refine pp_icmp_ge (tgt := 157) dX4_stands_12 (by decide) (q := 15) rfl (fun c12 => absurd c12 (nI_ge hi (by have := hR.2.2; omega))) (fun c12 => ?_)
  refine pp_iload dX4_stands_15 rfl (q := 17) rfl ?_
  refine pp_aload_n dX4_stands_17 rfl isRf_r (q := 18) rfl ?_
  refine ps_get dX4_stands_18 fl_X4_9 hR.1 rfl rfl (q := 21) rfl ?_
  refine ps_alen dX4_stands_21 hR.1 rfl (by decide) (q := 22) rfl ?_
  refine pp_icmp_ge (tgt := 157) dX4_stands_22 (by decide) (q := 25) rfl (fun c22 => absurd c22 (nI_ge (by have := hR.2.2; omega) (by have := hR.2.2; omega))) (fun c22 => ?_)
  refine pp_aload_n dX4_stands_25 rfl isRf_r (q := 26) rfl ?_
  refine ps_get dX4_stands_26 fl_X4_9 hR.1 rfl rfl (q := 29) rfl ?_
  refine pp_iload dX4_stands_29 rfl (q := 31) rfl ?_
  refine ps_iald dX4_stands_31 hR.1 rfl rfl (by have := hR.2.2; omega) (by have := hR.2.2; omega) (q := 32) rfl ?_
  rw [hR.2.2.2.2.2 i v hv]
  refine pp_istore dX4_stands_32 (by decide) (ls1_8 (nl1 rfl)) (q := 34) rfl ?_
  refine pp_iload dX4_stands_34 rfl (q := 36) rfl ?_
  refine pp_iconst dX4_stands_36 ci_1 (q := 37) rfl ?_
  refine pp_iadd dX4_stands_37 (q := 38) rfl ?_
  rw [nI_add]
  refine pp_aload_n dX4_stands_38 rfl isRf_r (q := 39) rfl ?_
  refine ps_get dX4_stands_39 fl_X4_15 hR.1 rfl rfl (q := 42) rfl ?_
  rw [hR.2.1]
  refine pp_icmp_ge (tgt := 69) dX4_stands_42 (by decide) (q := 45) rfl (fun c42 => absurd c42 (nI_ge hi2 (by have := hR.2.2; omega))) (fun c42 => ?_)
  refine pp_iload dX4_stands_45 rfl (q := 47) rfl ?_
  refine pp_iconst dX4_stands_47 ci_1 (q := 48) rfl ?_
  refine pp_iadd dX4_stands_48 (q := 49) rfl ?_
  rw [nI_add]
  refine pp_aload_n dX4_stands_49 rfl isRf_r (q := 50) rfl ?_
  refine ps_get dX4_stands_50 fl_X4_9 hR.1 rfl rfl (q := 53) rfl ?_
  refine ps_alen dX4_stands_53 hR.1 rfl (by decide) (q := 54) rfl ?_
  refine pp_icmp_ge (tgt := 69) dX4_stands_54 (by decide) (q := 57) rfl (fun c54 => absurd c54 (nI_ge (by have := hR.2.2; omega) (by have := hR.2.2; omega))) (fun c54 => ?_)
  refine pp_aload_n dX4_stands_57 rfl isRf_r (q := 58) rfl ?_
  refine ps_get dX4_stands_58 fl_X4_9 hR.1 rfl rfl (q := 61) rfl ?_
  refine pp_iload dX4_stands_61 rfl (q := 63) rfl ?_
  refine pp_iconst dX4_stands_63 ci_1 (q := 64) rfl ?_
  refine pp_iadd dX4_stands_64 (q := 65) rfl ?_
  rw [nI_add]
  refine ps_iald dX4_stands_65 hR.1 rfl rfl (by have := hR.2.2; omega) (by have := hR.2.2; omega) (q := 66) rfl ?_
  rw [hR.2.2.2.2.2 (i + 1) u hu]
  refine pp_goto (tgt := 70) dX4_stands_66 (by decide) ?_
  refine pp_istore dX4_stands_70 (by decide) (ls1_9 (nl1 rfl)) (q := 72) rfl ?_
  exact hk
set_option maxRecDepth 20000 in
set_option maxHeartbeats 4000000 in
theorem s_stdB {ad : Nm → Nat} {g : Sg} {w i : Nat} {m x kind term rc v : Int32} {B : Bk} {Y : List Int32} (hw : al g (10, w, 0)) (hB : RB g w B) (hR : RY g Y) {Q : Option Value → PH → Prop} (hv : Y[i]? = some v) (hi : i < Y.length) (hi2 : Y.length ≤ i + 1) {a b z : Option Value} (hk : PP mX4_stands 72 [some (.ref (ad (3, 0, 0))), some (.ref (ad (13, w, 0))), some (.int m), some (.int x), some (.int kind), some (.int term), some (.int rc), some (.int (nI i)), some (.int v), some (.int (-1)), z] [] (Rel ad g) Q) : PP mX4_stands 6 [some (.ref (ad (3, 0, 0))), some (.ref (ad (13, w, 0))), some (.int m), some (.int x), some (.int kind), some (.int term), some (.int rc), some (.int (nI i)), a, b, z] [] (Rel ad g) Q := by
  refine pp_iload dX4_stands_6 rfl (q := 8) rfl ?_
  refine pp_aload_n dX4_stands_8 rfl isRf_r (q := 9) rfl ?_
  refine ps_get dX4_stands_9 fl_X4_15 hR.1 rfl rfl (q := 12) rfl ?_
  rw [hR.2.1]
  refine pp_icmp_ge (tgt := 157) dX4_stands_12 (by decide) (q := 15) rfl (fun c12 => absurd c12 (nI_ge hi (by have := hR.2.2; omega))) (fun c12 => ?_)
  refine pp_iload dX4_stands_15 rfl (q := 17) rfl ?_
  refine pp_aload_n dX4_stands_17 rfl isRf_r (q := 18) rfl ?_
  refine ps_get dX4_stands_18 fl_X4_9 hR.1 rfl rfl (q := 21) rfl ?_
  refine ps_alen dX4_stands_21 hR.1 rfl (by decide) (q := 22) rfl ?_
  refine pp_icmp_ge (tgt := 157) dX4_stands_22 (by decide) (q := 25) rfl (fun c22 => absurd c22 (nI_ge (by have := hR.2.2; omega) (by have := hR.2.2; omega))) (fun c22 => ?_)
  refine pp_aload_n dX4_stands_25 rfl isRf_r (q := 26) rfl ?_
  refine ps_get dX4_stands_26 fl_X4_9 hR.1 rfl rfl (q := 29) rfl ?_
  refine pp_iload dX4_stands_29 rfl (q := 31) rfl ?_
  refine ps_iald dX4_stands_31 hR.1 rfl rfl (by have := hR.2.2; omega) (by have := hR.2.2; omega) (q := 32) rfl ?_
  rw [hR.2.2.2.2.2 i v hv]
  refine pp_istore dX4_stands_32 (by decide) (ls1_8 (nl1 rfl)) (q := 34) rfl ?_
  refine pp_iload dX4_stands_34 rfl (q := 36) rfl ?_
  refine pp_iconst dX4_stands_36 ci_1 (q := 37) rfl ?_
  refine pp_iadd dX4_stands_37 (q := 38) rfl ?_
  rw [nI_add]
  refine pp_aload_n dX4_stands_38 rfl isRf_r (q := 39) rfl ?_
  refine ps_get dX4_stands_39 fl_X4_15 hR.1 rfl rfl (q := 42) rfl ?_
  rw [hR.2.1]
  refine pp_icmp_ge (tgt := 69) dX4_stands_42 (by decide) (q := 45) rfl (fun c42 => ?_) (fun c42 => absurd (nI_le hi2 (by have := hR.2.2; omega)) c42)
  refine pp_iconst dX4_stands_69 ci_m1 (q := 70) rfl ?_
  refine pp_istore dX4_stands_70 (by decide) (ls1_9 (nl1 rfl)) (q := 72) rfl ?_
  exact hk
set_option maxRecDepth 20000 in
set_option maxHeartbeats 4000000 in
theorem t_stdO {ad : Nm → Nat} {g : Sg} {w i : Nat} {m x kind term rc v kp : Int32} {B : Bk} {Yr : List Int32} (hw : al g (10, w, 0)) (hB : RB g w B) (hy : al g (3, 0, 0)) (hkp : kp = Yr.headD (-1)) (hno : ¬ ∃ l, l < bL B ∧ v = nI l) (hv : v < 0 ∨ nI (bL B) ≤ v) {z : Option Value} : PS mX4_stands 72 [some (.ref (ad (3, 0, 0))), some (.ref (ad (13, w, 0))), some (.int m), some (.int x), some (.int kind), some (.int term), some (.int rc), some (.int (nI i)), some (.int v), some (.int kp), z] [] ad g (Ri (fun r g' => isB r (stW B x kind term rc (v :: Yr)) ∧ g' = g)) := by
  refine pp_aload_n dX4_stands_72 rfl isRf_r (q := 73) rfl ?_
  refine pp_iload dX4_stands_73 rfl (q := 75) rfl ?_
  refine pp_iload_n dX4_stands_75 rfl (q := 76) rfl ?_
  refine ps_callVi dX4_stands_76 lk_X4_29 (by exact hw) (by rfl) (by rfl) (by rfl) (c_findPiece_out (by exact hw) hB hv) (by rfl) (by exact Nat.le_of_ble_eq_true rfl) (by decide) (by decide) (by exact Nat.le_of_ble_eq_true rfl) (q := 79) rfl (fun r76 g76 h76 => ?_)
  obtain ⟨rfl, rfl⟩ := And.intro h76.1.symm h76.2.symm
  refine pp_istore dX4_stands_79 (by decide) (ls1_10 (nl1 rfl)) (q := 81) rfl ?_
  refine pp_aload_n dX4_stands_81 rfl isRf_r (q := 82) rfl ?_
  refine pp_iload dX4_stands_82 rfl (q := 84) rfl ?_
  refine pp_iload dX4_stands_84 rfl (q := 86) rfl ?_
  refine ps_callVi dX4_stands_86 lk_X4_43 (by exact hw) (by rfl) (by rfl) (by rfl) (c_reached (by exact hw) hB) (by rfl) (by exact Nat.le_of_ble_eq_true rfl) (by decide) (by decide) (by exact Nat.le_of_ble_eq_true rfl) (q := 89) rfl (fun r86 g86 h86 => ?_)
  obtain ⟨hb86, rfl⟩ := And.intro h86.1 h86.2.symm
  refine pp_if_eq (tgt := 140) dX4_stands_89 (by decide) (q := 92) rfl (fun c89 => ?_) (fun c89 => ?_)
  · refine pp_iconst dX4_stands_140 ci_0 (q := 141) rfl ?_
    refine ri_ret dX4_stands_141 rfl (by decide) ?_
    exact ⟨isB_0 (fun q => hno (q.1.imp (fun l h => ⟨h.1, h.2.1⟩))), rfl⟩
  · exact absurd (isB_t hb86 c89) (fun ⟨l, h1, h2, _⟩ => hno ⟨l, h1, h2⟩)
set_option maxRecDepth 20000 in
set_option maxHeartbeats 4000000 in
theorem t_stdN {ad : Nm → Nat} {g : Sg} {w i l k s : Nat} {m x kind term rc kp : Int32} {B : Bk} {Yr : List Int32} (hw : al g (10, w, 0)) (hB : RB g w B) (hy : al g (3, 0, 0)) (hkp : kp = Yr.headD (-1)) (hp : pOk B l k s) (hlb : l < 2 ^ 31) (hpo : pcO B l x = none) {z : Option Value} : PS mX4_stands 72 [some (.ref (ad (3, 0, 0))), some (.ref (ad (13, w, 0))), some (.int m), some (.int x), some (.int kind), some (.int term), some (.int rc), some (.int (nI i)), some (.int (nI l)), some (.int kp), z] [] ad g (Ri (fun r g' => isB r (stW B x kind term rc (nI l :: Yr)) ∧ g' = g)) := by
  refine pp_aload_n dX4_stands_72 rfl isRf_r (q := 73) rfl ?_
  refine pp_iload dX4_stands_73 rfl (q := 75) rfl ?_
  refine pp_iload_n dX4_stands_75 rfl (q := 76) rfl ?_
  refine ps_callVi dX4_stands_76 lk_X4_29 (by exact hw) (by rfl) (by rfl) (by rfl) (c_findPiece (by exact hw) hB hp) (by rfl) (by exact Nat.le_of_ble_eq_true rfl) (by decide) (by decide) (by exact Nat.le_of_ble_eq_true rfl) (q := 79) rfl (fun r76 g76 h76 => ?_)
  obtain ⟨rfl, rfl⟩ := And.intro h76.1.symm h76.2.symm
  rw [← pcO_k hB.bd.2 hp, hpo]
  refine pp_istore dX4_stands_79 (by decide) (ls1_10 (nl1 rfl)) (q := 81) rfl ?_
  refine pp_aload_n dX4_stands_81 rfl isRf_r (q := 82) rfl ?_
  refine pp_iload dX4_stands_82 rfl (q := 84) rfl ?_
  refine pp_iload dX4_stands_84 rfl (q := 86) rfl ?_
  refine ps_callVi dX4_stands_86 lk_X4_43 (by exact hw) (by rfl) (by rfl) (by rfl) (c_reached (by exact hw) hB) (by rfl) (by exact Nat.le_of_ble_eq_true rfl) (by decide) (by decide) (by exact Nat.le_of_ble_eq_true rfl) (q := 89) rfl (fun r86 g86 h86 => ?_)
  obtain ⟨hb86, rfl⟩ := And.intro h86.1 h86.2.symm
  refine pp_if_eq (tgt := 140) dX4_stands_89 (by decide) (q := 92) rfl (fun c89 => ?_) (fun c89 => ?_)
  · refine pp_iconst dX4_stands_140 ci_0 (q := 141) rfl ?_
    refine ri_ret dX4_stands_141 rfl (by decide) ?_
    refine ⟨isB_0 (fun q => ?_), rfl⟩
    obtain ⟨-, ⟨j, hj, -⟩, -⟩ := q
    rw [cl_nI hlb, hpo] at hj
    cases hj
  · refine pp_iload dX4_stands_92 rfl (q := 94) rfl ?_
    refine pp_iconst dX4_stands_94 ci_m1 (q := 95) rfl ?_
    refine pp_icmp_eq (tgt := 140) dX4_stands_95 (by decide) (q := 98) rfl (fun c95 => ?_) (fun c95 => absurd rfl c95)
    refine pp_iconst dX4_stands_140 ci_0 (q := 141) rfl ?_
    refine ri_ret dX4_stands_141 rfl (by decide) ?_
    refine ⟨isB_0 (fun q => ?_), rfl⟩
    obtain ⟨-, ⟨j, hj, -⟩, -⟩ := q
    rw [cl_nI hlb, hpo] at hj
    cases hj
set_option maxRecDepth 20000 in
set_option maxHeartbeats 4000000 in
theorem t_stdS {ad : Nm → Nat} {g : Sg} {w i l k s j : Nat} {m x kind term rc kp : Int32} {B : Bk} {Yr : List Int32} (hw : al g (10, w, 0)) (hB : RB g w B) (hy : al g (3, 0, 0)) (hkp : kp = Yr.headD (-1)) (hp : pOk B l k s) (hlb : l < 2 ^ 31) (hsb : s < 2 ^ 31) (hpo : pcO B l x = some j) (hjk : j < k) {z : Option Value} (hk : ∀ a b c, PS mX4_stands 6 [some (.ref (ad (3, 0, 0))), some (.ref (ad (13, w, 0))), some (.int m), some (.int x), some (.int kind), some (.int term), some (.int (bl B l 1)), some (.int (nI (i + 1))), a, b, c] [] ad g (Ri (fun r g' => isB r (stW B x kind term (bl B l 1) Yr) ∧ g' = g))) : PS mX4_stands 72 [some (.ref (ad (3, 0, 0))), some (.ref (ad (13, w, 0))), some (.int m), some (.int x), some (.int kind), some (.int term), some (.int rc), some (.int (nI i)), some (.int (nI l)), some (.int kp), z] [] ad g (Ri (fun r g' => isB r (stW B x kind term rc (nI l :: Yr)) ∧ g' = g)) := by
  refine pp_aload_n dX4_stands_72 rfl isRf_r (q := 73) rfl ?_
  refine pp_iload dX4_stands_73 rfl (q := 75) rfl ?_
  refine pp_iload_n dX4_stands_75 rfl (q := 76) rfl ?_
  refine ps_callVi dX4_stands_76 lk_X4_29 (by exact hw) (by rfl) (by rfl) (by rfl) (c_findPiece (by exact hw) hB hp) (by rfl) (by exact Nat.le_of_ble_eq_true rfl) (by decide) (by decide) (by exact Nat.le_of_ble_eq_true rfl) (q := 79) rfl (fun r76 g76 h76 => ?_)
  obtain ⟨rfl, rfl⟩ := And.intro h76.1.symm h76.2.symm
  rw [← pcO_k hB.bd.2 hp, hpo]
  refine pp_istore dX4_stands_79 (by decide) (ls1_10 (nl1 rfl)) (q := 81) rfl ?_
  refine pp_aload_n dX4_stands_81 rfl isRf_r (q := 82) rfl ?_
  refine pp_iload dX4_stands_82 rfl (q := 84) rfl ?_
  refine pp_iload dX4_stands_84 rfl (q := 86) rfl ?_
  refine ps_callVi dX4_stands_86 lk_X4_43 (by exact hw) (by rfl) (by rfl) (by rfl) (c_reached (by exact hw) hB) (by rfl) (by exact Nat.le_of_ble_eq_true rfl) (by decide) (by decide) (by exact Nat.le_of_ble_eq_true rfl) (q := 89) rfl (fun r86 g86 h86 => ?_)
  obtain ⟨hb86, rfl⟩ := And.intro h86.1 h86.2.symm
  refine pp_if_eq (tgt := 140) dX4_stands_89 (by decide) (q := 92) rfl (fun c89 => ?_) (fun c89 => ?_)
  · refine pp_iconst dX4_stands_140 ci_0 (q := 141) rfl ?_
    refine ri_ret dX4_stands_141 rfl (by decide) ?_
    refine ⟨isB_0 (fun q => ?_), rfl⟩
    obtain ⟨q1, ⟨j', hj', q2, q3, q4⟩, -⟩ := q
    rw [cl_nI hlb, hpo] at hj'
    obtain rfl := Option.some.inj hj'
    rw [cl_nI hlb, hp.2.2.1, cl_nI hsb] at q2 q3 q4
    first | exact c137 (q4.trans hkp.symm) | exact c123 q3 | exact c109 q2 | exact isB_f hb86 c89 q1
  · refine pp_iload dX4_stands_92 rfl (q := 94) rfl ?_
    refine pp_iconst dX4_stands_94 ci_m1 (q := 95) rfl ?_
    refine pp_icmp_eq (tgt := 140) dX4_stands_95 (by decide) (q := 98) rfl (fun c95 => absurd c95 (oI_some_ne (by have := hp.2.2.2; omega))) (fun c95 => ?_)
    refine pp_aload_n dX4_stands_98 rfl isRf_r (q := 99) rfl ?_
    refine pp_iload dX4_stands_99 rfl (q := 101) rfl ?_
    refine pp_iload dX4_stands_101 rfl (q := 103) rfl ?_
    refine pp_iconst dX4_stands_103 ci_1 (q := 104) rfl ?_
    refine ps_callVi dX4_stands_104 lk_X4_33 (by exact hw) (by rfl) (by rfl) (by rfl) (c_ofPiece (c := 1) (by exact hw) hB hp hjk (by decide)) (by rfl) (by exact Nat.le_of_ble_eq_true rfl) (by decide) (by decide) (by exact Nat.le_of_ble_eq_true rfl) (q := 107) rfl (fun r104 g104 h104 => ?_)
    obtain ⟨rfl, rfl⟩ := And.intro h104.1.symm h104.2.symm
    refine pp_iload dX4_stands_107 rfl (q := 109) rfl ?_
    refine pp_icmp_ne (tgt := 140) dX4_stands_109 (by decide) (q := 112) rfl (fun c109 => ?_) (fun c109 => ?_)
    · refine pp_iconst dX4_stands_140 ci_0 (q := 141) rfl ?_
      refine ri_ret dX4_stands_141 rfl (by decide) ?_
      refine ⟨isB_0 (fun q => ?_), rfl⟩
      obtain ⟨q1, ⟨j', hj', q2, q3, q4⟩, -⟩ := q
      rw [cl_nI hlb, hpo] at hj'
      obtain rfl := Option.some.inj hj'
      rw [cl_nI hlb, hp.2.2.1, cl_nI hsb] at q2 q3 q4
      first | exact c137 (q4.trans hkp.symm) | exact c123 q3 | exact c109 q2 | exact isB_f hb86 c89 q1
    · refine pp_aload_n dX4_stands_112 rfl isRf_r (q := 113) rfl ?_
      refine pp_iload dX4_stands_113 rfl (q := 115) rfl ?_
      refine pp_iload dX4_stands_115 rfl (q := 117) rfl ?_
      refine pp_iconst dX4_stands_117 ci_2 (q := 118) rfl ?_
      refine ps_callVi dX4_stands_118 lk_X4_33 (by exact hw) (by rfl) (by rfl) (by rfl) (c_ofPiece (c := 2) (by exact hw) hB hp hjk (by decide)) (by rfl) (by exact Nat.le_of_ble_eq_true rfl) (by decide) (by decide) (by exact Nat.le_of_ble_eq_true rfl) (q := 121) rfl (fun r118 g118 h118 => ?_)
      obtain ⟨rfl, rfl⟩ := And.intro h118.1.symm h118.2.symm
      refine pp_iload dX4_stands_121 rfl (q := 123) rfl ?_
      refine pp_icmp_ne (tgt := 140) dX4_stands_123 (by decide) (q := 126) rfl (fun c123 => ?_) (fun c123 => ?_)
      · refine pp_iconst dX4_stands_140 ci_0 (q := 141) rfl ?_
        refine ri_ret dX4_stands_141 rfl (by decide) ?_
        refine ⟨isB_0 (fun q => ?_), rfl⟩
        obtain ⟨q1, ⟨j', hj', q2, q3, q4⟩, -⟩ := q
        rw [cl_nI hlb, hpo] at hj'
        obtain rfl := Option.some.inj hj'
        rw [cl_nI hlb, hp.2.2.1, cl_nI hsb] at q2 q3 q4
        first | exact c137 (q4.trans hkp.symm) | exact c123 q3 | exact c109 q2 | exact isB_f hb86 c89 q1
      · refine pp_aload_n dX4_stands_126 rfl isRf_r (q := 127) rfl ?_
        refine pp_iload dX4_stands_127 rfl (q := 129) rfl ?_
        refine pp_iload dX4_stands_129 rfl (q := 131) rfl ?_
        refine pp_iconst dX4_stands_131 ci_3 (q := 132) rfl ?_
        refine ps_callVi dX4_stands_132 lk_X4_33 (by exact hw) (by rfl) (by rfl) (by rfl) (c_ofPiece (c := 3) (by exact hw) hB hp hjk (by decide)) (by rfl) (by exact Nat.le_of_ble_eq_true rfl) (by decide) (by decide) (by exact Nat.le_of_ble_eq_true rfl) (q := 135) rfl (fun r132 g132 h132 => ?_)
        obtain ⟨rfl, rfl⟩ := And.intro h132.1.symm h132.2.symm
        refine pp_iload dX4_stands_135 rfl (q := 137) rfl ?_
        refine pp_icmp_eq (tgt := 142) dX4_stands_137 (by decide) (q := 140) rfl (fun c137 => ?_) (fun c137 => ?_)
        · have hy2 := isB_t hb86 c89
          refine pp_aload_n dX4_stands_142 rfl isRf_r (q := 143) rfl ?_
          refine pp_iload dX4_stands_143 rfl (q := 145) rfl ?_
          refine pp_iconst dX4_stands_145 ci_1 (q := 146) rfl ?_
          refine ps_callVi dX4_stands_146 lk_X4_47 (by exact hw) (by rfl) (by rfl) (by rfl) (c_ofLetter (c := 1) (by exact hw) hB hp.1 (by decide)) (by rfl) (by exact Nat.le_of_ble_eq_true rfl) (by decide) (by decide) (by exact Nat.le_of_ble_eq_true rfl) (q := 149) rfl (fun r146 g146 h146 => ?_)
          obtain ⟨rfl, rfl⟩ := And.intro h146.1.symm h146.2.symm
          refine pp_istore dX4_stands_149 (by decide) (ls1_6 (nl1 rfl)) (q := 151) rfl ?_
          refine pp_iinc dX4_stands_151 rfl (nI_1 _) (ls1_7 (nl1 rfl)) (q := 154) rfl ?_
          refine pp_goto (tgt := 6) dX4_stands_154 (by decide) ?_
          refine (hk _ _ _).weak (fun r G hG => ?_)
          obtain ⟨g', k1, u, k2, k3, k4⟩ := hG
          refine ⟨g', k1, u, k2, ?_, k4⟩
          have e : stW B x kind term rc (nI l :: Yr) ↔ stW B x kind term (bl B l 1) Yr := by
            constructor
            · intro q
              have := q.2.2
              rw [cl_nI hlb] at this
              exact this
            · intro q
              refine ⟨hy2, ⟨j, ?_, ?_⟩, ?_⟩
              · rw [cl_nI hlb]; exact hpo
              · rw [cl_nI hlb, hp.2.2.1, cl_nI hsb]; exact ⟨c109, c123, c137.trans hkp⟩
              · rw [cl_nI hlb]; exact q
          unfold isB
          rw [e]
          exact k3
        · refine pp_iconst dX4_stands_140 ci_0 (q := 141) rfl ?_
          refine ri_ret dX4_stands_141 rfl (by decide) ?_
          refine ⟨isB_0 (fun q => ?_), rfl⟩
          obtain ⟨q1, ⟨j', hj', q2, q3, q4⟩, -⟩ := q
          rw [cl_nI hlb, hpo] at hj'
          obtain rfl := Option.some.inj hj'
          rw [cl_nI hlb, hp.2.2.1, cl_nI hsb] at q2 q3 q4
          first | exact c137 (q4.trans hkp.symm) | exact c123 q3 | exact c109 q2 | exact isB_f hb86 c89 q1
theorem l_std {ad : Nm → Nat} {g : Sg} {w : Nat} {m x kind term : Int32} {B : Bk} {Y : List Int32} (hw : al g (10, w, 0)) (hB : RB g w B) (hR : RY g Y) (hlt : okLt B) : ∀ (n i : Nat) (rc : Int32), Y.length - i < n → i ≤ Y.length → ∀ a b c, PS mX4_stands 6 [some (.ref (ad (3, 0, 0))), some (.ref (ad (13, w, 0))), some (.int m), some (.int x), some (.int kind), some (.int term), some (.int rc), some (.int (nI i)), a, b, c] [] ad g (Ri (fun r g' => isB r (stW B x kind term rc (Y.drop i)) ∧ g' = g)) := by
  intro n
  induction n with
  | zero => intro i rc h; omega
  | succ n ih =>
    intro i rc hij hik a b c
    by_cases e : i = Y.length
    · subst e
      refine pp_iload dX4_stands_6 rfl (q := 8) rfl ?_
      refine pp_aload_n dX4_stands_8 rfl isRf_r (q := 9) rfl ?_
      refine ps_get dX4_stands_9 fl_X4_15 hR.1 rfl rfl (q := 12) rfl ?_
      rw [hR.2.1]
      refine pp_icmp_ge (tgt := 157) dX4_stands_12 (by decide) (q := 15) rfl (fun _ => ?_) (fun c => absurd (nI_le (Nat.le_refl _) (by have := hR.2.2; omega)) c)
      refine pp_iconst dX4_stands_157 ci_1 (q := 158) rfl ?_
      refine ri_ret dX4_stands_158 rfl (by decide) ⟨isB_1 ?_, rfl⟩
      rw [List.drop_length]
      trivial
    · have hi : i < Y.length := by omega
      obtain ⟨v, hv⟩ : ∃ v, Y[i]? = some v := ⟨Y[i], List.getElem?_eq_getElem hi⟩
      rw [drop_consI hv]
      have main : ∀ kp, kp = (Y.drop (i + 1)).headD (-1) → ∀ z, PS mX4_stands 72 [some (.ref (ad (3, 0, 0))), some (.ref (ad (13, w, 0))), some (.int m), some (.int x), some (.int kind), some (.int term), some (.int rc), some (.int (nI i)), some (.int v), some (.int kp), z] [] ad g (Ri (fun r g' => isB r (stW B x kind term rc (v :: Y.drop (i + 1))) ∧ g' = g)) := by
        intro kp hkp z
        by_cases hl : ∃ l, l < bL B ∧ v = nI l
        · obtain ⟨l, hl, rfl⟩ := hl
          obtain ⟨k, s, hp⟩ := hlt l hl
          have hb := hB.bd
          cases hpo : pcO B l x with
          | none => exact t_stdN hw hB hR.1 hkp hp (by omega) hpo
          | some j =>
            have hjk : j < k := by
              have h2 := hpo
              rw [pcO_k hb.2 hp] at h2
              have := (fnd_some h2).2.1
              omega
            exact t_stdS hw hB hR.1 hkp hp (by omega) (by have := hp.2.2.2; omega) hpo hjk (ih (i + 1) _ (by omega) (by omega))
        · have hb := hB.bd
          have hv2 : v < 0 ∨ nI (bL B) ≤ v := by
            by_cases h0 : v < 0
            · exact Or.inl h0
            · by_cases h1 : nI (bL B) ≤ v
              · exact Or.inr h1
              · obtain ⟨j, hj, e⟩ := nI_ex h0 (Int32.not_le.mp h1) (by omega)
                exact absurd ⟨j, hj, e⟩ hl
          exact t_stdO hw hB hR.1 hkp hl hv2
      by_cases hi2 : i + 1 < Y.length
      · obtain ⟨u, hu⟩ : ∃ u, Y[i + 1]? = some u := ⟨Y[i + 1], List.getElem?_eq_getElem hi2⟩
        exact s_stdA hw hB hR hv hi hi2 hu (main u (headD_drop hu).symm _)
      · exact s_stdB hw hB hR hv hi (by omega) (main (-1) (headD_end (by omega)).symm _)
set_option maxRecDepth 20000 in
set_option maxHeartbeats 4000000 in
theorem c_stands {ad : Nm → Nat} {g : Sg} {w : Nat} {m x kind term : Int32} {B : Bk} {Y : List Int32} (hw : al g (10, w, 0)) (hB : RB g w B) (hR : RY g Y) (hlt : okLt B) : PS mX4_stands 0 (ent mX4_stands [.ref (ad (3, 0, 0)), .ref (ad (13, w, 0)), .int m, .int x, .int kind, .int term]) [] ad g (Ri (fun r g' => isB r (stW B x kind term m Y) ∧ g' = g)) := by
  show PP mX4_stands 0 [some (.ref (ad (3, 0, 0))), some (.ref (ad (13, w, 0))), some (.int m), some (.int x), some (.int kind), some (.int term), none, none, none, none, none] [] (Rel ad g) _
  refine pp_iload_n dX4_stands_0 rfl (q := 1) rfl ?_
  refine pp_istore dX4_stands_1 (by decide) (ls1_6 (nl1 rfl)) (q := 3) rfl ?_
  refine pp_iconst dX4_stands_3 ci_0 (q := 4) rfl ?_
  refine pp_istore dX4_stands_4 (by decide) (ls1_7 (nl1 rfl)) (q := 6) rfl ?_
  have := l_std (ad := ad) (x := x) (kind := kind) (term := term) (m := m) hw hB hR hlt (Y.length + 1) 0 m (by omega) (by omega)
  rw [List.drop_zero] at this
  exact this _ _ _
/-! refusals -/
def isW (k : Nat) : Prop := 2 ≤ k ∧ k ≤ 10
def keG (g : Sg) (k : Nat) (why : Int32) : Sg := sI (sA g (2, 0, 0) (upd (gA g (2, 0, 0)) k (gA g (2, 0, 0) k + nI 1))) (1, 0, 0) 1 why
theorem neg_k : ∀ k : Fin 11, - (- nI k.val) = nI k.val ∧ (k.val < 2 ∨ (¬ (-2 : Int32) < - nI k.val ∧ ¬ - nI k.val < -10)) := by decide
set_option maxRecDepth 20000 in
set_option maxHeartbeats 4000000 in
theorem c_keep {ad : Nm → Nat} {g : Sg} {k : Nat} (hr : al g (1, 0, 0)) (hk : isW k) : PS mX2_keep 0 (ent mX2_keep [.ref (ad (1, 0, 0)), .int (- nI k)]) [] ad g (Rv (fun g' => g' = keG g k (- nI k))) := by
  obtain ⟨h3, h12⟩ := neg_k ⟨k, by have := hk.2; omega⟩
  obtain ⟨h1, h2⟩ := h12.resolve_left (fun q => by have : k < 2 := q; have := hk.1; omega)
  dsimp only at h1 h2 h3
  show PP mX2_keep 0 [some (.ref (ad (1, 0, 0))), some (.int (- nI k))] [] (Rel ad g) _
  refine pp_iload_n dX2_keep_0 rfl (q := 1) rfl ?_
  refine pp_bipush dX2_keep_1 cb_m2 (q := 3) rfl ?_
  refine pp_icmp_gt (tgt := 28) dX2_keep_3 (by decide) (q := 6) rfl (fun c3 => absurd c3 h1) (fun c3 => ?_)
  refine pp_iload_n dX2_keep_6 rfl (q := 7) rfl ?_
  refine pp_bipush dX2_keep_7 cb_m10 (q := 9) rfl ?_
  refine pp_icmp_lt (tgt := 28) dX2_keep_9 (by decide) (q := 12) rfl (fun c9 => absurd c9 h2) (fun c9 => ?_)
  refine pp_aload_n dX2_keep_12 rfl isRf_r (q := 13) rfl ?_
  refine ps_get dX2_keep_13 fl_X2_9 hr rfl rfl (q := 16) rfl ?_
  refine pp_iload_n dX2_keep_16 rfl (q := 17) rfl ?_
  refine pp_ineg dX2_keep_17 (q := 18) rfl ?_
  rw [h3]
  refine pp_dup2 dX2_keep_18 rfl rfl (q := 19) rfl ?_
  refine ps_iald (j := k) dX2_keep_19 hr rfl rfl (by have := hk.2; omega) (by decide) (q := 20) rfl ?_
  refine pp_iconst dX2_keep_20 ci_1 (q := 21) rfl ?_
  refine pp_iadd dX2_keep_21 (q := 22) rfl ?_
  refine ps_iast (j := k) dX2_keep_22 hr (fun _ => rfl) rfl (by have := hk.2; omega) (by decide) (q := 23) rfl ?_
  refine pp_aload_n dX2_keep_23 rfl isRf_r (q := 24) rfl ?_
  refine pp_iload_n dX2_keep_24 rfl (q := 25) rfl ?_
  refine ps_puti dX2_keep_25 fl_X2_15 hr rfl (by exact Nat.le_of_ble_eq_true rfl) rfl rfl rfl (q := 28) rfl ?_
  refine rv_ret dX2_keep_28 rfl ?_
  exact rfl
set_option maxRecDepth 20000 in
set_option maxHeartbeats 4000000 in
theorem c_throw {ad : Nm → Nat} {g : Sg} (hr : al g (1, 0, 0)) : PS mX2_throwLatest 0 (ent mX2_throwLatest [.ref (ad (1, 0, 0))]) [] ad g (Ri (fun v g' => v = gI g (1, 0, 0) 1 ∧ g' = sI g (1, 0, 0) 1 (-7))) := by
  show PP mX2_throwLatest 0 [some (.ref (ad (1, 0, 0))), none] [] (Rel ad g) _
  refine pp_aload_n dX2_throwLatest_0 rfl isRf_r (q := 1) rfl ?_
  refine ps_get dX2_throwLatest_1 fl_X2_15 hr rfl rfl (q := 4) rfl ?_
  refine pp_istore_n dX2_throwLatest_4 (by decide) (ls1_1 (nl1 rfl)) (q := 5) rfl ?_
  refine pp_aload_n dX2_throwLatest_5 rfl isRf_r (q := 6) rfl ?_
  refine pp_bipush dX2_throwLatest_6 cb_m7 (q := 8) rfl ?_
  refine ps_puti dX2_throwLatest_8 fl_X2_15 hr rfl (by exact Nat.le_of_ble_eq_true rfl) rfl rfl rfl (q := 11) rfl ?_
  refine pp_iload_n dX2_throwLatest_11 rfl (q := 12) rfl ?_
  refine ri_ret dX2_throwLatest_12 rfl rfl ?_
  exact ⟨rfl, rfl⟩
