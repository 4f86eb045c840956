theorem lgc_eq {x y : Int64} (h : x = y) : lg_cmp x y = 0 := by
  subst h
  unfold lg_cmp
  rw [if_neg (Int64.lt_irrefl), if_pos rfl]
theorem sn_le {a b : Nat} (h : a ≤ b) (hb : b < 2 ^ 31) : ¬ nI b < nI a := fun q => by
  have := ltT q hb (by omega)
  omega
set_option maxRecDepth 20000 in
set_option maxHeartbeats 4000000 in
theorem l_sameN {ad : Nm → Nat} {g : Sg} {a b : Nm} {n k1 k2 : Nat} (ha : al g a) (hb : al g b) (hca : cell ad g a = .inl (0, k1, .inl (gA g a))) (hcb : cell ad g b = .inl (0, k2, .inl (gA g b))) (h1 : n ≤ k1) (h2 : n ≤ k2) (hk1 : k1 < 2 ^ 31) (hk2 : k2 < 2 ^ 31) (he : ∀ i, i < n → gA g a i = gA g b i) : ∀ (j i : Nat), n - i < j → i ≤ n → PS mX6_sameNumbers 16 [some (.ref (ad a)), some (.ref (ad b)), some (.int (nI n)), some (.int (nI i))] [] ad g (Ri (fun v g' => v = nI 1 ∧ g' = g)) := by
  intro j
  induction j with
  | zero => intro i h; omega
  | succ j ih =>
    intro i hij hik
    refine pp_iload_n dX6_sameNumbers_16 rfl (q := 17) rfl ?_
    refine pp_iload_n dX6_sameNumbers_17 rfl (q := 18) rfl ?_
    refine pp_icmp_ge (tgt := 38) dX6_sameNumbers_18 (by decide) (q := 21) rfl (fun c18 => ?_) (fun c18 => ?_)
    · have e : i = n := by have := leT c18 (by omega) (by omega); omega
      subst e
      refine pp_iconst dX6_sameNumbers_38 ci_1 (q := 39) rfl ?_
      exact ri_ret dX6_sameNumbers_39 rfl (by decide) ⟨rfl, rfl⟩
    · have hlt := leF c18 (by omega) (by omega)
      refine pp_aload_n dX6_sameNumbers_21 rfl isRf_r (q := 22) rfl ?_
      refine pp_iload_n dX6_sameNumbers_22 rfl (q := 23) rfl ?_
      refine ps_iald dX6_sameNumbers_23 ha hca rfl (by omega) (by omega) (q := 24) rfl ?_
      refine pp_aload_n dX6_sameNumbers_24 rfl isRf_r (q := 25) rfl ?_
      refine pp_iload_n dX6_sameNumbers_25 rfl (q := 26) rfl ?_
      refine ps_iald dX6_sameNumbers_26 hb hcb rfl (by omega) (by omega) (q := 27) rfl ?_
      refine pp_icmp_eq (tgt := 32) dX6_sameNumbers_27 (by decide) (q := 30) rfl (fun c27 => ?_) (fun c27 => absurd (he i hlt) c27)
      refine pp_iinc dX6_sameNumbers_32 rfl (nI_1 _) (ls1_3 (nl1 rfl)) (q := 35) rfl ?_
      refine pp_goto (tgt := 16) dX6_sameNumbers_35 (by decide) ?_
      exact ih (i + 1) (by omega) (by omega)
set_option maxRecDepth 20000 in
set_option maxHeartbeats 4000000 in
theorem c_sameN {ad : Nm → Nat} {g : Sg} {a b : Nm} {n k1 k2 : Nat} (ha : al g a) (hb : al g b) (hca : cell ad g a = .inl (0, k1, .inl (gA g a))) (hcb : cell ad g b = .inl (0, k2, .inl (gA g b))) (h1 : n ≤ k1) (h2 : n ≤ k2) (hk1 : k1 < 2 ^ 31) (hk2 : k2 < 2 ^ 31) (he : ∀ i, i < n → gA g a i = gA g b i) : PS mX6_sameNumbers 0 (ent mX6_sameNumbers [.ref (ad a), .ref (ad b), .int (nI n)]) [] ad g (Ri (fun v g' => v = nI 1 ∧ g' = g)) := by
  show PP mX6_sameNumbers 0 [some (.ref (ad a)), some (.ref (ad b)), some (.int (nI n)), none] [] (Rel ad g) _
  refine pp_iload_n dX6_sameNumbers_0 rfl (q := 1) rfl ?_
  refine pp_aload_n dX6_sameNumbers_1 rfl isRf_r (q := 2) rfl ?_
  refine ps_alen dX6_sameNumbers_2 ha hca (by decide) (q := 3) rfl ?_
  refine pp_icmp_gt (tgt := 12) dX6_sameNumbers_3 (by decide) (q := 6) rfl (fun c3 => absurd c3 (sn_le h1 hk1)) (fun c3 => ?_)
  refine pp_iload_n dX6_sameNumbers_6 rfl (q := 7) rfl ?_
  refine pp_aload_n dX6_sameNumbers_7 rfl isRf_r (q := 8) rfl ?_
  refine ps_alen dX6_sameNumbers_8 hb hcb (by decide) (q := 9) rfl ?_
  refine pp_icmp_le (tgt := 14) dX6_sameNumbers_9 (by decide) (q := 12) rfl (fun c9 => ?_) (fun c9 => absurd (nI_le h2 hk2) c9)
  refine pp_iconst dX6_sameNumbers_14 ci_0 (q := 15) rfl ?_
  refine pp_istore_n dX6_sameNumbers_15 (by decide) (ls1_3 (nl1 rfl)) (q := 16) rfl ?_
  exact l_sameN ha hb hca hcb h1 h2 hk1 hk2 he (n + 1) 0 (by omega) (by omega)
set_option maxRecDepth 20000 in
set_option maxHeartbeats 4000000 in
theorem c_sameM {ad : Nm → Nat} {g : Sg} {w w' m : Nat} {M : Me} (hM : RM g w m M) (hN : RM g w' m M) : PS mX1_sameAs 0 (ent mX1_sameAs [.ref (ad (30, w, m)), .ref (ad (30, w', m))]) [] ad g (Ri (fun v g' => v = nI 1 ∧ g' = g)) := by
  obtain ⟨n, c1, c2, c3⟩ := hM.2.2.2.2.1
  obtain ⟨n2, d1, d2, d3⟩ := hN.2.2.2.2.1
  obtain rfl : n2 = n := eqT (d1.symm.trans c1) (by omega) (by omega)
  show PP mX1_sameAs 0 [some (.ref (ad (30, w, m))), some (.ref (ad (30, w', m)))] [] (Rel ad g) _
  refine pp_aload_n dX1_sameAs_0 rfl isRf_r (q := 1) rfl ?_
  refine ps_get dX1_sameAs_1 fl_X1_38 hM.1 rfl rfl (q := 4) rfl ?_
  refine pp_aload_n dX1_sameAs_4 rfl isRf_r (q := 5) rfl ?_
  refine ps_get dX1_sameAs_5 fl_X1_38 hN.1 rfl rfl (q := 8) rfl ?_
  refine pp_icmp_ne (tgt := 191) dX1_sameAs_8 (by decide) (q := 11) rfl (fun c8 => absurd ((hM.sc sl2).trans (hN.sc sl2).symm) c8) (fun c8 => ?_)
  refine pp_aload_n dX1_sameAs_11 rfl isRf_r (q := 12) rfl ?_
  refine ps_get dX1_sameAs_12 fl_X1_41 hM.1 rfl rfl (q := 15) rfl ?_
  refine pp_aload_n dX1_sameAs_15 rfl isRf_r (q := 16) rfl ?_
  refine ps_get dX1_sameAs_16 fl_X1_41 hN.1 rfl rfl (q := 19) rfl ?_
  refine pp_lcmp dX1_sameAs_19 (q := 20) rfl ?_
  refine pp_if_ne (tgt := 191) dX1_sameAs_20 (by decide) (q := 23) rfl (fun c20 => absurd (lgc_eq (hM.2.2.1.trans hN.2.2.1.symm)) c20) (fun c20 => ?_)
  refine pp_aload_n dX1_sameAs_23 rfl isRf_r (q := 24) rfl ?_
  refine ps_get dX1_sameAs_24 fl_X1_45 hM.1 rfl rfl (q := 27) rfl ?_
  refine pp_aload_n dX1_sameAs_27 rfl isRf_r (q := 28) rfl ?_
  refine ps_get dX1_sameAs_28 fl_X1_45 hN.1 rfl rfl (q := 31) rfl ?_
  refine pp_icmp_ne (tgt := 191) dX1_sameAs_31 (by decide) (q := 34) rfl (fun c31 => absurd ((hM.sc sl4).trans (hN.sc sl4).symm) c31) (fun c31 => ?_)
  refine pp_aload_n dX1_sameAs_34 rfl isRf_r (q := 35) rfl ?_
  refine ps_get dX1_sameAs_35 fl_X1_48 hM.1 rfl rfl (q := 38) rfl ?_
  refine pp_aload_n dX1_sameAs_38 rfl isRf_r (q := 39) rfl ?_
  refine ps_get dX1_sameAs_39 fl_X1_48 hN.1 rfl rfl (q := 42) rfl ?_
  refine pp_icmp_ne (tgt := 191) dX1_sameAs_42 (by decide) (q := 45) rfl (fun c42 => absurd ((hM.sc sl5).trans (hN.sc sl5).symm) c42) (fun c42 => ?_)
  refine pp_aload_n dX1_sameAs_45 rfl isRf_r (q := 46) rfl ?_
  refine ps_get dX1_sameAs_46 fl_X1_67 hM.1 rfl rfl (q := 49) rfl ?_
  refine pp_aload_n dX1_sameAs_49 rfl isRf_r (q := 50) rfl ?_
  refine ps_get dX1_sameAs_50 fl_X1_67 hN.1 rfl rfl (q := 53) rfl ?_
  refine pp_icmp_ne (tgt := 191) dX1_sameAs_53 (by decide) (q := 56) rfl (fun c53 => absurd ((hM.sc sl6).trans (hN.sc sl6).symm) c53) (fun c53 => ?_)
  refine pp_aload_n dX1_sameAs_56 rfl isRf_r (q := 57) rfl ?_
  refine ps_get dX1_sameAs_57 fl_X1_70 hM.1 rfl rfl (q := 60) rfl ?_
  refine pp_aload_n dX1_sameAs_60 rfl isRf_r (q := 61) rfl ?_
  refine ps_get dX1_sameAs_61 fl_X1_70 hN.1 rfl rfl (q := 64) rfl ?_
  refine pp_icmp_ne (tgt := 191) dX1_sameAs_64 (by decide) (q := 67) rfl (fun c64 => absurd ((hM.sc sl7).trans (hN.sc sl7).symm) c64) (fun c64 => ?_)
  refine pp_aload_n dX1_sameAs_67 rfl isRf_r (q := 68) rfl ?_
  refine ps_get dX1_sameAs_68 fl_X1_73 hM.1 rfl rfl (q := 71) rfl ?_
  refine pp_aload_n dX1_sameAs_71 rfl isRf_r (q := 72) rfl ?_
  refine ps_get dX1_sameAs_72 fl_X1_73 hN.1 rfl rfl (q := 75) rfl ?_
  refine pp_icmp_ne (tgt := 191) dX1_sameAs_75 (by decide) (q := 78) rfl (fun c75 => absurd ((hM.sc sl14).trans (hN.sc sl14).symm) c75) (fun c75 => ?_)
  refine pp_aload_n dX1_sameAs_78 rfl isRf_r (q := 79) rfl ?_
  refine ps_get dX1_sameAs_79 fl_X1_76 hM.1 rfl rfl (q := 82) rfl ?_
  refine pp_aload_n dX1_sameAs_82 rfl isRf_r (q := 83) rfl ?_
  refine ps_get dX1_sameAs_83 fl_X1_76 hN.1 rfl rfl (q := 86) rfl ?_
  refine pp_icmp_ne (tgt := 191) dX1_sameAs_86 (by decide) (q := 89) rfl (fun c86 => absurd ((hM.sc sl15).trans (hN.sc sl15).symm) c86) (fun c86 => ?_)
  refine pp_aload_n dX1_sameAs_89 rfl isRf_r (q := 90) rfl ?_
  refine ps_get dX1_sameAs_90 fl_X1_35 hM.1 rfl rfl (q := 93) rfl ?_
  refine pp_aload_n dX1_sameAs_93 rfl isRf_r (q := 94) rfl ?_
  refine ps_get dX1_sameAs_94 fl_X1_35 hN.1 rfl rfl (q := 97) rfl ?_
  refine pp_aload_n dX1_sameAs_97 rfl isRf_r (q := 98) rfl ?_
  refine ps_get dX1_sameAs_98 fl_X1_73 hM.1 rfl rfl (q := 101) rfl ?_
  rw [(hM.sc sl14).trans c1]
  refine ps_callNi dX1_sameAs_101 lk_X1_141 (by rfl) (c_sameN (k1 := 64) (k2 := 64) (by exact hM.1) (by exact hN.1) rfl rfl c2 c2 (by decide) (by decide) (fun i hi => (c3 i hi).trans (d3 i hi).symm)) (by rfl) (by exact Nat.le_of_ble_eq_true rfl) (by decide) (by decide) (by exact Nat.le_of_ble_eq_true rfl) (q := 104) rfl (fun r101 g101 h101 => ?_)
  obtain ⟨rfl, rfl⟩ := And.intro h101.1.symm h101.2.symm
  refine pp_if_eq (tgt := 191) dX1_sameAs_104 (by decide) (q := 107) rfl (fun c104 => absurd c104 nI1_ne) (fun c104 => ?_)
  refine pp_aload_n dX1_sameAs_107 rfl isRf_r (q := 108) rfl ?_
  refine ps_get dX1_sameAs_108 fl_X1_19 hM.1 rfl rfl (q := 111) rfl ?_
  refine pp_aload_n dX1_sameAs_111 rfl isRf_r (q := 112) rfl ?_
  refine ps_get dX1_sameAs_112 fl_X1_19 hN.1 rfl rfl (q := 115) rfl ?_
  refine pp_bipush dX1_sameAs_115 cb_64 (q := 117) rfl ?_
  refine ps_callNi dX1_sameAs_117 lk_X1_141 (by rfl) (c_sameN (k1 := 64) (k2 := 64) (by exact hM.1) (by exact hN.1) rfl rfl (Nat.le_refl _) (Nat.le_refl _) (by decide) (by decide) (fun i _ => by rw [hM.ar (k := 31) (by omega) (by omega), hN.ar (k := 31) (by omega) (by omega)])) (by rfl) (by exact Nat.le_of_ble_eq_true rfl) (by decide) (by decide) (by exact Nat.le_of_ble_eq_true rfl) (q := 120) rfl (fun r117 g117 h117 => ?_)
  obtain ⟨rfl, rfl⟩ := And.intro h117.1.symm h117.2.symm
  refine pp_if_eq (tgt := 191) dX1_sameAs_120 (by decide) (q := 123) rfl (fun c120 => absurd c120 nI1_ne) (fun c120 => ?_)
  refine pp_aload_n dX1_sameAs_123 rfl isRf_r (q := 124) rfl ?_
  refine ps_get dX1_sameAs_124 fl_X1_23 hM.1 rfl rfl (q := 127) rfl ?_
  refine pp_aload_n dX1_sameAs_127 rfl isRf_r (q := 128) rfl ?_
  refine ps_get dX1_sameAs_128 fl_X1_23 hN.1 rfl rfl (q := 131) rfl ?_
  refine pp_bipush dX1_sameAs_131 cb_64 (q := 133) rfl ?_
  refine ps_callNi dX1_sameAs_133 lk_X1_141 (by rfl) (c_sameN (k1 := 64) (k2 := 64) (by exact hM.1) (by exact hN.1) rfl rfl (Nat.le_refl _) (Nat.le_refl _) (by decide) (by decide) (fun i _ => by rw [hM.ar (k := 32) (by omega) (by omega), hN.ar (k := 32) (by omega) (by omega)])) (by rfl) (by exact Nat.le_of_ble_eq_true rfl) (by decide) (by decide) (by exact Nat.le_of_ble_eq_true rfl) (q := 136) rfl (fun r133 g133 h133 => ?_)
  obtain ⟨rfl, rfl⟩ := And.intro h133.1.symm h133.2.symm
  refine pp_if_eq (tgt := 191) dX1_sameAs_136 (by decide) (q := 139) rfl (fun c136 => absurd c136 nI1_ne) (fun c136 => ?_)
  refine pp_aload_n dX1_sameAs_139 rfl isRf_r (q := 140) rfl ?_
  refine ps_get dX1_sameAs_140 fl_X1_26 hM.1 rfl rfl (q := 143) rfl ?_
  refine pp_aload_n dX1_sameAs_143 rfl isRf_r (q := 144) rfl ?_
  refine ps_get dX1_sameAs_144 fl_X1_26 hN.1 rfl rfl (q := 147) rfl ?_
  refine pp_bipush dX1_sameAs_147 cb_64 (q := 149) rfl ?_
  refine ps_callNi dX1_sameAs_149 lk_X1_141 (by rfl) (c_sameN (k1 := 64) (k2 := 64) (by exact hM.1) (by exact hN.1) rfl rfl (Nat.le_refl _) (Nat.le_refl _) (by decide) (by decide) (fun i _ => by rw [hM.ar (k := 33) (by omega) (by omega), hN.ar (k := 33) (by omega) (by omega)])) (by rfl) (by exact Nat.le_of_ble_eq_true rfl) (by decide) (by decide) (by exact Nat.le_of_ble_eq_true rfl) (q := 152) rfl (fun r149 g149 h149 => ?_)
  obtain ⟨rfl, rfl⟩ := And.intro h149.1.symm h149.2.symm
  refine pp_if_eq (tgt := 191) dX1_sameAs_152 (by decide) (q := 155) rfl (fun c152 => absurd c152 nI1_ne) (fun c152 => ?_)
  refine pp_aload_n dX1_sameAs_155 rfl isRf_r (q := 156) rfl ?_
  refine ps_get dX1_sameAs_156 fl_X1_29 hM.1 rfl rfl (q := 159) rfl ?_
  refine pp_aload_n dX1_sameAs_159 rfl isRf_r (q := 160) rfl ?_
  refine ps_get dX1_sameAs_160 fl_X1_29 hN.1 rfl rfl (q := 163) rfl ?_
  refine pp_bipush dX1_sameAs_163 cb_64 (q := 165) rfl ?_
  refine ps_callNi dX1_sameAs_165 lk_X1_141 (by rfl) (c_sameN (k1 := 64) (k2 := 64) (by exact hM.1) (by exact hN.1) rfl rfl (Nat.le_refl _) (Nat.le_refl _) (by decide) (by decide) (fun i _ => by rw [hM.ar (k := 34) (by omega) (by omega), hN.ar (k := 34) (by omega) (by omega)])) (by rfl) (by exact Nat.le_of_ble_eq_true rfl) (by decide) (by decide) (by exact Nat.le_of_ble_eq_true rfl) (q := 168) rfl (fun r165 g165 h165 => ?_)
  obtain ⟨rfl, rfl⟩ := And.intro h165.1.symm h165.2.symm
  refine pp_if_eq (tgt := 191) dX1_sameAs_168 (by decide) (q := 171) rfl (fun c168 => absurd c168 nI1_ne) (fun c168 => ?_)
  refine pp_aload_n dX1_sameAs_171 rfl isRf_r (q := 172) rfl ?_
  refine ps_get dX1_sameAs_172 fl_X1_32 hM.1 rfl rfl (q := 175) rfl ?_
  refine pp_aload_n dX1_sameAs_175 rfl isRf_r (q := 176) rfl ?_
  refine ps_get dX1_sameAs_176 fl_X1_32 hN.1 rfl rfl (q := 179) rfl ?_
  refine pp_bipush dX1_sameAs_179 cb_64 (q := 181) rfl ?_
  refine ps_callNi dX1_sameAs_181 lk_X1_141 (by rfl) (c_sameN (k1 := 64) (k2 := 64) (by exact hM.1) (by exact hN.1) rfl rfl (Nat.le_refl _) (Nat.le_refl _) (by decide) (by decide) (fun i _ => by rw [hM.ar (k := 35) (by omega) (by omega), hN.ar (k := 35) (by omega) (by omega)])) (by rfl) (by exact Nat.le_of_ble_eq_true rfl) (by decide) (by decide) (by exact Nat.le_of_ble_eq_true rfl) (q := 184) rfl (fun r181 g181 h181 => ?_)
  obtain ⟨rfl, rfl⟩ := And.intro h181.1.symm h181.2.symm
  refine pp_if_eq (tgt := 191) dX1_sameAs_184 (by decide) (q := 187) rfl (fun c184 => absurd c184 nI1_ne) (fun c184 => ?_)
  refine pp_iconst dX1_sameAs_187 ci_1 (q := 188) rfl ?_
  refine pp_goto (tgt := 192) dX1_sameAs_188 (by decide) ?_
  refine ri_ret dX1_sameAs_192 rfl (by decide) ?_
  exact ⟨rfl, rfl⟩
theorem flat_eq {f f' : Nat → Int32} {n d : Nat} (hd : 0 < d) (h : ∀ i j, i < n → j < d → f (i * d + j) = f' (i * d + j)) : ∀ k, k < n * d → f k = f' k := by
  intro k hk
  have e : k / d * d + k % d = k := by rw [Nat.mul_comm]; exact Nat.div_add_mod k d
  have := h (k / d) (k % d) (by rw [Nat.div_lt_iff_lt_mul hd]; exact hk) (Nat.mod_lt _ hd)
  rw [e] at this
  exact this
set_option maxRecDepth 20000 in
set_option maxHeartbeats 4000000 in
theorem c_sameR {ad : Nm → Nat} {g : Sg} {w w' r n : Nat} (hr1 : al g (20, w, r)) (hr2 : al g (20, w', r)) (h1 : rOk g w r n) (h2 : rOk g w' r n) (he : ∀ i j, i < n → j < wdN r → rv g w r i j = rv g w' r i j) : PS mX3_sameAs 0 (ent mX3_sameAs [.ref (ad (20, w, r)), .ref (ad (20, w', r))]) [] ad g (Ri (fun v g' => v = nI 1 ∧ g' = g)) := by
  show PP mX3_sameAs 0 [some (.ref (ad (20, w, r))), some (.ref (ad (20, w', r)))] [] (Rel ad g) _
  refine pp_aload_n dX3_sameAs_0 rfl isRf_r (q := 1) rfl ?_
  refine ps_get dX3_sameAs_1 fl_X3_28 hr1 rfl rfl (q := 4) rfl ?_
  refine pp_aload_n dX3_sameAs_4 rfl isRf_r (q := 5) rfl ?_
  refine ps_get dX3_sameAs_5 fl_X3_28 hr2 rfl rfl (q := 8) rfl ?_
  refine pp_icmp_ne (tgt := 49) dX3_sameAs_8 (by decide) (q := 11) rfl (fun c8 => absurd (h1.2.1.trans h2.2.1.symm) c8) (fun c8 => ?_)
  refine pp_aload_n dX3_sameAs_11 rfl isRf_r (q := 12) rfl ?_
  refine ps_get dX3_sameAs_12 fl_X3_15 hr1 rfl rfl (q := 15) rfl ?_
  refine pp_aload_n dX3_sameAs_15 rfl isRf_r (q := 16) rfl ?_
  refine ps_get dX3_sameAs_16 fl_X3_15 hr2 rfl rfl (q := 19) rfl ?_
  refine pp_icmp_ne (tgt := 49) dX3_sameAs_19 (by decide) (q := 22) rfl (fun c19 => absurd rfl c19) (fun c19 => ?_)
  refine pp_aload_n dX3_sameAs_22 rfl isRf_r (q := 23) rfl ?_
  refine ps_get dX3_sameAs_23 fl_X3_24 hr1 rfl rfl (q := 26) rfl ?_
  refine pp_aload_n dX3_sameAs_26 rfl isRf_r (q := 27) rfl ?_
  refine ps_get dX3_sameAs_27 fl_X3_24 hr2 rfl rfl (q := 30) rfl ?_
  refine pp_aload_n dX3_sameAs_30 rfl isRf_r (q := 31) rfl ?_
  refine ps_get dX3_sameAs_31 fl_X3_28 hr1 rfl rfl (q := 34) rfl ?_
  rw [h1.2.1]
  refine pp_aload_n dX3_sameAs_34 rfl isRf_r (q := 35) rfl ?_
  refine ps_get dX3_sameAs_35 fl_X3_15 hr1 rfl rfl (q := 38) rfl ?_
  rw [wid_eq]
  refine pp_imul dX3_sameAs_38 (q := 39) rfl ?_
  rw [pk_mul]
  refine ps_callNi dX3_sameAs_39 lk_X3_50 (by rfl) (c_sameN (k1 := gN g (21, w, r)) (k2 := gN g (21, w', r)) (by exact al21 hr1) (by exact al21 hr2) rfl rfl h1.2.2.1 h2.2.2.1 (by have := h1.2.2.2; omega) (by have := h2.2.2.2; omega) (flat_eq (by have := wdN_b r; omega) he)) (by rfl) (by exact Nat.le_of_ble_eq_true rfl) (by decide) (by decide) (by exact Nat.le_of_ble_eq_true rfl) (q := 42) rfl (fun r39 g39 h39 => ?_)
  obtain ⟨rfl, rfl⟩ := And.intro h39.1.symm h39.2.symm
  refine pp_if_eq (tgt := 49) dX3_sameAs_42 (by decide) (q := 45) rfl (fun c42 => absurd c42 nI1_ne) (fun c42 => ?_)
  refine pp_iconst dX3_sameAs_45 ci_1 (q := 46) rfl ?_
  refine pp_goto (tgt := 50) dX3_sameAs_46 (by decide) ?_
  refine ri_ret dX3_sameAs_50 rfl (by decide) ?_
  exact ⟨rfl, rfl⟩
set_option maxRecDepth 20000 in
set_option maxHeartbeats 4000000 in
theorem c_sameB {ad : Nm → Nat} {g : Sg} {w w' : Nat} {B : Bk} (hw : al g (10, w, 0)) (hw' : al g (10, w', 0)) (h1 : RB g w B) (h2 : RB g w' B) : PS mX0_sameAs 0 (ent mX0_sameAs [.ref (ad (13, w, 0)), .ref (ad (13, w', 0))]) [] ad g (Ri (fun v g' => v = nI 1 ∧ g' = g)) := by
  show PP mX0_sameAs 0 [some (.ref (ad (13, w, 0))), some (.ref (ad (13, w', 0)))] [] (Rel ad g) _
  refine pp_aload_n dX0_sameAs_0 rfl isRf_r (q := 1) rfl ?_
  refine ps_get dX0_sameAs_1 fl_X0_23 hw rfl rfl (q := 4) rfl ?_
  refine pp_aload_n dX0_sameAs_4 rfl isRf_r (q := 5) rfl ?_
  refine ps_get dX0_sameAs_5 fl_X0_23 hw' rfl rfl (q := 8) rfl ?_
  refine pp_icmp_ne (tgt := 54) dX0_sameAs_8 (by decide) (q := 11) rfl (fun c8 => absurd (h1.2.2.1.trans h2.2.2.1.symm) c8) (fun c8 => ?_)
  refine pp_aload_n dX0_sameAs_11 rfl isRf_r (q := 12) rfl ?_
  refine ps_get dX0_sameAs_12 fl_X0_27 hw rfl rfl (q := 15) rfl ?_
  refine pp_aload_n dX0_sameAs_15 rfl isRf_r (q := 16) rfl ?_
  refine ps_get dX0_sameAs_16 fl_X0_27 hw' rfl rfl (q := 19) rfl ?_
  refine pp_icmp_ne (tgt := 54) dX0_sameAs_19 (by decide) (q := 22) rfl (fun c19 => absurd (h1.2.2.2.1.trans h2.2.2.2.1.symm) c19) (fun c19 => ?_)
  refine pp_aload_n dX0_sameAs_22 rfl isRf_r (q := 23) rfl ?_
  refine ps_get dX0_sameAs_23 fl_X0_14 hw rfl rfl (q := 26) rfl ?_
  refine pp_aload_n dX0_sameAs_26 rfl isRf_r (q := 27) rfl ?_
  refine ps_get dX0_sameAs_27 fl_X0_14 hw' rfl rfl (q := 30) rfl ?_
  refine ps_callVi dX0_sameAs_30 lk_X0_72 (by exact hw) (by rfl) (by rfl) (by rfl) (c_sameR (by exact hw) (by exact hw') h1.1 h2.1 (fun i j hi hj => (h1.2.2.2.2.1 i j hi hj).trans (h2.2.2.2.2.1 i j hi hj).symm)) (by rfl) (by exact Nat.le_of_ble_eq_true rfl) (by decide) (by decide) (by exact Nat.le_of_ble_eq_true rfl) (q := 33) rfl (fun r30 g30 h30 => ?_)
  obtain ⟨rfl, rfl⟩ := And.intro h30.1.symm h30.2.symm
  refine pp_if_eq (tgt := 54) dX0_sameAs_33 (by decide) (q := 36) rfl (fun c33 => absurd c33 nI1_ne) (fun c33 => ?_)
  refine pp_aload_n dX0_sameAs_36 rfl isRf_r (q := 37) rfl ?_
  refine ps_get dX0_sameAs_37 fl_X0_20 hw rfl rfl (q := 40) rfl ?_
  refine pp_aload_n dX0_sameAs_40 rfl isRf_r (q := 41) rfl ?_
  refine ps_get dX0_sameAs_41 fl_X0_20 hw' rfl rfl (q := 44) rfl ?_
  refine ps_callVi dX0_sameAs_44 lk_X0_72 (by exact hw) (by rfl) (by rfl) (by rfl) (c_sameR (by exact hw) (by exact hw') h1.2.1 h2.2.1 (fun i j hi hj => (h1.2.2.2.2.2 i j hi hj).trans (h2.2.2.2.2.2 i j hi hj).symm)) (by rfl) (by exact Nat.le_of_ble_eq_true rfl) (by decide) (by decide) (by exact Nat.le_of_ble_eq_true rfl) (q := 47) rfl (fun r44 g44 h44 => ?_)
  obtain ⟨rfl, rfl⟩ := And.intro h44.1.symm h44.2.symm
  refine pp_if_eq (tgt := 54) dX0_sameAs_47 (by decide) (q := 50) rfl (fun c47 => absurd c47 nI1_ne) (fun c47 => ?_)
  refine pp_iconst dX0_sameAs_50 ci_1 (q := 51) rfl ?_
  refine pp_goto (tgt := 55) dX0_sameAs_51 (by decide) ?_
  refine ri_ret dX0_sameAs_55 rfl (by decide) ?_
  exact ⟨rfl, rfl⟩
set_option maxRecDepth 20000 in
set_option maxHeartbeats 4000000 in
theorem s_sameWm {ad : Nm → Nat} {g : Sg} {w w' i : Nat} {A : AW} {Q : Option Value → PH → Prop} (hA : RW g w A) (hB : RW g w' A) (hi : i < 64) (hd : mdA A i) (hk : ∀ x y, PP mX5_sameAs 2 [some (.ref (ad (10, w, 0))), some (.ref (ad (10, w', 0))), some (.int (nI (i + 1))), x, y] [] (Rel ad g) Q) (x y : Option Value) : PP mX5_sameAs 2 [some (.ref (ad (10, w, 0))), some (.ref (ad (10, w', 0))), some (.int (nI i)), x, y] [] (Rel ad g) Q := by
  refine pp_iload_n dX5_sameAs_2 rfl (q := 3) rfl ?_
  refine pp_bipush dX5_sameAs_3 cb_64 (q := 5) rfl ?_
  refine pp_icmp_ge (tgt := 87) dX5_sameAs_5 (by decide) (q := 8) rfl (fun c5 => absurd c5 (nI_ge hi (by decide))) (fun c5 => ?_)
  refine pp_aload_n dX5_sameAs_8 rfl isRf_r (q := 9) rfl ?_
  refine pp_iload_n dX5_sameAs_9 rfl (q := 10) rfl ?_
  refine ps_callVr dX5_sameAs_10 lk_X5_76 (by exact hA.1) (by rfl) (by rfl) (by rfl) (c_memAt hA hi hd) (by rfl) (by exact Nat.le_of_ble_eq_true rfl) (by decide) (by decide) (by exact Nat.le_of_ble_eq_true rfl) (q := 13) rfl (fun r10 g10 h10 => ?_)
  obtain ⟨rfl, rfl⟩ := And.intro h10.1.symm h10.2.symm
  change PP mX5_sameAs 13 _ [Value.ref (ad (30, w, i))] _ _
  refine pp_astore_n dX5_sameAs_13 isRf_r (by decide) (ls1_3 (nl1 rfl)) (q := 14) rfl ?_
  refine pp_aload_n dX5_sameAs_14 rfl isRf_r (q := 15) rfl ?_
  refine pp_iload_n dX5_sameAs_15 rfl (q := 16) rfl ?_
  refine ps_callVr dX5_sameAs_16 lk_X5_76 (by exact hB.1) (by rfl) (by rfl) (by rfl) (c_memAt hB hi hd) (by rfl) (by exact Nat.le_of_ble_eq_true rfl) (by decide) (by decide) (by exact Nat.le_of_ble_eq_true rfl) (q := 19) rfl (fun r16 g16 h16 => ?_)
  obtain ⟨rfl, rfl⟩ := And.intro h16.1.symm h16.2.symm
  change PP mX5_sameAs 19 _ [Value.ref (ad (30, w', i))] _ _
  refine pp_astore dX5_sameAs_19 isRf_r (by decide) (ls1_4 (nl1 rfl)) (q := 21) rfl ?_
  refine pp_aload_n dX5_sameAs_21 rfl isRf_r (q := 22) rfl ?_
  refine pp_ifnonnull_r (tgt := 29) dX5_sameAs_22 (by decide) ?_
  refine pp_iconst dX5_sameAs_29 ci_0 (q := 30) rfl ?_
  refine pp_aload dX5_sameAs_30 rfl isRf_r (q := 32) rfl ?_
  refine pp_ifnonnull_r (tgt := 39) dX5_sameAs_32 (by decide) ?_
  refine pp_iconst dX5_sameAs_39 ci_0 (q := 40) rfl ?_
  refine pp_icmp_ne (tgt := 59) dX5_sameAs_40 (by decide) (q := 43) rfl (fun c40 => absurd rfl c40) (fun c40 => ?_)
  refine pp_aload_n dX5_sameAs_43 rfl isRf_r (q := 44) rfl ?_
  refine ps_get dX5_sameAs_44 fl_X5_21 hA.1 rfl rfl (q := 47) rfl ?_
  refine pp_iload_n dX5_sameAs_47 rfl (q := 48) rfl ?_
  refine ps_lald dX5_sameAs_48 hA.1 rfl rfl hi (by decide) (q := 49) rfl ?_
  refine pp_aload_n dX5_sameAs_49 rfl isRf_r (q := 50) rfl ?_
  refine ps_get dX5_sameAs_50 fl_X5_21 hB.1 rfl rfl (q := 53) rfl ?_
  refine pp_iload_n dX5_sameAs_53 rfl (q := 54) rfl ?_
  refine ps_lald dX5_sameAs_54 hB.1 rfl rfl hi (by decide) (q := 55) rfl ?_
  refine pp_lcmp dX5_sameAs_55 (q := 56) rfl ?_
  refine pp_if_eq (tgt := 61) dX5_sameAs_56 (by decide) (q := 59) rfl (fun c56 => ?_) (fun c56 => absurd (lgc_eq ((hA.2.2.2.1 i hi).trans (hB.2.2.2.1 i hi).symm)) c56)
  refine pp_aload_n dX5_sameAs_61 rfl isRf_r (q := 62) rfl ?_
  refine pp_ifnull_r dX5_sameAs_62 (q := 65) rfl ?_
  refine pp_aload dX5_sameAs_65 rfl isRf_r (q := 67) rfl ?_
  refine pp_ifnull_r dX5_sameAs_67 (q := 70) rfl ?_
  refine pp_aload_n dX5_sameAs_70 rfl isRf_r (q := 71) rfl ?_
  refine pp_aload dX5_sameAs_71 rfl isRf_r (q := 73) rfl ?_
  refine ps_callVi dX5_sameAs_73 lk_X5_317 (by exact (hA.m hi hd).1) (by rfl) (by rfl) (by rfl) (c_sameM (hA.m hi hd) (hB.m hi hd)) (by rfl) (by exact Nat.le_of_ble_eq_true rfl) (by decide) (by decide) (by exact Nat.le_of_ble_eq_true rfl) (q := 76) rfl (fun r73 g73 h73 => ?_)
  obtain ⟨rfl, rfl⟩ := And.intro h73.1.symm h73.2.symm
  refine pp_if_ne (tgt := 81) dX5_sameAs_76 (by decide) (q := 79) rfl (fun c76 => ?_) (fun c76 => absurd c76 nI1_ne)
  refine pp_iinc dX5_sameAs_81 rfl (nI_1 _) (ls1_2 (nl1 rfl)) (q := 84) rfl ?_
  refine pp_goto (tgt := 2) dX5_sameAs_84 (by decide) ?_
  exact hk _ _
set_option maxRecDepth 20000 in
set_option maxHeartbeats 4000000 in
theorem s_sameWn {ad : Nm → Nat} {g : Sg} {w w' i : Nat} {A : AW} {Q : Option Value → PH → Prop} (hA : RW g w A) (hB : RW g w' A) (hi : i < 64) (hd : ¬ mdA A i) (hk : ∀ x y, PP mX5_sameAs 2 [some (.ref (ad (10, w, 0))), some (.ref (ad (10, w', 0))), some (.int (nI (i + 1))), x, y] [] (Rel ad g) Q) (x y : Option Value) : PP mX5_sameAs 2 [some (.ref (ad (10, w, 0))), some (.ref (ad (10, w', 0))), some (.int (nI i)), x, y] [] (Rel ad g) Q := by
  refine pp_iload_n dX5_sameAs_2 rfl (q := 3) rfl ?_
  refine pp_bipush dX5_sameAs_3 cb_64 (q := 5) rfl ?_
  refine pp_icmp_ge (tgt := 87) dX5_sameAs_5 (by decide) (q := 8) rfl (fun c5 => absurd c5 (nI_ge hi (by decide))) (fun c5 => ?_)
  refine pp_aload_n dX5_sameAs_8 rfl isRf_r (q := 9) rfl ?_
  refine pp_iload_n dX5_sameAs_9 rfl (q := 10) rfl ?_
  refine ps_callVr dX5_sameAs_10 lk_X5_76 (by exact hA.1) (by rfl) (by rfl) (by rfl) (c_memAt_no hA (noM_of hi hd)) (by rfl) (by exact Nat.le_of_ble_eq_true rfl) (by decide) (by decide) (by exact Nat.le_of_ble_eq_true rfl) (q := 13) rfl (fun r10 g10 h10 => ?_)
  obtain ⟨rfl, rfl⟩ := And.intro h10.1.symm h10.2.symm
  change PP mX5_sameAs 13 _ [Value.null] _ _
  refine pp_astore_n dX5_sameAs_13 (by first | exact isRf_r | exact isRf_va | exact isRf_n) (by decide) (ls1_3 (nl1 rfl)) (q := 14) rfl ?_
  refine pp_aload_n dX5_sameAs_14 rfl isRf_r (q := 15) rfl ?_
  refine pp_iload_n dX5_sameAs_15 rfl (q := 16) rfl ?_
  refine ps_callVr dX5_sameAs_16 lk_X5_76 (by exact hB.1) (by rfl) (by rfl) (by rfl) (c_memAt_no hB (noM_of hi hd)) (by rfl) (by exact Nat.le_of_ble_eq_true rfl) (by decide) (by decide) (by exact Nat.le_of_ble_eq_true rfl) (q := 19) rfl (fun r16 g16 h16 => ?_)
  obtain ⟨rfl, rfl⟩ := And.intro h16.1.symm h16.2.symm
  change PP mX5_sameAs 19 _ [Value.null] _ _
  refine pp_astore dX5_sameAs_19 (by first | exact isRf_r | exact isRf_va | exact isRf_n) (by decide) (ls1_4 (nl1 rfl)) (q := 21) rfl ?_
  refine pp_aload_n dX5_sameAs_21 rfl (by first | exact isRf_r | exact isRf_va | exact isRf_n) (q := 22) rfl ?_
  refine pp_ifnonnull_n dX5_sameAs_22 (q := 25) rfl ?_
  refine pp_iconst dX5_sameAs_25 ci_1 (q := 26) rfl ?_
  refine pp_goto (tgt := 30) dX5_sameAs_26 (by decide) ?_
  refine pp_aload dX5_sameAs_30 rfl (by first | exact isRf_r | exact isRf_va | exact isRf_n) (q := 32) rfl ?_
  refine pp_ifnonnull_n dX5_sameAs_32 (q := 35) rfl ?_
  refine pp_iconst dX5_sameAs_35 ci_1 (q := 36) rfl ?_
  refine pp_goto (tgt := 40) dX5_sameAs_36 (by decide) ?_
  refine pp_icmp_ne (tgt := 59) dX5_sameAs_40 (by decide) (q := 43) rfl (fun c40 => absurd rfl c40) (fun c40 => ?_)
  refine pp_aload_n dX5_sameAs_43 rfl isRf_r (q := 44) rfl ?_
  refine ps_get dX5_sameAs_44 fl_X5_21 hA.1 rfl rfl (q := 47) rfl ?_
  refine pp_iload_n dX5_sameAs_47 rfl (q := 48) rfl ?_
  refine ps_lald dX5_sameAs_48 hA.1 rfl rfl hi (by decide) (q := 49) rfl ?_
  refine pp_aload_n dX5_sameAs_49 rfl isRf_r (q := 50) rfl ?_
  refine ps_get dX5_sameAs_50 fl_X5_21 hB.1 rfl rfl (q := 53) rfl ?_
  refine pp_iload_n dX5_sameAs_53 rfl (q := 54) rfl ?_
  refine ps_lald dX5_sameAs_54 hB.1 rfl rfl hi (by decide) (q := 55) rfl ?_
  refine pp_lcmp dX5_sameAs_55 (q := 56) rfl ?_
  refine pp_if_eq (tgt := 61) dX5_sameAs_56 (by decide) (q := 59) rfl (fun c56 => ?_) (fun c56 => absurd (lgc_eq ((hA.2.2.2.1 i hi).trans (hB.2.2.2.1 i hi).symm)) c56)
  refine pp_aload_n dX5_sameAs_61 rfl (by first | exact isRf_r | exact isRf_va | exact isRf_n) (q := 62) rfl ?_
  refine pp_ifnull_n (tgt := 81) dX5_sameAs_62 (by decide) ?_
  refine pp_iinc dX5_sameAs_81 rfl (nI_1 _) (ls1_2 (nl1 rfl)) (q := 84) rfl ?_
  refine pp_goto (tgt := 2) dX5_sameAs_84 (by decide) ?_
  exact hk _ _
set_option maxRecDepth 20000 in
set_option maxHeartbeats 4000000 in
theorem e_sameW {ad : Nm → Nat} {g : Sg} {w w' : Nat} {A : AW} (hA : RW g w A) (hB : RW g w' A) (x y : Option Value) : PS mX5_sameAs 2 [some (.ref (ad (10, w, 0))), some (.ref (ad (10, w', 0))), some (.int (nI 64)), x, y] [] ad g (Ri (fun v g' => v = nI 1 ∧ g' = g)) := by
  refine pp_iload_n dX5_sameAs_2 rfl (q := 3) rfl ?_
  refine pp_bipush dX5_sameAs_3 cb_64 (q := 5) rfl ?_
  refine pp_icmp_ge (tgt := 87) dX5_sameAs_5 (by decide) (q := 8) rfl (fun c5 => ?_) (fun c5 => absurd (nI_le (Nat.le_refl 64) (by decide)) c5)
  refine pp_aload_n dX5_sameAs_87 rfl isRf_r (q := 88) rfl ?_
  refine ps_get dX5_sameAs_88 fl_X5_17 hA.1 rfl rfl (q := 91) rfl ?_
  refine pp_aload_n dX5_sameAs_91 rfl isRf_r (q := 92) rfl ?_
  refine ps_get dX5_sameAs_92 fl_X5_17 hB.1 rfl rfl (q := 95) rfl ?_
  refine pp_icmp_ne (tgt := 116) dX5_sameAs_95 (by decide) (q := 98) rfl (fun c95 => absurd (hA.2.2.1.trans hB.2.2.1.symm) c95) (fun c95 => ?_)
  refine pp_aload_n dX5_sameAs_98 rfl isRf_r (q := 99) rfl ?_
  refine ps_get dX5_sameAs_99 fl_X5_28 hA.1 rfl rfl (q := 102) rfl ?_
  refine pp_aload_n dX5_sameAs_102 rfl isRf_r (q := 103) rfl ?_
  refine ps_get dX5_sameAs_103 fl_X5_28 hB.1 rfl rfl (q := 106) rfl ?_
  refine ps_callVi dX5_sameAs_106 lk_X5_321 (by exact hA.1) (by rfl) (by rfl) (by rfl) (c_sameB hA.1 hB.1 hA.2.1 hB.2.1) (by rfl) (by exact Nat.le_of_ble_eq_true rfl) (by decide) (by decide) (by exact Nat.le_of_ble_eq_true rfl) (q := 109) rfl (fun r106 g106 h106 => ?_)
  obtain ⟨rfl, rfl⟩ := And.intro h106.1.symm h106.2.symm
  refine pp_if_eq (tgt := 116) dX5_sameAs_109 (by decide) (q := 112) rfl (fun c109 => absurd c109 nI1_ne) (fun c109 => ?_)
  refine pp_iconst dX5_sameAs_112 ci_1 (q := 113) rfl ?_
  refine pp_goto (tgt := 117) dX5_sameAs_113 (by decide) ?_
  refine ri_ret dX5_sameAs_117 rfl (by decide) ?_
  exact ⟨rfl, rfl⟩
theorem l_sameW {ad : Nm → Nat} {g : Sg} {w w' : Nat} {A : AW} (hA : RW g w A) (hB : RW g w' A) : ∀ (j i : Nat), 64 - i < j → i ≤ 64 → ∀ x y, PS mX5_sameAs 2 [some (.ref (ad (10, w, 0))), some (.ref (ad (10, w', 0))), some (.int (nI i)), x, y] [] ad g (Ri (fun v g' => v = nI 1 ∧ g' = g)) := by
  intro j
  induction j with
  | zero => intro i h; omega
  | succ j ih =>
    intro i hij hik x y
    by_cases e : i = 64
    · subst e
      exact e_sameW hA hB x y
    · by_cases hd : mdA A i
      · exact s_sameWm hA hB (by omega) hd (ih (i + 1) (by omega) (by omega)) x y
      · exact s_sameWn hA hB (by omega) hd (ih (i + 1) (by omega) (by omega)) x y
set_option maxRecDepth 20000 in
set_option maxHeartbeats 4000000 in
theorem c_sameW {ad : Nm → Nat} {g : Sg} {w w' : Nat} {A : AW} (hA : RW g w A) (hB : RW g w' A) : PS mX5_sameAs 0 (ent mX5_sameAs [.ref (ad (10, w, 0)), .ref (ad (10, w', 0))]) [] ad g (Ri (fun v g' => v = nI 1 ∧ g' = g)) := by
  show PP mX5_sameAs 0 [some (.ref (ad (10, w, 0))), some (.ref (ad (10, w', 0))), none, none, none] [] (Rel ad g) _
  refine pp_iconst dX5_sameAs_0 ci_0 (q := 1) rfl ?_
  refine pp_istore_n dX5_sameAs_1 (by decide) (ls1_2 (nl1 rfl)) (q := 2) rfl ?_
  exact l_sameW hA hB 65 0 (by omega) (by omega) _ _
