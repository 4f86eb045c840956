section SNR
variable {l : Launch} {D : va_G} {cA : Nat → ClassId} {base : Nat}
theorem sn_iconst : Ru_iconst (Sn l D cA base) := fun M pc L st G r n v hd hv h => h.stA (fun _ _ _ _ _ _ _ _ _ _ _ _ _ _ _ _ _ S Dn kk => lv_iconst S.1 S.2.1 hd hv kk)
theorem sn_bipush : Ru_bipush (Sn l D cA base) := fun M pc L st G r n v hd hv h => h.stA (fun _ _ _ _ _ _ _ _ _ _ _ _ _ _ _ _ _ S Dn kk => lv_bipush S.1 S.2.1 hd hv kk)
theorem sn_sipush : Ru_sipush (Sn l D cA base) := fun M pc L st G r n v hd hv h => h.stA (fun _ _ _ _ _ _ _ _ _ _ _ _ _ _ _ _ _ S Dn kk => lv_sipush S.1 S.2.1 hd hv kk)
theorem sn_lconst : Ru_lconst (Sn l D cA base) := fun M pc L st G r n v hd hv h => h.stA (fun _ _ _ _ _ _ _ _ _ _ _ _ _ _ _ _ _ S Dn kk => lv_lconst S.1 S.2.1 hd hv kk)
theorem sn_null : Ru_null (Sn l D cA base) := fun M pc L st G r hd h => h.stA (fun _ _ _ _ _ _ _ _ _ _ _ _ _ _ _ _ _ S Dn kk => lv_null S.1 S.2.1 hd kk)
theorem sn_ldc : Ru_ldc (Sn l D cA base) := fun M pc L st G r i v hd hv h => h.stA (fun _ _ _ _ _ _ _ _ _ _ _ _ _ _ _ _ _ S Dn kk => lv_ldc S.1 S.2.1 S.2.2.2.1 (S.tb hv rfl) hd kk)
theorem sn_ldc2 : Ru_ldc2 (Sn l D cA base) := fun M pc L st G r i v hd hv h => h.stA (fun _ _ _ _ _ _ _ _ _ _ _ _ _ _ _ _ _ S Dn kk => lv_ldc2 S.1 S.2.1 S.2.2.2.1 (S.tb hv rfl) hd kk)
theorem sn_iload_n : Ru_iload_n (Sn l D cA base) := fun M pc L st G r k x hd hv h => h.stA (fun _ _ _ _ _ _ _ _ _ _ _ _ _ _ _ _ _ S Dn kk => lv_iload_n S.1 S.2.1 hd rfl (Dn.1.2.2 _ _ hv) kk)
theorem sn_iload : Ru_iload (Sn l D cA base) := fun M pc L st G r i x hd hv h => h.stA (fun _ _ _ _ _ _ _ _ _ _ _ _ _ _ _ _ _ S Dn kk => lv_iload S.1 S.2.1 hd (Dn.1.2.2 _ _ hv) kk)
theorem sn_lload_n : Ru_lload_n (Sn l D cA base) := fun M pc L st G r k x hd hv h => h.stA (fun _ _ _ _ _ _ _ _ _ _ _ _ _ _ _ _ _ S Dn kk => lv_lload_n S.1 S.2.1 hd rfl (Dn.1.2.2 _ _ hv) kk)
theorem sn_lload : Ru_lload (Sn l D cA base) := fun M pc L st G r i x hd hv h => h.stA (fun _ _ _ _ _ _ _ _ _ _ _ _ _ _ _ _ _ S Dn kk => lv_lload S.1 S.2.1 hd (Dn.1.2.2 _ _ hv) kk)
theorem sn_aload_n : Ru_aload_n (Sn l D cA base) := by
  intro M pc L st G r i x hd hv hr h
  rcases hr with rfl | ⟨a, rfl⟩
  · exact h.stA (fun _ _ _ _ _ _ _ _ _ _ _ _ _ _ _ _ _ S Dn kk => lv_aload_nN S.1 S.2.1 hd rfl (Dn.1.2.2 _ _ hv) kk)
  · exact h.stA (fun _ _ _ _ _ _ _ _ _ _ _ _ _ _ _ _ _ S Dn kk => lv_aload_n S.1 S.2.1 hd rfl (Dn.1.2.2 _ _ hv) kk)
theorem sn_aload : Ru_aload (Sn l D cA base) := by
  intro M pc L st G r i x hd hv hr h
  rcases hr with rfl | ⟨a, rfl⟩
  · exact h.stA (fun _ _ _ _ _ _ _ _ _ _ _ _ _ _ _ _ _ S Dn kk => lv_aloadN S.1 S.2.1 hd (Dn.1.2.2 _ _ hv) kk)
  · exact h.stA (fun _ _ _ _ _ _ _ _ _ _ _ _ _ _ _ _ _ S Dn kk => lv_aload S.1 S.2.1 hd (Dn.1.2.2 _ _ hv) kk)
theorem sn_istore_n : Ru_istore_n (Sn l D cA base) := fun M pc L st G r k x L' hd hlt hL h => h.stL (fun _ _ _ _ _ _ _ _ _ _ _ _ _ _ _ _ _ S Dn kk => lv_istore_n S.1 S.2.1 hd rfl Dn.1.has hlt rfl (fun ls' hl => kk ls' (pl.of1 hl hL)))
theorem sn_istore : Ru_istore (Sn l D cA base) := fun M pc L st G r k x L' hd hlt hL h => h.stL (fun _ _ _ _ _ _ _ _ _ _ _ _ _ _ _ _ _ S Dn kk => lv_istore S.1 S.2.1 hd Dn.1.has hlt rfl (fun ls' hl => kk ls' (pl.of1 hl hL)))
theorem sn_lstore_n : Ru_lstore_n (Sn l D cA base) := fun M pc L st G r k x L' hd hlt hL h => h.stL (fun _ _ _ _ _ _ _ _ _ _ _ _ _ _ _ _ _ S Dn kk => lv_lstore_n S.1 S.2.1 hd rfl Dn.1.has hlt rfl (fun ls' hl => kk ls' (pl.of2 hl hL)))
theorem sn_lstore : Ru_lstore (Sn l D cA base) := fun M pc L st G r k x L' hd hlt hL h => h.stL (fun _ _ _ _ _ _ _ _ _ _ _ _ _ _ _ _ _ S Dn kk => lv_lstore S.1 S.2.1 hd Dn.1.has hlt rfl (fun ls' hl => kk ls' (pl.of2 hl hL)))
theorem sn_astore_n : Ru_astore_n (Sn l D cA base) := by
  intro M pc L st G r i x L' hd hr hlt hL h
  rcases hr with rfl | ⟨a, rfl⟩
  · exact h.stL (fun _ _ _ _ _ _ _ _ _ _ _ _ _ _ _ _ _ S Dn kk => lv_astore_nN S.1 S.2.1 hd rfl Dn.1.has hlt rfl (fun ls' hl => kk ls' (pl.of1 hl hL)))
  · exact h.stL (fun _ _ _ _ _ _ _ _ _ _ _ _ _ _ _ _ _ S Dn kk => lv_astore_n S.1 S.2.1 hd rfl Dn.1.has hlt rfl (fun ls' hl => kk ls' (pl.of1 hl hL)))
theorem sn_astore : Ru_astore (Sn l D cA base) := by
  intro M pc L st G r i x L' hd hr hlt hL h
  rcases hr with rfl | ⟨a, rfl⟩
  · exact h.stL (fun _ _ _ _ _ _ _ _ _ _ _ _ _ _ _ _ _ S Dn kk => lv_astoreN S.1 S.2.1 hd Dn.1.has hlt rfl (fun ls' hl => kk ls' (pl.of1 hl hL)))
  · exact h.stL (fun _ _ _ _ _ _ _ _ _ _ _ _ _ _ _ _ _ S Dn kk => lv_astore S.1 S.2.1 hd Dn.1.has hlt rfl (fun ls' hl => kk ls' (pl.of1 hl hL)))
theorem sn_iinc : Ru_iinc (Sn l D cA base) := by
  intro M pc L st G r i n x v L' hd hx hv hL h
  obtain ⟨q, hq⟩ := List.getElem?_of_mem (lst_mem.mpr hx)
  exact h.stL (fun _ _ _ _ _ _ _ _ _ _ _ _ _ _ _ _ _ S Dn kk => lv_iinc S.1 S.2.1 hd Dn.1.has hq hv (Dn.1.lt hx) rfl (fun ls' hl => kk ls' (pl.of1 hl hL)))
theorem sn_iadd : Ru_iadd (Sn l D cA base) := fun M pc L st G r x y hd h => h.stA (fun _ _ _ _ _ _ _ _ _ _ _ _ _ _ _ _ _ S Dn kk => lv_iadd S.1 S.2.1 hd kk)
theorem sn_isub : Ru_isub (Sn l D cA base) := fun M pc L st G r x y hd h => h.stA (fun _ _ _ _ _ _ _ _ _ _ _ _ _ _ _ _ _ S Dn kk => lv_isub S.1 S.2.1 hd kk)
theorem sn_imul : Ru_imul (Sn l D cA base) := fun M pc L st G r x y hd h => h.stA (fun _ _ _ _ _ _ _ _ _ _ _ _ _ _ _ _ _ S Dn kk => lv_imul S.1 S.2.1 hd kk)
theorem sn_iand : Ru_iand (Sn l D cA base) := fun M pc L st G r x y hd h => h.stA (fun _ _ _ _ _ _ _ _ _ _ _ _ _ _ _ _ _ S Dn kk => lv_iand S.1 S.2.1 hd kk)
theorem sn_ladd : Ru_ladd (Sn l D cA base) := fun M pc L st G r x y hd h => h.stA (fun _ _ _ _ _ _ _ _ _ _ _ _ _ _ _ _ _ S Dn kk => lv_ladd S.1 S.2.1 hd kk)
theorem sn_lmul : Ru_lmul (Sn l D cA base) := fun M pc L st G r x y hd h => h.stA (fun _ _ _ _ _ _ _ _ _ _ _ _ _ _ _ _ _ S Dn kk => lv_lmul S.1 S.2.1 hd kk)
theorem sn_land : Ru_land (Sn l D cA base) := fun M pc L st G r x y hd h => h.stA (fun _ _ _ _ _ _ _ _ _ _ _ _ _ _ _ _ _ S Dn kk => lv_land S.1 S.2.1 hd kk)
theorem sn_lor : Ru_lor (Sn l D cA base) := fun M pc L st G r x y hd h => h.stA (fun _ _ _ _ _ _ _ _ _ _ _ _ _ _ _ _ _ S Dn kk => lv_lor S.1 S.2.1 hd kk)
theorem sn_lxor : Ru_lxor (Sn l D cA base) := fun M pc L st G r x y hd h => h.stA (fun _ _ _ _ _ _ _ _ _ _ _ _ _ _ _ _ _ S Dn kk => lv_lxor S.1 S.2.1 hd kk)
theorem sn_ineg : Ru_ineg (Sn l D cA base) := fun M pc L st G r x hd h => h.stA (fun _ _ _ _ _ _ _ _ _ _ _ _ _ _ _ _ _ S Dn kk => lv_ineg S.1 S.2.1 hd kk)
theorem sn_lrem : Ru_lrem (Sn l D cA base) := fun M pc L st G r x y hd hn h => h.stA (fun _ _ _ _ _ _ _ _ _ _ _ _ _ _ _ _ _ S Dn kk => lv_lrem S.1 S.2.1 hd hn kk)
theorem sn_i2l : Ru_i2l (Sn l D cA base) := fun M pc L st G r x hd h => h.stA (fun _ _ _ _ _ _ _ _ _ _ _ _ _ _ _ _ _ S Dn kk => lv_i2l S.1 S.2.1 hd rfl kk)
theorem sn_l2i : Ru_l2i (Sn l D cA base) := fun M pc L st G r x hd h => h.stA (fun _ _ _ _ _ _ _ _ _ _ _ _ _ _ _ _ _ S Dn kk => lv_l2i S.1 S.2.1 hd rfl kk)
theorem sn_lushr : Ru_lushr (Sn l D cA base) := fun M pc L st G r x y hd h => h.stA (fun _ _ _ _ _ _ _ _ _ _ _ _ _ _ _ _ _ S Dn kk => lv_lushr S.1 S.2.1 hd rfl kk)
theorem sn_lshl : Ru_lshl (Sn l D cA base) := fun M pc L st G r x y hd h => h.stA (fun _ _ _ _ _ _ _ _ _ _ _ _ _ _ _ _ _ S Dn kk => lv_lshl S.1 S.2.1 hd rfl kk)
theorem sn_lcmp : Ru_lcmp (Sn l D cA base) := fun M pc L st G r x y hd h => h.stA (fun _ _ _ _ _ _ _ _ _ _ _ _ _ _ _ _ _ S Dn kk => W.lcmp S.1 S.2.1 hd kk)
theorem sn_dup : Ru_dup (Sn l D cA base) := fun M pc L st G r v hd hc h => h.stA (fun _ _ _ _ _ _ _ _ _ _ _ _ _ _ _ _ _ S Dn kk => lv_dup S.1 S.2.1 hd hc kk)
theorem sn_pop : Ru_pop (Sn l D cA base) := fun M pc L st G r v hd hc h => h.stA (fun _ _ _ _ _ _ _ _ _ _ _ _ _ _ _ _ _ S Dn kk => lv_pop S.1 S.2.1 hd hc kk)
theorem sn_dup2 : Ru_dup2 (Sn l D cA base) := fun M pc L st G r v w hd h1 h2 h => h.stA (fun _ _ _ _ _ _ _ _ _ _ _ _ _ _ _ _ _ S Dn kk => lv_dup2_11 S.1 S.2.1 hd h1 h2 kk)
theorem sn_pop2 : Ru_pop2 (Sn l D cA base) := fun M pc L st G r v hd hc h => h.stA (fun _ _ _ _ _ _ _ _ _ _ _ _ _ _ _ _ _ S Dn kk => lv_pop2_2 S.1 S.2.1 hd hc kk)
theorem sn_if_eq : Ru_if_eq (Sn l D cA base) := by
  intro M pc L st G r x off tgt hd ht h1 h2
  have hm : G.1 ≤ r.2.1 ∧ G.2.1 ≤ r.2.2.1 := by
    by_cases c : x = 0
    · exact ⟨(h1 c).1, (h1 c).2.1⟩
    · exact ⟨(h2 c).1, (h2 c).2.1⟩
  exact ⟨hm.1, hm.2, fun p e R s m args below meth cd mc ms Q S H locs cells slots ls Dn => lv_if_eq S.1 S.2.1 hd ht (fun c => (h1 c).2.2 p e R s m args below meth cd mc ms Q S H locs cells slots ls Dn) (fun c => (h2 c).2.2 p e R s m args below meth cd mc ms Q S H locs cells slots ls Dn)⟩
theorem sn_if_ne : Ru_if_ne (Sn l D cA base) := by
  intro M pc L st G r x off tgt hd ht h1 h2
  have hm : G.1 ≤ r.2.1 ∧ G.2.1 ≤ r.2.2.1 := by
    by_cases c : x = 0
    · exact ⟨(h2 c).1, (h2 c).2.1⟩
    · exact ⟨(h1 c).1, (h1 c).2.1⟩
  exact ⟨hm.1, hm.2, fun p e R s m args below meth cd mc ms Q S H locs cells slots ls Dn => lv_if_ne S.1 S.2.1 hd ht (fun c => (h1 c).2.2 p e R s m args below meth cd mc ms Q S H locs cells slots ls Dn) (fun c => (h2 c).2.2 p e R s m args below meth cd mc ms Q S H locs cells slots ls Dn)⟩
theorem sn_if_lt : Ru_if_lt (Sn l D cA base) := by
  intro M pc L st G r x off tgt hd ht h1 h2
  have hm : G.1 ≤ r.2.1 ∧ G.2.1 ≤ r.2.2.1 := by
    by_cases c : x < 0
    · exact ⟨(h1 c).1, (h1 c).2.1⟩
    · exact ⟨(h2 c).1, (h2 c).2.1⟩
  exact ⟨hm.1, hm.2, fun p e R s m args below meth cd mc ms Q S H locs cells slots ls Dn => lv_if_lt S.1 S.2.1 hd ht (fun c => (h1 c).2.2 p e R s m args below meth cd mc ms Q S H locs cells slots ls Dn) (fun c => (h2 c).2.2 p e R s m args below meth cd mc ms Q S H locs cells slots ls Dn)⟩
theorem sn_if_ge : Ru_if_ge (Sn l D cA base) := by
  intro M pc L st G r x off tgt hd ht h1 h2
  have hm : G.1 ≤ r.2.1 ∧ G.2.1 ≤ r.2.2.1 := by
    by_cases c : 0 ≤ x
    · exact ⟨(h1 c).1, (h1 c).2.1⟩
    · exact ⟨(h2 c).1, (h2 c).2.1⟩
  exact ⟨hm.1, hm.2, fun p e R s m args below meth cd mc ms Q S H locs cells slots ls Dn => lv_if_ge S.1 S.2.1 hd ht (fun c => (h1 c).2.2 p e R s m args below meth cd mc ms Q S H locs cells slots ls Dn) (fun c => (h2 c).2.2 p e R s m args below meth cd mc ms Q S H locs cells slots ls Dn)⟩
theorem sn_if_gt : Ru_if_gt (Sn l D cA base) := by
  intro M pc L st G r x off tgt hd ht h1 h2
  have hm : G.1 ≤ r.2.1 ∧ G.2.1 ≤ r.2.2.1 := by
    by_cases c : 0 < x
    · exact ⟨(h1 c).1, (h1 c).2.1⟩
    · exact ⟨(h2 c).1, (h2 c).2.1⟩
  exact ⟨hm.1, hm.2, fun p e R s m args below meth cd mc ms Q S H locs cells slots ls Dn => lv_if_gt S.1 S.2.1 hd ht (fun c => (h1 c).2.2 p e R s m args below meth cd mc ms Q S H locs cells slots ls Dn) (fun c => (h2 c).2.2 p e R s m args below meth cd mc ms Q S H locs cells slots ls Dn)⟩
theorem sn_if_le : Ru_if_le (Sn l D cA base) := by
  intro M pc L st G r x off tgt hd ht h1 h2
  have hm : G.1 ≤ r.2.1 ∧ G.2.1 ≤ r.2.2.1 := by
    by_cases c : x ≤ 0
    · exact ⟨(h1 c).1, (h1 c).2.1⟩
    · exact ⟨(h2 c).1, (h2 c).2.1⟩
  exact ⟨hm.1, hm.2, fun p e R s m args below meth cd mc ms Q S H locs cells slots ls Dn => lv_if_le S.1 S.2.1 hd ht (fun c => (h1 c).2.2 p e R s m args below meth cd mc ms Q S H locs cells slots ls Dn) (fun c => (h2 c).2.2 p e R s m args below meth cd mc ms Q S H locs cells slots ls Dn)⟩
theorem sn_icmp_eq : Ru_icmp_eq (Sn l D cA base) := by
  intro M pc L st G r x y off tgt hd ht h1 h2
  have hm : G.1 ≤ r.2.1 ∧ G.2.1 ≤ r.2.2.1 := by
    by_cases c : x = y
    · exact ⟨(h1 c).1, (h1 c).2.1⟩
    · exact ⟨(h2 c).1, (h2 c).2.1⟩
  exact ⟨hm.1, hm.2, fun p e R s m args below meth cd mc ms Q S H locs cells slots ls Dn => lv_icmp_eq S.1 S.2.1 hd ht (fun c => (h1 c).2.2 p e R s m args below meth cd mc ms Q S H locs cells slots ls Dn) (fun c => (h2 c).2.2 p e R s m args below meth cd mc ms Q S H locs cells slots ls Dn)⟩
theorem sn_icmp_ne : Ru_icmp_ne (Sn l D cA base) := by
  intro M pc L st G r x y off tgt hd ht h1 h2
  have hm : G.1 ≤ r.2.1 ∧ G.2.1 ≤ r.2.2.1 := by
    by_cases c : x = y
    · exact ⟨(h2 c).1, (h2 c).2.1⟩
    · exact ⟨(h1 c).1, (h1 c).2.1⟩
  exact ⟨hm.1, hm.2, fun p e R s m args below meth cd mc ms Q S H locs cells slots ls Dn => lv_icmp_ne S.1 S.2.1 hd ht (fun c => (h1 c).2.2 p e R s m args below meth cd mc ms Q S H locs cells slots ls Dn) (fun c => (h2 c).2.2 p e R s m args below meth cd mc ms Q S H locs cells slots ls Dn)⟩
theorem sn_icmp_lt : Ru_icmp_lt (Sn l D cA base) := by
  intro M pc L st G r x y off tgt hd ht h1 h2
  have hm : G.1 ≤ r.2.1 ∧ G.2.1 ≤ r.2.2.1 := by
    by_cases c : x < y
    · exact ⟨(h1 c).1, (h1 c).2.1⟩
    · exact ⟨(h2 c).1, (h2 c).2.1⟩
  exact ⟨hm.1, hm.2, fun p e R s m args below meth cd mc ms Q S H locs cells slots ls Dn => lv_icmp_lt S.1 S.2.1 hd ht (fun c => (h1 c).2.2 p e R s m args below meth cd mc ms Q S H locs cells slots ls Dn) (fun c => (h2 c).2.2 p e R s m args below meth cd mc ms Q S H locs cells slots ls Dn)⟩
theorem sn_icmp_ge : Ru_icmp_ge (Sn l D cA base) := by
  intro M pc L st G r x y off tgt hd ht h1 h2
  have hm : G.1 ≤ r.2.1 ∧ G.2.1 ≤ r.2.2.1 := by
    by_cases c : y ≤ x
    · exact ⟨(h1 c).1, (h1 c).2.1⟩
    · exact ⟨(h2 c).1, (h2 c).2.1⟩
  exact ⟨hm.1, hm.2, fun p e R s m args below meth cd mc ms Q S H locs cells slots ls Dn => lv_icmp_ge S.1 S.2.1 hd ht (fun c => (h1 c).2.2 p e R s m args below meth cd mc ms Q S H locs cells slots ls Dn) (fun c => (h2 c).2.2 p e R s m args below meth cd mc ms Q S H locs cells slots ls Dn)⟩
theorem sn_icmp_gt : Ru_icmp_gt (Sn l D cA base) := by
  intro M pc L st G r x y off tgt hd ht h1 h2
  have hm : G.1 ≤ r.2.1 ∧ G.2.1 ≤ r.2.2.1 := by
    by_cases c : y < x
    · exact ⟨(h1 c).1, (h1 c).2.1⟩
    · exact ⟨(h2 c).1, (h2 c).2.1⟩
  exact ⟨hm.1, hm.2, fun p e R s m args below meth cd mc ms Q S H locs cells slots ls Dn => lv_icmp_gt S.1 S.2.1 hd ht (fun c => (h1 c).2.2 p e R s m args below meth cd mc ms Q S H locs cells slots ls Dn) (fun c => (h2 c).2.2 p e R s m args below meth cd mc ms Q S H locs cells slots ls Dn)⟩
theorem sn_icmp_le : Ru_icmp_le (Sn l D cA base) := by
  intro M pc L st G r x y off tgt hd ht h1 h2
  have hm : G.1 ≤ r.2.1 ∧ G.2.1 ≤ r.2.2.1 := by
    by_cases c : x ≤ y
    · exact ⟨(h1 c).1, (h1 c).2.1⟩
    · exact ⟨(h2 c).1, (h2 c).2.1⟩
  exact ⟨hm.1, hm.2, fun p e R s m args below meth cd mc ms Q S H locs cells slots ls Dn => lv_icmp_le S.1 S.2.1 hd ht (fun c => (h1 c).2.2 p e R s m args below meth cd mc ms Q S H locs cells slots ls Dn) (fun c => (h2 c).2.2 p e R s m args below meth cd mc ms Q S H locs cells slots ls Dn)⟩
theorem sn_goto : Ru_goto (Sn l D cA base) := fun M pc L st G r off tgt hd ht h => h.stA (fun _ _ _ _ _ _ _ _ _ _ _ _ _ _ _ _ _ S Dn kk => lv_goto S.1 S.2.1 hd ht kk)
theorem sn_ifnull_r : Ru_ifnull_r (Sn l D cA base) := fun M pc L st G r x off hd h => h.stA (fun _ _ _ _ _ _ _ _ _ _ _ _ _ _ _ _ _ S Dn kk => lv_ifnull S.1 S.2.1 hd kk)
theorem sn_ifnull_n : Ru_ifnull_n (Sn l D cA base) := fun M pc L st G r off tgt hd ht h => h.stA (fun _ _ _ _ _ _ _ _ _ _ _ _ _ _ _ _ _ S Dn kk => lv_ifnullN S.1 S.2.1 hd ht kk)
theorem sn_ifnonnull_r : Ru_ifnonnull_r (Sn l D cA base) := fun M pc L st G r x off tgt hd ht h => h.stA (fun _ _ _ _ _ _ _ _ _ _ _ _ _ _ _ _ _ S Dn kk => lv_ifnonnull S.1 S.2.1 hd ht kk)
theorem sn_ifnonnull_n : Ru_ifnonnull_n (Sn l D cA base) := fun M pc L st G r off hd h => h.stA (fun _ _ _ _ _ _ _ _ _ _ _ _ _ _ _ _ _ S Dn kk => lv_ifnonnullN S.1 S.2.1 hd kk)
theorem sn_tswOut : Ru_tswOut (Sn l D cA base) := fun M pc L st G r x dflt lo hi offs len tgt hd h1 ht h => h.stA (fun _ _ _ _ _ _ _ _ _ _ _ _ _ _ _ _ _ S Dn kk => lv_tableOut S.1 S.2.1 hd h1 ht kk)
theorem sn_tswIn : Ru_tswIn (Sn l D cA base) := fun M pc L st G r x dflt lo hi off offs len tgt hd h1 h2 ho ht h => h.stA (fun _ _ _ _ _ _ _ _ _ _ _ _ _ _ _ _ _ S Dn kk => lv_tableIn S.1 S.2.1 hd h1 h2 ho ht kk)
theorem sn_get : Ru_get (Sn l D cA base) := by
  intro M pc L st G r a idx ci k t fin fs v hd hf hg hv h
  obtain ⟨C, T, n, ty, hcf, hk, hl, ht, hfin, hdecl⟩ := hf
  exact h.stA (fun _ _ _ _ _ _ _ _ _ _ _ _ _ _ _ _ _ S Dn kk => va_get S.1 S.2.1 S.2.2.2.2.2.1 hcf.hin S.2.2.2.1 S.2.2.2.2.2.2.2.2.1 (vP1 (a := a) (e := .inr (ci, fs)) (Dn.2.1.2.2 _ _ hg).1) 0 rfl hcf.1 k hk (S.tb hl rfl) (fun x hx => hx) hv hd kk)
theorem sn_iald : Ru_iald (Sn l D cA base) := by
  intro M pc L st G r a n i f hd hg hi h
  refine h.stA (fun _ _ _ _ _ _ _ _ _ _ _ _ _ _ _ _ _ S Dn kk => ?_)
  have hat := (Dn.2.1.2.2 _ _ hg).1
  rcases hat with ⟨-, hat⟩ | ⟨hat, -⟩
  · exact va_iald S.1 S.2.1 S.2.2.2.2.2.2.2.2.1 (vP1 hat) 0 0 rfl rfl hi hd kk
  · cases hat
theorem sn_zald : Ru_zald (Sn l D cA base) := by
  intro M pc L st G r a n i f hd hg hi h
  refine h.stA (fun _ _ _ _ _ _ _ _ _ _ _ _ _ _ _ _ _ S Dn kk => ?_)
  have hat := (Dn.2.1.2.2 _ _ hg).1
  rcases hat with ⟨-, hat⟩ | ⟨hat, -⟩
  · exact va_zald S.1 S.2.1 S.2.2.2.2.2.2.2.2.1 (vP1 hat) 0 2 rfl rfl hi hd kk
  · cases hat
theorem sn_lald : Ru_lald (Sn l D cA base) := by
  intro M pc L st G r a n i f hd hg hi h
  refine h.stA (fun _ _ _ _ _ _ _ _ _ _ _ _ _ _ _ _ _ S Dn kk => ?_)
  have hat := (Dn.2.1.2.2 _ _ hg).1
  rcases hat with ⟨-, hat⟩ | ⟨hat, -⟩
  · exact va_lald S.1 S.2.1 S.2.2.2.2.2.2.2.2.1 (vP1 hat) 0 1 rfl rfl hi hd kk
  · cases hat
theorem sn_aald : Ru_aald (Sn l D cA base) := by
  intro M pc L st G r a n i f hd hg hi h
  refine h.stA (fun _ _ _ _ _ _ _ _ _ _ _ _ _ _ _ _ _ S Dn kk => ?_)
  have hat := (Dn.2.1.2.2 _ _ hg).1
  rcases hat with ⟨-, hat⟩ | ⟨hat, -⟩
  · exact va_aldq S.1 S.2.1 S.2.2.2.2.2.2.2.2.1 (vP1 hat) 0 3 rfl rfl hi hd kk
  · cases hat
theorem sn_alen : Ru_alen (Sn l D cA base) := by
  intro M pc L st G r a t x v hd hg ht hv h
  refine h.stA (fun _ _ _ _ _ _ _ _ _ _ _ _ _ _ _ _ _ S Dn kk => ?_)
  have hat := (Dn.2.1.2.2 _ _ hg).1
  rcases hat with ⟨-, hat⟩ | ⟨hat, -⟩
  · match t, ht, hat with
    | 0, _, hat => exact va_alen S.1 S.2.1 S.2.2.2.2.2.2.2.2.1 (vP1 hat) 0 0 rfl rfl hv hd kk
    | 1, _, hat => exact va_alen S.1 S.2.1 S.2.2.2.2.2.2.2.2.1 (vP1 hat) 0 1 rfl rfl hv hd kk
    | 2, _, hat => exact va_alen S.1 S.2.1 S.2.2.2.2.2.2.2.2.1 (vP1 hat) 0 2 rfl rfl hv hd kk
    | 3, _, hat => exact va_alen S.1 S.2.1 S.2.2.2.2.2.2.2.2.1 (vP1 hat) 0 3 rfl rfl hv hd kk
    | t + 4, ht, _ => omega
  · omega
theorem sn_sld : Ru_sld (Sn l D cA base) := by
  intro M pc L st G r a n i f hd hg hi h
  refine h.stA (fun _ _ _ _ _ _ _ _ _ _ _ _ _ _ _ _ _ S Dn kk => ?_)
  have hat := (Dn.2.1.2.2 _ _ hg).1
  rcases hat with ⟨hat, -⟩ | ⟨-, xs, hxs, scr, h1, h2, h3, h4, h5⟩
  · omega
  · cases hxs
    have hlt : i.toNatClampNeg < n := Nat.not_le.mp fun q => hi (Or.inr q)
    exact W.iald (v := .int (f i.toNatClampNeg)) S.1 S.2.1 h1 h2 h3 (by rw [h4]; exact hi) (h5 _ hlt) rfl rfl hd kk
theorem sn_slen : Ru_slen (Sn l D cA base) := by
  intro M pc L st G r a n f hd hg h
  refine h.stA (fun _ _ _ _ _ _ _ _ _ _ _ _ _ _ _ _ _ S Dn kk => ?_)
  have hat := (Dn.2.1.2.2 _ _ hg).1
  rcases hat with ⟨hat, -⟩ | ⟨-, xs, hxs, scr, h1, h2, h3, h4, h5⟩
  · omega
  · exact W.alen (n := Int32.ofNat n) S.1 S.2.1 h1 h2 (by rw [h4] <;> rfl) rfl rfl hd kk
end SNR
