/-! the law: its loop -/
def LwQ (sz : Nat) (v : Option Value) (G : PH) : Prop := v = some (.int 1) ∧ G.1 ≤ sz + 600000 ∧ G.2.1 ≤ 7302250
theorem LwQ_of {sz L : Nat} {xs : Nat → Int32} {ad : Nm → Nat} {g : Sg} {S : CS} {G : PH} (h : LwI sz L xs g S) (hG : Rel ad g G) : LwQ sz (some (.int (nI 1))) G := by
  obtain ⟨c1, c2⟩ := h.2.1
  refine ⟨congrArg (fun x => some (Value.int x)) (show nI 1 = (1 : Int32) by decide), ?_, ?_⟩
  · rw [hG.1]; omega
  · rw [hG.2.1]; omega
set_option maxRecDepth 20000 in
set_option maxHeartbeats 4000000 in
theorem lw_end {sz L i : Nat} {xs : Nat → Int32} {ad : Nm → Nat} {g : Sg} {S : CS} (h : LwI sz L xs g S) (hi : ¬ i + 5 ≤ L) (hL : L ≤ 2560) (hj : i ≤ 2570) : PP mL_law 18 [some (.ref (ad (50, 0, 0))), some (.ref (ad (0, 0, 0))), some (.ref (ad (40, 0, 0))), some (.int (nI i))] [] (Rel ad g) (LwQ sz) := by
  have hs := h.2.2.2
  refine pp_iload_n dL_law_18 rfl (q := 19) rfl ?_
  refine pp_aload_n dL_law_19 rfl (by first | exact isRf_r | exact isRf_va | exact isRf_n) (q := 20) rfl ?_
  refine ps_slen dL_law_20 hs.1 (LwS_sc hs) (q := 21) rfl ?_
  refine pp_iconst dL_law_21 ci_5 (q := 22) rfl ?_
  refine pp_isub dL_law_22 (q := 23) rfl ?_
  refine pp_icmp_gt (tgt := 1199) dL_law_23 (by decide) (q := 26) rfl (fun c23 => ?_) (fun c23 => absurd ((lw_gt hL hj).mpr (by omega)) c23)
  refine pp_iconst dL_law_1199 ci_1 (q := 1200) rfl ?_
  refine pp_iret dL_law_1200 rfl (by decide) (fun G hG => ?_)
  exact LwQ_of h hG
theorem lw_inc {i : Nat} {ad : Nm → Nat} {g : Sg} {Q : Option Value → PH → Prop} (hk : PP mL_law 18 [some (.ref (ad (50, 0, 0))), some (.ref (ad (0, 0, 0))), some (.ref (ad (40, 0, 0))), some (.int (nI (i + 5)))] [] (Rel ad g) Q) : PP mL_law 1193 [some (.ref (ad (50, 0, 0))), some (.ref (ad (0, 0, 0))), some (.ref (ad (40, 0, 0))), some (.int (nI i))] [] (Rel ad g) Q := by
  refine pp_iinc (v := nI (i + 5)) dL_law_1193 rfl (by rw [ci_5, nI_add]) (ls1_3 (nl1 rfl)) (q := 1196) rfl ?_
  refine pp_goto (tgt := 18) dL_law_1196 (by decide) ?_
  exact hk
set_option maxRecDepth 20000 in
set_option maxHeartbeats 4000000 in
theorem lw_step {sz L i : Nat} {xs : Nat → Int32} {ad : Nm → Nat} {g : Sg} {S : CS} {Q : Option Value → PH → Prop} (h : LwI sz L xs g S) (hi : i + 5 ≤ L) (hL : L ≤ 2560) (hk : ∀ ad' g' S', LwI sz L xs g' S' → PP mL_law 18 [some (.ref (ad' (50, 0, 0))), some (.ref (ad' (0, 0, 0))), some (.ref (ad' (40, 0, 0))), some (.int (nI (i + 5)))] [] (Rel ad' g') Q) : PP mL_law 18 [some (.ref (ad (50, 0, 0))), some (.ref (ad (0, 0, 0))), some (.ref (ad (40, 0, 0))), some (.int (nI i))] [] (Rel ad g) Q := by
  have hs := h.2.2.2
  have hk2 : ∀ ad' g' S', LwI sz L xs g' S' → PP mL_law 1193 [some (.ref (ad' (50, 0, 0))), some (.ref (ad' (0, 0, 0))), some (.ref (ad' (40, 0, 0))), some (.int (nI i))] [] (Rel ad' g') Q := fun ad' g' S' h' => lw_inc (hk _ _ _ h')
  refine pp_iload_n dL_law_18 rfl (q := 19) rfl ?_
  refine pp_aload_n dL_law_19 rfl (by first | exact isRf_r | exact isRf_va | exact isRf_n) (q := 20) rfl ?_
  refine ps_slen dL_law_20 hs.1 (LwS_sc hs) (q := 21) rfl ?_
  refine pp_iconst dL_law_21 ci_5 (q := 22) rfl ?_
  refine pp_isub dL_law_22 (q := 23) rfl ?_
  refine pp_icmp_gt (tgt := 1199) dL_law_23 (by decide) (q := 26) rfl (fun c23 => absurd c23 (fun q => absurd ((lw_gt hL (by omega)).mp q) (by omega))) (fun c23 => ?_)
  refine pp_aload_n dL_law_26 rfl (by first | exact isRf_r | exact isRf_va | exact isRf_n) (q := 27) rfl ?_
  refine pp_iload_n dL_law_27 rfl (q := 28) rfl ?_
  refine ps_sld dL_law_28 hs.1 (LwS_sc hs) rfl (by omega) (by omega) (q := 29) rfl ?_
  refine pp_bipush dL_law_29 cb_63 (q := 31) rfl ?_
  refine pp_iand dL_law_31 (q := 32) rfl ?_
  rcases sw_cases (xs i &&& nI 63) 0 34 (by decide) with ⟨v32, hv32a, hv32b, hv32⟩ | hv32
  · obtain rfl | rfl | rfl | rfl | rfl | rfl | rfl | rfl | rfl | rfl | rfl | rfl | rfl | rfl | rfl | rfl | rfl | rfl | rfl | rfl | rfl | rfl | rfl | rfl | rfl | rfl | rfl | rfl | rfl | rfl | rfl | rfl | rfl | rfl | rfl : v32 = 0 ∨ v32 = 1 ∨ v32 = 2 ∨ v32 = 3 ∨ v32 = 4 ∨ v32 = 5 ∨ v32 = 6 ∨ v32 = 7 ∨ v32 = 8 ∨ v32 = 9 ∨ v32 = 10 ∨ v32 = 11 ∨ v32 = 12 ∨ v32 = 13 ∨ v32 = 14 ∨ v32 = 15 ∨ v32 = 16 ∨ v32 = 17 ∨ v32 = 18 ∨ v32 = 19 ∨ v32 = 20 ∨ v32 = 21 ∨ v32 = 22 ∨ v32 = 23 ∨ v32 = 24 ∨ v32 = 25 ∨ v32 = 26 ∨ v32 = 27 ∨ v32 = 28 ∨ v32 = 29 ∨ v32 = 30 ∨ v32 = 31 ∨ v32 = 32 ∨ v32 = 33 ∨ v32 = 34 := by omega
    · refine pp_tswK (v := 0) (tgt := 188) dL_law_32 hv32 (by decide) (by decide) (by decide) rfl (by decide) ?_
      exact lw_188 h hi hL hk2
    · refine pp_tswK (v := 1) (tgt := 251) dL_law_32 hv32 (by decide) (by decide) (by decide) rfl (by decide) ?_
      exact lw_251 h hi hL hk2
    · refine pp_tswK (v := 2) (tgt := 284) dL_law_32 hv32 (by decide) (by decide) (by decide) rfl (by decide) ?_
      exact lw_284 h hi hL hk2
    · refine pp_tswK (v := 3) (tgt := 307) dL_law_32 hv32 (by decide) (by decide) (by decide) rfl (by decide) ?_
      exact lw_307 h hi hL hk2
    · refine pp_tswK (v := 4) (tgt := 330) dL_law_32 hv32 (by decide) (by decide) (by decide) rfl (by decide) ?_
      exact lw_330 h hi hL hk2
    · refine pp_tswK (v := 5) (tgt := 353) dL_law_32 hv32 (by decide) (by decide) (by decide) rfl (by decide) ?_
      exact lw_353 h hi hL hk2
    · refine pp_tswK (v := 6) (tgt := 376) dL_law_32 hv32 (by decide) (by decide) (by decide) rfl (by decide) ?_
      exact lw_376 h hi hL hk2
    · refine pp_tswK (v := 7) (tgt := 399) dL_law_32 hv32 (by decide) (by decide) (by decide) rfl (by decide) ?_
      exact lw_399 h hi hL hk2
    · refine pp_tswK (v := 8) (tgt := 422) dL_law_32 hv32 (by decide) (by decide) (by decide) rfl (by decide) ?_
      exact lw_422 h hi hL hk2
    · refine pp_tswK (v := 9) (tgt := 445) dL_law_32 hv32 (by decide) (by decide) (by decide) rfl (by decide) ?_
      exact lw_445 h hi hL hk2
    · refine pp_tswK (v := 10) (tgt := 478) dL_law_32 hv32 (by decide) (by decide) (by decide) rfl (by decide) ?_
      exact lw_478 h hi hL hk2
    · refine pp_tswK (v := 11) (tgt := 511) dL_law_32 hv32 (by decide) (by decide) (by decide) rfl (by decide) ?_
      exact lw_511 h hi hL hk2
    · refine pp_tswK (v := 12) (tgt := 534) dL_law_32 hv32 (by decide) (by decide) (by decide) rfl (by decide) ?_
      exact lw_534 h hi hL hk2
    · refine pp_tswK (v := 13) (tgt := 557) dL_law_32 hv32 (by decide) (by decide) (by decide) rfl (by decide) ?_
      exact lw_557 h hi hL hk2
    · refine pp_tswK (v := 14) (tgt := 590) dL_law_32 hv32 (by decide) (by decide) (by decide) rfl (by decide) ?_
      exact lw_590 h hi hL hk2
    · refine pp_tswK (v := 15) (tgt := 633) dL_law_32 hv32 (by decide) (by decide) (by decide) rfl (by decide) ?_
      exact lw_633 h hi hL hk2
    · refine pp_tswK (v := 16) (tgt := 666) dL_law_32 hv32 (by decide) (by decide) (by decide) rfl (by decide) ?_
      exact lw_666 h hi hL hk2
    · refine pp_tswK (v := 17) (tgt := 709) dL_law_32 hv32 (by decide) (by decide) (by decide) rfl (by decide) ?_
      exact lw_709 h hi hL hk2
    · refine pp_tswK (v := 18) (tgt := 752) dL_law_32 hv32 (by decide) (by decide) (by decide) rfl (by decide) ?_
      exact lw_752 h hi hL hk2
    · refine pp_tswK (v := 19) (tgt := 785) dL_law_32 hv32 (by decide) (by decide) (by decide) rfl (by decide) ?_
      exact lw_785 h hi hL hk2
    · refine pp_tswK (v := 20) (tgt := 808) dL_law_32 hv32 (by decide) (by decide) (by decide) rfl (by decide) ?_
      exact lw_808 h hi hL hk2
    · refine pp_tswK (v := 21) (tgt := 861) dL_law_32 hv32 (by decide) (by decide) (by decide) rfl (by decide) ?_
      exact lw_861 h hi hL hk2
    · refine pp_tswK (v := 22) (tgt := 884) dL_law_32 hv32 (by decide) (by decide) (by decide) rfl (by decide) ?_
      exact lw_884 h hi hL hk2
    · refine pp_tswK (v := 23) (tgt := 897) dL_law_32 hv32 (by decide) (by decide) (by decide) rfl (by decide) ?_
      exact lw_897 h hi hL hk2
    · refine pp_tswK (v := 24) (tgt := 920) dL_law_32 hv32 (by decide) (by decide) (by decide) rfl (by decide) ?_
      exact lw_920 h hi hL hk2
    · refine pp_tswK (v := 25) (tgt := 953) dL_law_32 hv32 (by decide) (by decide) (by decide) rfl (by decide) ?_
      exact lw_953 h hi hL hk2
    · refine pp_tswK (v := 26) (tgt := 986) dL_law_32 hv32 (by decide) (by decide) (by decide) rfl (by decide) ?_
      exact lw_986 h hi hL hk2
    · refine pp_tswK (v := 27) (tgt := 1009) dL_law_32 hv32 (by decide) (by decide) (by decide) rfl (by decide) ?_
      exact lw_1009 h hi hL hk2
    · refine pp_tswK (v := 28) (tgt := 1042) dL_law_32 hv32 (by decide) (by decide) (by decide) rfl (by decide) ?_
      exact lw_1042 h hi hL hk2
    · refine pp_tswK (v := 29) (tgt := 1095) dL_law_32 hv32 (by decide) (by decide) (by decide) rfl (by decide) ?_
      exact lw_1095 h hi hL hk2
    · refine pp_tswK (v := 30) (tgt := 1108) dL_law_32 hv32 (by decide) (by decide) (by decide) rfl (by decide) ?_
      exact lw_1108 h hi hL hk2
    · refine pp_tswK (v := 31) (tgt := 1121) dL_law_32 hv32 (by decide) (by decide) (by decide) rfl (by decide) ?_
      exact lw_1121 h hi hL hk2
    · refine pp_tswK (v := 32) (tgt := 1134) dL_law_32 hv32 (by decide) (by decide) (by decide) rfl (by decide) ?_
      exact lw_1134 h hi hL hk2
    · refine pp_tswK (v := 33) (tgt := 1157) dL_law_32 hv32 (by decide) (by decide) (by decide) rfl (by decide) ?_
      exact lw_1157 h hi hL hk2
    · refine pp_tswK (v := 34) (tgt := 1170) dL_law_32 hv32 (by decide) (by decide) (by decide) rfl (by decide) ?_
      exact lw_1170 h hi hL hk2
  · refine pp_tswOut (tgt := 1193) dL_law_32 hv32 (by decide) ?_
    exact hk2 _ _ _ h
theorem lw_loop {sz L : Nat} {xs : Nat → Int32} (hL : L ≤ 2560) : ∀ (k i : Nat), L ≤ i + k → i ≤ 2570 → ∀ (ad : Nm → Nat) (g : Sg) (S : CS), LwI sz L xs g S → PP mL_law 18 [some (.ref (ad (50, 0, 0))), some (.ref (ad (0, 0, 0))), some (.ref (ad (40, 0, 0))), some (.int (nI i))] [] (Rel ad g) (LwQ sz)
  | 0, i, h1, h2, ad, g, S, h => lw_end h (by omega) hL h2
  | k + 1, i, h1, h2, ad, g, S, h => by
    by_cases hi : i + 5 ≤ L
    · exact lw_step h hi hL (fun ad' g' S' h' => lw_loop hL k (i + 5) (by omega) (by omega) ad' g' S' h')
    · exact lw_end h hi hL h2
