/-- answers by their kinds -/
def Ri (P : Int32 → Sg → Prop) : Option Value → Sg → Prop := fun v g => ∃ r, v = some (.int r) ∧ P r g
def Rj (P : Int64 → Sg → Prop) : Option Value → Sg → Prop := fun v g => ∃ r, v = some (.long r) ∧ P r g
def Rr (P : Option Nat → Sg → Prop) : Option Value → Sg → Prop := fun v g => ∃ r, v = some (va_rf r) ∧ P r g
def Rv (P : Sg → Prop) : Option Value → Sg → Prop := fun v g => v = none ∧ P g
theorem isRf_va {r : Option Nat} : isRf (va_rf r) := by
  cases r with
  | none => exact Or.inl rfl
  | some a => exact Or.inr ⟨a, rfl⟩
theorem isRf_r {a : Nat} : isRf (.ref a) := Or.inr ⟨a, rfl⟩
theorem isRf_n : isRf .null := Or.inl rfl
section PST
variable {M : MI} {pc q : Nat} {L : PLoc} {st : List Value} {ad : Nm → Nat} {g : Sg} {Q : Option Value → PH → Prop} {n : Nm}
theorem ri_ret {ad : Nm → Nat} {P : Int32 → Sg → Prop} {v : Int32} {ty : FieldType} (hd : decode (mC M) pc = .ok (.ireturn, 1)) (hr : mR M = some ty) (hn : narrow ty (.int v) = .int v) (k : P v g) : PP M pc L [.int v] (Rel ad g) (fun v G => ∃ g', Rel ad g' G ∧ Ri P v g') := pp_iret hd hr hn (PS.ret ⟨v, rfl, k⟩)
theorem rj_ret {ad : Nm → Nat} {P : Int64 → Sg → Prop} {v : Int64} (hd : decode (mC M) pc = .ok (.lreturn, 1)) (hr : mR M = some .long) (k : P v g) : PP M pc L [.long v] (Rel ad g) (fun v G => ∃ g', Rel ad g' G ∧ Rj P v g') := pp_lret hd hr (PS.ret ⟨v, rfl, k⟩)
theorem rr_ret {ad : Nm → Nat} {P : Option Nat → Sg → Prop} {v : Option Nat} {rt : FieldType} (hd : decode (mC M) pc = .ok (.areturn, 1)) (hr : mR M = some rt) (hrt : (∃ n, rt = .object n) ∨ ∃ t, rt = .array t) (k : P v g) : PP M pc L [va_rf v] (Rel ad g) (fun v G => ∃ g', Rel ad g' G ∧ Rr P v g') := pp_aret hd hr hrt isRf_va (PS.ret ⟨v, rfl, k⟩)
theorem rv_ret {ad : Nm → Nat} {P : Sg → Prop} (hd : decode (mC M) pc = .ok (.return_, 1)) (hr : mR M = none) (k : P g) : PP M pc L [] (Rel ad g) (fun v G => ∃ g', Rel ad g' G ∧ Rv P v g') := pp_vret hd hr (PS.ret ⟨rfl, k⟩)
/-- a switch at a known number -/
theorem pp_tswK {I : PH → Prop} {x : Int32} {dflt lo hi off : Int} {offs : Array Int} {len tgt v : Nat} (hd : decode (mC M) pc = .ok (.tableswitch dflt lo hi offs, len)) (hx : x = nI v) (hv : v < 2 ^ 31) (h1 : lo ≤ (v : Int)) (h2 : (v : Int) ≤ hi) (ho : offs[((v : Int) - lo).toNat]? = some off) (ht : (pc : Int) + off = (tgt : Int)) (k : PP M tgt L st I Q) : PP M pc L (.int x :: st) I Q := by
  have e : x.toInt = (v : Int) := by rw [hx]; exact nI_toInt hv
  exact pp_tswIn hd (by rw [e]; omega) (by rw [e]; omega) (by rw [e]; exact ho) ht k
theorem sw_cases (x : Int32) (a b : Nat) (hb : b < 2 ^ 31) : (∃ v : Nat, a ≤ v ∧ v ≤ b ∧ x = nI v) ∨ (x.toInt < (a : Int) ∨ (b : Int) < x.toInt) := by
  by_cases h1 : x.toInt < (a : Int)
  · exact Or.inr (Or.inl h1)
  by_cases h2 : (b : Int) < x.toInt
  · exact Or.inr (Or.inr h2)
  refine Or.inl ⟨x.toInt.toNat, by omega, by omega, ?_⟩
  apply Int32.toInt_inj.mp
  rw [nI_toInt (by omega)]
  omega
/-- an int that is a number below N -/
theorem nI_ex {x : Int32} {N : Nat} (h0 : ¬ x < 0) (h1 : x < nI N) (hN : N < 2 ^ 31) : ∃ j, j < N ∧ x = nI j := by
  obtain ⟨j, hj, rfl⟩ := nI_of h0
  exact ⟨j, (nI_ltI hj hN).mp h1, rfl⟩
theorem ps_callVi {idx ci : Nat} {N : MI} {As fs : List Value} {S0 : List Value} {P : Int32 → Sg → Prop} (hd : decode (mC M) pc = .ok (.invokevirtual idx, 3)) (hl : linkV (mY M).cls idx N) (hn : al g n) (hc : cell ad g n = .inr (ci, fs)) (hcl : (vwCl[ci]?).map (fun q => q.1) = some (mY N).cls) (hS : S0 = As.reverse ++ .ref (ad n) :: st) (hE : PS N 0 (ent N (.ref (ad n) :: As)) [] ad g (Ri P)) (hnp : As.length = mNp N) (hcat : (st.map fun v => v.category).sum ≤ 8) (hfr : mFr N + 1 ≤ mFr M) (hlc : 8 + (mL N + 11) + mLc N ≤ mLc M) (hel : (entL (.ref (ad n) :: As)).length ≤ mL N) (hp : pc + 3 = q) (kk : ∀ r g', P r g' → PP M q L (.int r :: st) (Rel ad g') Q) : PP M pc L S0 (Rel ad g) Q :=
  ps_callV hd hl hn hc hcl hS hE hnp hcat hfr hlc hel hp (fun v g' hv => by
  obtain ⟨r, rfl, h⟩ := hv
  exact kk r g' h)
theorem ps_callSi {idx : Nat} {N : MI} {As : List Value} {S0 : List Value} {P : Int32 → Sg → Prop} (hd : decode (mC M) pc = .ok (.invokestatic idx, 3)) (hl : linkS (mY M).cls idx N) (hS : S0 = As.reverse ++ st) (hE : PS N 0 (ent N As) [] ad g (Ri P)) (hnp : As.length = mNp N) (hcat : (st.map fun v => v.category).sum ≤ 8) (hfr : mFr N + 1 ≤ mFr M) (hlc : 8 + (mL N + 11) + mLc N ≤ mLc M) (hel : (entL As).length ≤ mL N) (hp : pc + 3 = q) (kk : ∀ r g', P r g' → PP M q L (.int r :: st) (Rel ad g') Q) : PP M pc L S0 (Rel ad g) Q :=
  ps_callS hd hl hS hE hnp hcat hfr hlc hel hp (fun v g' hv => by
  obtain ⟨r, rfl, h⟩ := hv
  exact kk r g' h)
theorem ps_callNi {idx : Nat} {N : MI} {As : List Value} {S0 : List Value} {P : Int32 → Sg → Prop} (hd : decode (mC M) pc = .ok (.invokestatic idx, 3)) (hl : linkN (mY M).cls idx N) (hS : S0 = As.reverse ++ st) (hE : PS N 0 (ent N As) [] ad g (Ri P)) (hnp : As.length = mNp N) (hcat : (st.map fun v => v.category).sum ≤ 8) (hfr : mFr N + 1 ≤ mFr M) (hlc : 8 + (mL N + 11) + mLc N ≤ mLc M) (hel : (entL As).length ≤ mL N) (hp : pc + 3 = q) (kk : ∀ r g', P r g' → PP M q L (.int r :: st) (Rel ad g') Q) : PP M pc L S0 (Rel ad g) Q :=
  ps_callN hd hl hS hE hnp hcat hfr hlc hel hp (fun v g' hv => by
  obtain ⟨r, rfl, h⟩ := hv
  exact kk r g' h)
theorem ps_callVj {idx ci : Nat} {N : MI} {As fs : List Value} {S0 : List Value} {P : Int64 → Sg → Prop} (hd : decode (mC M) pc = .ok (.invokevirtual idx, 3)) (hl : linkV (mY M).cls idx N) (hn : al g n) (hc : cell ad g n = .inr (ci, fs)) (hcl : (vwCl[ci]?).map (fun q => q.1) = some (mY N).cls) (hS : S0 = As.reverse ++ .ref (ad n) :: st) (hE : PS N 0 (ent N (.ref (ad n) :: As)) [] ad g (Rj P)) (hnp : As.length = mNp N) (hcat : (st.map fun v => v.category).sum ≤ 8) (hfr : mFr N + 1 ≤ mFr M) (hlc : 8 + (mL N + 11) + mLc N ≤ mLc M) (hel : (entL (.ref (ad n) :: As)).length ≤ mL N) (hp : pc + 3 = q) (kk : ∀ r g', P r g' → PP M q L (.long r :: st) (Rel ad g') Q) : PP M pc L S0 (Rel ad g) Q :=
  ps_callV hd hl hn hc hcl hS hE hnp hcat hfr hlc hel hp (fun v g' hv => by
  obtain ⟨r, rfl, h⟩ := hv
  exact kk r g' h)
theorem ps_callSj {idx : Nat} {N : MI} {As : List Value} {S0 : List Value} {P : Int64 → Sg → Prop} (hd : decode (mC M) pc = .ok (.invokestatic idx, 3)) (hl : linkS (mY M).cls idx N) (hS : S0 = As.reverse ++ st) (hE : PS N 0 (ent N As) [] ad g (Rj P)) (hnp : As.length = mNp N) (hcat : (st.map fun v => v.category).sum ≤ 8) (hfr : mFr N + 1 ≤ mFr M) (hlc : 8 + (mL N + 11) + mLc N ≤ mLc M) (hel : (entL As).length ≤ mL N) (hp : pc + 3 = q) (kk : ∀ r g', P r g' → PP M q L (.long r :: st) (Rel ad g') Q) : PP M pc L S0 (Rel ad g) Q :=
  ps_callS hd hl hS hE hnp hcat hfr hlc hel hp (fun v g' hv => by
  obtain ⟨r, rfl, h⟩ := hv
  exact kk r g' h)
theorem ps_callNj {idx : Nat} {N : MI} {As : List Value} {S0 : List Value} {P : Int64 → Sg → Prop} (hd : decode (mC M) pc = .ok (.invokestatic idx, 3)) (hl : linkN (mY M).cls idx N) (hS : S0 = As.reverse ++ st) (hE : PS N 0 (ent N As) [] ad g (Rj P)) (hnp : As.length = mNp N) (hcat : (st.map fun v => v.category).sum ≤ 8) (hfr : mFr N + 1 ≤ mFr M) (hlc : 8 + (mL N + 11) + mLc N ≤ mLc M) (hel : (entL As).length ≤ mL N) (hp : pc + 3 = q) (kk : ∀ r g', P r g' → PP M q L (.long r :: st) (Rel ad g') Q) : PP M pc L S0 (Rel ad g) Q :=
  ps_callN hd hl hS hE hnp hcat hfr hlc hel hp (fun v g' hv => by
  obtain ⟨r, rfl, h⟩ := hv
  exact kk r g' h)
theorem ps_callVr {idx ci : Nat} {N : MI} {As fs : List Value} {S0 : List Value} {P : Option Nat → Sg → Prop} (hd : decode (mC M) pc = .ok (.invokevirtual idx, 3)) (hl : linkV (mY M).cls idx N) (hn : al g n) (hc : cell ad g n = .inr (ci, fs)) (hcl : (vwCl[ci]?).map (fun q => q.1) = some (mY N).cls) (hS : S0 = As.reverse ++ .ref (ad n) :: st) (hE : PS N 0 (ent N (.ref (ad n) :: As)) [] ad g (Rr P)) (hnp : As.length = mNp N) (hcat : (st.map fun v => v.category).sum ≤ 8) (hfr : mFr N + 1 ≤ mFr M) (hlc : 8 + (mL N + 11) + mLc N ≤ mLc M) (hel : (entL (.ref (ad n) :: As)).length ≤ mL N) (hp : pc + 3 = q) (kk : ∀ r g', P r g' → PP M q L (va_rf r :: st) (Rel ad g') Q) : PP M pc L S0 (Rel ad g) Q :=
  ps_callV hd hl hn hc hcl hS hE hnp hcat hfr hlc hel hp (fun v g' hv => by
  obtain ⟨r, rfl, h⟩ := hv
  exact kk r g' h)
theorem ps_callSr {idx : Nat} {N : MI} {As : List Value} {S0 : List Value} {P : Option Nat → Sg → Prop} (hd : decode (mC M) pc = .ok (.invokestatic idx, 3)) (hl : linkS (mY M).cls idx N) (hS : S0 = As.reverse ++ st) (hE : PS N 0 (ent N As) [] ad g (Rr P)) (hnp : As.length = mNp N) (hcat : (st.map fun v => v.category).sum ≤ 8) (hfr : mFr N + 1 ≤ mFr M) (hlc : 8 + (mL N + 11) + mLc N ≤ mLc M) (hel : (entL As).length ≤ mL N) (hp : pc + 3 = q) (kk : ∀ r g', P r g' → PP M q L (va_rf r :: st) (Rel ad g') Q) : PP M pc L S0 (Rel ad g) Q :=
  ps_callS hd hl hS hE hnp hcat hfr hlc hel hp (fun v g' hv => by
  obtain ⟨r, rfl, h⟩ := hv
  exact kk r g' h)
theorem ps_callNr {idx : Nat} {N : MI} {As : List Value} {S0 : List Value} {P : Option Nat → Sg → Prop} (hd : decode (mC M) pc = .ok (.invokestatic idx, 3)) (hl : linkN (mY M).cls idx N) (hS : S0 = As.reverse ++ st) (hE : PS N 0 (ent N As) [] ad g (Rr P)) (hnp : As.length = mNp N) (hcat : (st.map fun v => v.category).sum ≤ 8) (hfr : mFr N + 1 ≤ mFr M) (hlc : 8 + (mL N + 11) + mLc N ≤ mLc M) (hel : (entL As).length ≤ mL N) (hp : pc + 3 = q) (kk : ∀ r g', P r g' → PP M q L (va_rf r :: st) (Rel ad g') Q) : PP M pc L S0 (Rel ad g) Q :=
  ps_callN hd hl hS hE hnp hcat hfr hlc hel hp (fun v g' hv => by
  obtain ⟨r, rfl, h⟩ := hv
  exact kk r g' h)
theorem ps_callVv {idx ci : Nat} {N : MI} {As fs : List Value} {S0 : List Value} {P : Sg → Prop} (hd : decode (mC M) pc = .ok (.invokevirtual idx, 3)) (hl : linkV (mY M).cls idx N) (hn : al g n) (hc : cell ad g n = .inr (ci, fs)) (hcl : (vwCl[ci]?).map (fun q => q.1) = some (mY N).cls) (hS : S0 = As.reverse ++ .ref (ad n) :: st) (hE : PS N 0 (ent N (.ref (ad n) :: As)) [] ad g (Rv P)) (hnp : As.length = mNp N) (hcat : (st.map fun v => v.category).sum ≤ 8) (hfr : mFr N + 1 ≤ mFr M) (hlc : 8 + (mL N + 11) + mLc N ≤ mLc M) (hel : (entL (.ref (ad n) :: As)).length ≤ mL N) (hp : pc + 3 = q) (kk : ∀ g', P g' → PP M q L (st) (Rel ad g') Q) : PP M pc L S0 (Rel ad g) Q :=
  ps_callV hd hl hn hc hcl hS hE hnp hcat hfr hlc hel hp (fun v g' hv => by
  obtain ⟨rfl, h⟩ := hv
  exact kk g' h)
theorem ps_callSv {idx : Nat} {N : MI} {As : List Value} {S0 : List Value} {P : Sg → Prop} (hd : decode (mC M) pc = .ok (.invokestatic idx, 3)) (hl : linkS (mY M).cls idx N) (hS : S0 = As.reverse ++ st) (hE : PS N 0 (ent N As) [] ad g (Rv P)) (hnp : As.length = mNp N) (hcat : (st.map fun v => v.category).sum ≤ 8) (hfr : mFr N + 1 ≤ mFr M) (hlc : 8 + (mL N + 11) + mLc N ≤ mLc M) (hel : (entL As).length ≤ mL N) (hp : pc + 3 = q) (kk : ∀ g', P g' → PP M q L (st) (Rel ad g') Q) : PP M pc L S0 (Rel ad g) Q :=
  ps_callS hd hl hS hE hnp hcat hfr hlc hel hp (fun v g' hv => by
  obtain ⟨rfl, h⟩ := hv
  exact kk g' h)
theorem ps_callNv {idx : Nat} {N : MI} {As : List Value} {S0 : List Value} {P : Sg → Prop} (hd : decode (mC M) pc = .ok (.invokestatic idx, 3)) (hl : linkN (mY M).cls idx N) (hS : S0 = As.reverse ++ st) (hE : PS N 0 (ent N As) [] ad g (Rv P)) (hnp : As.length = mNp N) (hcat : (st.map fun v => v.category).sum ≤ 8) (hfr : mFr N + 1 ≤ mFr M) (hlc : 8 + (mL N + 11) + mLc N ≤ mLc M) (hel : (entL As).length ≤ mL N) (hp : pc + 3 = q) (kk : ∀ g', P g' → PP M q L (st) (Rel ad g') Q) : PP M pc L S0 (Rel ad g) Q :=
  ps_callN hd hl hS hE hnp hcat hfr hlc hel hp (fun v g' hv => by
  obtain ⟨rfl, h⟩ := hv
  exact kk g' h)
end PST
theorem ci_m1 : Int32.ofInt (-1) = (-1) := by decide
theorem ci_0 : Int32.ofInt (0) = nI 0 := by decide
theorem ci_1 : Int32.ofInt (1) = nI 1 := by decide
theorem ci_2 : Int32.ofInt (2) = nI 2 := by decide
theorem ci_3 : Int32.ofInt (3) = nI 3 := by decide
theorem ci_4 : Int32.ofInt (4) = nI 4 := by decide
theorem ci_5 : Int32.ofInt (5) = nI 5 := by decide
theorem cb_m10 : (Int8.ofInt (-10)).toInt32 = (-10) := by decide
theorem cb_m9 : (Int8.ofInt (-9)).toInt32 = (-9) := by decide
theorem cb_m8 : (Int8.ofInt (-8)).toInt32 = (-8) := by decide
theorem cb_m7 : (Int8.ofInt (-7)).toInt32 = (-7) := by decide
theorem cb_m6 : (Int8.ofInt (-6)).toInt32 = (-6) := by decide
theorem cb_m5 : (Int8.ofInt (-5)).toInt32 = (-5) := by decide
theorem cb_m4 : (Int8.ofInt (-4)).toInt32 = (-4) := by decide
theorem cb_m3 : (Int8.ofInt (-3)).toInt32 = (-3) := by decide
theorem cb_m2 : (Int8.ofInt (-2)).toInt32 = (-2) := by decide
theorem cb_6 : (Int8.ofInt (6)).toInt32 = nI 6 := by decide
theorem cb_7 : (Int8.ofInt (7)).toInt32 = nI 7 := by decide
theorem cb_8 : (Int8.ofInt (8)).toInt32 = nI 8 := by decide
theorem cb_9 : (Int8.ofInt (9)).toInt32 = nI 9 := by decide
theorem cb_10 : (Int8.ofInt (10)).toInt32 = nI 10 := by decide
theorem cb_11 : (Int8.ofInt (11)).toInt32 = nI 11 := by decide
theorem cb_12 : (Int8.ofInt (12)).toInt32 = nI 12 := by decide
theorem cb_16 : (Int8.ofInt (16)).toInt32 = nI 16 := by decide
theorem cb_32 : (Int8.ofInt (32)).toInt32 = nI 32 := by decide
theorem cb_33 : (Int8.ofInt (33)).toInt32 = nI 33 := by decide
theorem cb_63 : (Int8.ofInt (63)).toInt32 = nI 63 := by decide
theorem cb_64 : (Int8.ofInt (64)).toInt32 = nI 64 := by decide
theorem cs_200 : (Int16.ofInt (200)).toInt32 = nI 200 := by decide
theorem cs_448 : (Int16.ofInt (448)).toInt32 = nI 448 := by decide
theorem cs_1196 : (Int16.ofInt (1196)).toInt32 = nI 1196 := by decide
theorem cs_1200 : (Int16.ofInt (1200)).toInt32 = nI 1200 := by decide
theorem cs_1300 : (Int16.ofInt (1300)).toInt32 = nI 1300 := by decide
theorem cs_4000 : (Int16.ofInt (4000)).toInt32 = nI 4000 := by decide
theorem cs_19800 : (Int16.ofInt (19800)).toInt32 = nI 19800 := by decide
theorem cs_20000 : (Int16.ofInt (20000)).toInt32 = nI 20000 := by decide
theorem cs_20928 : (Int16.ofInt (20928)).toInt32 = nI 20928 := by decide
theorem cs_25024 : (Int16.ofInt (25024)).toInt32 = nI 25024 := by decide
theorem cs_29120 : (Int16.ofInt (29120)).toInt32 = nI 29120 := by decide
