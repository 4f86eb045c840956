/-- from every heap with I the pure machine comes to an end with Q -/
def PP (M : MI) (pc : Nat) (L : PLoc) (st : List Value) (I : PH → Prop) (Q : Option Value → PH → Prop) : Prop := ∀ G, I G → ∃ (v : Option Value) (G' : PH), Ex M pc L st G (v, G') ∧ Q v G'
section PPR
variable {M : MI} {pc q : Nat} {L : PLoc} {st : List Value} {I I' : PH → Prop} {Q : Option Value → PH → Prop}
theorem PP.weak {Q' : Option Value → PH → Prop} (h : PP M pc L st I Q) (hQ : ∀ v G, Q v G → Q' v G) : PP M pc L st I Q' := fun G hG => by
  obtain ⟨v, G', h1, h2⟩ := h G hG
  exact ⟨v, G', h1, hQ _ _ h2⟩
theorem PP.pre (h : PP M pc L st I Q) (hI : ∀ G, I' G → I G) : PP M pc L st I' Q := fun G hG => h G (hI G hG)
theorem PP.at_ (hp : pc = q) (h : PP M q L st I Q) : PP M pc L st I Q := hp ▸ h
theorem PP.ex {α : Type} {J : α → PH → Prop} (h : ∀ x, PP M pc L st (J x) Q) : PP M pc L st (fun G => ∃ x, J x G) Q := fun G ⟨x, hx⟩ => h x G hx
theorem PP.fact {c : Prop} (h : c → PP M pc L st I Q) : PP M pc L st (fun G => c ∧ I G) Q := fun G ⟨hc, hG⟩ => h hc G hG

theorem pp_iconst {n : Int} {v : Int32} (h0 : decode (mC M) pc = .ok (.iconst n, 1)) (h1 : Int32.ofInt n = v) (hp : pc + 1 = q) (k : PP M q L (.int v :: st) I Q) : PP M pc L (st) I Q := fun G hG => by
  subst hp
  obtain ⟨v, G', e, hq⟩ := k G hG
  exact ⟨v, G', ex_iconst _ _ _ _ _ _ _ _ h0 h1 e, hq⟩
theorem pp_bipush {n : Int} {v : Int32} (h0 : decode (mC M) pc = .ok (.bipush n, 2)) (h1 : (Int8.ofInt n).toInt32 = v) (hp : pc + 2 = q) (k : PP M q L (.int v :: st) I Q) : PP M pc L (st) I Q := fun G hG => by
  subst hp
  obtain ⟨v, G', e, hq⟩ := k G hG
  exact ⟨v, G', ex_bipush _ _ _ _ _ _ _ _ h0 h1 e, hq⟩
theorem pp_sipush {n : Int} {v : Int32} (h0 : decode (mC M) pc = .ok (.sipush n, 3)) (h1 : (Int16.ofInt n).toInt32 = v) (hp : pc + 3 = q) (k : PP M q L (.int v :: st) I Q) : PP M pc L (st) I Q := fun G hG => by
  subst hp
  obtain ⟨v, G', e, hq⟩ := k G hG
  exact ⟨v, G', ex_sipush _ _ _ _ _ _ _ _ h0 h1 e, hq⟩
theorem pp_lconst {n : Fin 2} {v : Int64} (h0 : decode (mC M) pc = .ok (.lconst n, 1)) (h1 : Int64.ofNat (n : Nat) = v) (hp : pc + 1 = q) (k : PP M q L (.long v :: st) I Q) : PP M pc L (st) I Q := fun G hG => by
  subst hp
  obtain ⟨v, G', e, hq⟩ := k G hG
  exact ⟨v, G', ex_lconst _ _ _ _ _ _ _ _ h0 h1 e, hq⟩
theorem pp_null  (h0 : decode (mC M) pc = .ok (.aconst_null, 1)) (hp : pc + 1 = q) (k : PP M q L (.null :: st) I Q) : PP M pc L (st) I Q := fun G hG => by
  subst hp
  obtain ⟨v, G', e, hq⟩ := k G hG
  exact ⟨v, G', ex_null _ _ _ _ _ _ h0 e, hq⟩
theorem pp_ldc {i : Nat} {v : Int32} (h0 : decode (mC M) pc = .ok (.ldc i, 2)) (h1 : Cond.constant (mY M).cls i v ∈ lw_tbl) (hp : pc + 2 = q) (k : PP M q L (.int v :: st) I Q) : PP M pc L (st) I Q := fun G hG => by
  subst hp
  obtain ⟨v, G', e, hq⟩ := k G hG
  exact ⟨v, G', ex_ldc _ _ _ _ _ _ _ _ h0 h1 e, hq⟩
theorem pp_ldc2 {i : Nat} {v : Int64} (h0 : decode (mC M) pc = .ok (.ldc2_w i, 3)) (h1 : Cond.constantLong (mY M).cls i v ∈ lw_tbl) (hp : pc + 3 = q) (k : PP M q L (.long v :: st) I Q) : PP M pc L (st) I Q := fun G hG => by
  subst hp
  obtain ⟨v, G', e, hq⟩ := k G hG
  exact ⟨v, G', ex_ldc2 _ _ _ _ _ _ _ _ h0 h1 e, hq⟩
theorem pp_iload_n {k : Fin 4} {x : Int32} (h0 : decode (mC M) pc = .ok (.iload_n k, 1)) (h1 : L[(k : Nat)]? = some (some (.int x))) (hp : pc + 1 = q) (k : PP M q L (.int x :: st) I Q) : PP M pc L (st) I Q := fun G hG => by
  subst hp
  obtain ⟨v, G', e, hq⟩ := k G hG
  exact ⟨v, G', ex_iload_n _ _ _ _ _ _ _ _ h0 h1 e, hq⟩
theorem pp_iload {i : Nat} {x : Int32} (h0 : decode (mC M) pc = .ok (.iload i, 2)) (h1 : L[i]? = some (some (.int x))) (hp : pc + 2 = q) (k : PP M q L (.int x :: st) I Q) : PP M pc L (st) I Q := fun G hG => by
  subst hp
  obtain ⟨v, G', e, hq⟩ := k G hG
  exact ⟨v, G', ex_iload _ _ _ _ _ _ _ _ h0 h1 e, hq⟩
theorem pp_lload_n {k : Fin 4} {x : Int64} (h0 : decode (mC M) pc = .ok (.lload_n k, 1)) (h1 : L[(k : Nat)]? = some (some (.long x))) (hp : pc + 1 = q) (k : PP M q L (.long x :: st) I Q) : PP M pc L (st) I Q := fun G hG => by
  subst hp
  obtain ⟨v, G', e, hq⟩ := k G hG
  exact ⟨v, G', ex_lload_n _ _ _ _ _ _ _ _ h0 h1 e, hq⟩
theorem pp_lload {i : Nat} {x : Int64} (h0 : decode (mC M) pc = .ok (.lload i, 2)) (h1 : L[i]? = some (some (.long x))) (hp : pc + 2 = q) (k : PP M q L (.long x :: st) I Q) : PP M pc L (st) I Q := fun G hG => by
  subst hp
  obtain ⟨v, G', e, hq⟩ := k G hG
  exact ⟨v, G', ex_lload _ _ _ _ _ _ _ _ h0 h1 e, hq⟩
theorem pp_aload_n {k : Fin 4} {x : Value} (h0 : decode (mC M) pc = .ok (.aload_n k, 1)) (h1 : L[(k : Nat)]? = some (some x)) (h2 : isRf x) (hp : pc + 1 = q) (k : PP M q L (x :: st) I Q) : PP M pc L (st) I Q := fun G hG => by
  subst hp
  obtain ⟨v, G', e, hq⟩ := k G hG
  exact ⟨v, G', ex_aload_n _ _ _ _ _ _ _ _ h0 h1 h2 e, hq⟩
theorem pp_aload {i : Nat} {x : Value} (h0 : decode (mC M) pc = .ok (.aload i, 2)) (h1 : L[i]? = some (some x)) (h2 : isRf x) (hp : pc + 2 = q) (k : PP M q L (x :: st) I Q) : PP M pc L (st) I Q := fun G hG => by
  subst hp
  obtain ⟨v, G', e, hq⟩ := k G hG
  exact ⟨v, G', ex_aload _ _ _ _ _ _ _ _ h0 h1 h2 e, hq⟩
theorem pp_istore_n {k : Fin 4} {x : Int32} {L' : PLoc} (h0 : decode (mC M) pc = .ok (.istore_n k, 1)) (h1 : (k : Nat) < mL M) (h2 : LS1 L (k : Nat) (.int x) L') (hp : pc + 1 = q) (k : PP M q L' (st) I Q) : PP M pc L (.int x :: st) I Q := fun G hG => by
  subst hp
  obtain ⟨v, G', e, hq⟩ := k G hG
  exact ⟨v, G', ex_istore_n _ _ _ _ _ _ _ _ _ h0 h1 h2 e, hq⟩
theorem pp_istore {i : Nat} {x : Int32} {L' : PLoc} (h0 : decode (mC M) pc = .ok (.istore i, 2)) (h1 : i < mL M) (h2 : LS1 L i (.int x) L') (hp : pc + 2 = q) (k : PP M q L' (st) I Q) : PP M pc L (.int x :: st) I Q := fun G hG => by
  subst hp
  obtain ⟨v, G', e, hq⟩ := k G hG
  exact ⟨v, G', ex_istore _ _ _ _ _ _ _ _ _ h0 h1 h2 e, hq⟩
theorem pp_lstore_n {k : Fin 4} {x : Int64} {L' : PLoc} (h0 : decode (mC M) pc = .ok (.lstore_n k, 1)) (h1 : (k : Nat) + 1 < mL M) (h2 : LS2 L (k : Nat) (.long x) L') (hp : pc + 1 = q) (k : PP M q L' (st) I Q) : PP M pc L (.long x :: st) I Q := fun G hG => by
  subst hp
  obtain ⟨v, G', e, hq⟩ := k G hG
  exact ⟨v, G', ex_lstore_n _ _ _ _ _ _ _ _ _ h0 h1 h2 e, hq⟩
theorem pp_lstore {i : Nat} {x : Int64} {L' : PLoc} (h0 : decode (mC M) pc = .ok (.lstore i, 2)) (h1 : i + 1 < mL M) (h2 : LS2 L i (.long x) L') (hp : pc + 2 = q) (k : PP M q L' (st) I Q) : PP M pc L (.long x :: st) I Q := fun G hG => by
  subst hp
  obtain ⟨v, G', e, hq⟩ := k G hG
  exact ⟨v, G', ex_lstore _ _ _ _ _ _ _ _ _ h0 h1 h2 e, hq⟩
theorem pp_astore_n {k : Fin 4} {x : Value} {L' : PLoc} (h0 : decode (mC M) pc = .ok (.astore_n k, 1)) (h1 : isRf x) (h2 : (k : Nat) < mL M) (h3 : LS1 L (k : Nat) (x) L') (hp : pc + 1 = q) (k : PP M q L' (st) I Q) : PP M pc L (x :: st) I Q := fun G hG => by
  subst hp
  obtain ⟨v, G', e, hq⟩ := k G hG
  exact ⟨v, G', ex_astore_n _ _ _ _ _ _ _ _ _ h0 h1 h2 h3 e, hq⟩
theorem pp_astore {i : Nat} {x : Value} {L' : PLoc} (h0 : decode (mC M) pc = .ok (.astore i, 2)) (h1 : isRf x) (h2 : i < mL M) (h3 : LS1 L i (x) L') (hp : pc + 2 = q) (k : PP M q L' (st) I Q) : PP M pc L (x :: st) I Q := fun G hG => by
  subst hp
  obtain ⟨v, G', e, hq⟩ := k G hG
  exact ⟨v, G', ex_astore _ _ _ _ _ _ _ _ _ h0 h1 h2 h3 e, hq⟩
theorem pp_iinc {i : Nat} {n : Int} {x v : Int32} {L' : PLoc} (h0 : decode (mC M) pc = .ok (.iinc i n, 3)) (h1 : L[i]? = some (some (.int x))) (h2 : x + Int32.ofInt n = v) (h3 : LS1 L i (.int v) L') (hp : pc + 3 = q) (k : PP M q L' (st) I Q) : PP M pc L (st) I Q := fun G hG => by
  subst hp
  obtain ⟨v, G', e, hq⟩ := k G hG
  exact ⟨v, G', ex_iinc _ _ _ _ _ _ _ _ _ _ _ h0 h1 h2 h3 e, hq⟩
theorem pp_iadd {x y : Int32} (h0 : decode (mC M) pc = .ok (.iadd, 1)) (hp : pc + 1 = q) (k : PP M q L (.int (x + y) :: st) I Q) : PP M pc L (.int y :: .int x :: st) I Q := fun G hG => by
  subst hp
  obtain ⟨v, G', e, hq⟩ := k G hG
  exact ⟨v, G', ex_iadd _ _ _ _ _ _ _ _ h0 e, hq⟩
theorem pp_isub {x y : Int32} (h0 : decode (mC M) pc = .ok (.isub, 1)) (hp : pc + 1 = q) (k : PP M q L (.int (x - y) :: st) I Q) : PP M pc L (.int y :: .int x :: st) I Q := fun G hG => by
  subst hp
  obtain ⟨v, G', e, hq⟩ := k G hG
  exact ⟨v, G', ex_isub _ _ _ _ _ _ _ _ h0 e, hq⟩
theorem pp_imul {x y : Int32} (h0 : decode (mC M) pc = .ok (.imul, 1)) (hp : pc + 1 = q) (k : PP M q L (.int (x * y) :: st) I Q) : PP M pc L (.int y :: .int x :: st) I Q := fun G hG => by
  subst hp
  obtain ⟨v, G', e, hq⟩ := k G hG
  exact ⟨v, G', ex_imul _ _ _ _ _ _ _ _ h0 e, hq⟩
theorem pp_iand {x y : Int32} (h0 : decode (mC M) pc = .ok (.iand, 1)) (hp : pc + 1 = q) (k : PP M q L (.int (x &&& y) :: st) I Q) : PP M pc L (.int y :: .int x :: st) I Q := fun G hG => by
  subst hp
  obtain ⟨v, G', e, hq⟩ := k G hG
  exact ⟨v, G', ex_iand _ _ _ _ _ _ _ _ h0 e, hq⟩
theorem pp_ineg {x : Int32} (h0 : decode (mC M) pc = .ok (.ineg, 1)) (hp : pc + 1 = q) (k : PP M q L (.int (-x) :: st) I Q) : PP M pc L (.int x :: st) I Q := fun G hG => by
  subst hp
  obtain ⟨v, G', e, hq⟩ := k G hG
  exact ⟨v, G', ex_ineg _ _ _ _ _ _ _ h0 e, hq⟩
theorem pp_ladd {x y : Int64} (h0 : decode (mC M) pc = .ok (.ladd, 1)) (hp : pc + 1 = q) (k : PP M q L (.long (x + y) :: st) I Q) : PP M pc L (.long y :: .long x :: st) I Q := fun G hG => by
  subst hp
  obtain ⟨v, G', e, hq⟩ := k G hG
  exact ⟨v, G', ex_ladd _ _ _ _ _ _ _ _ h0 e, hq⟩
theorem pp_lmul {x y : Int64} (h0 : decode (mC M) pc = .ok (.lmul, 1)) (hp : pc + 1 = q) (k : PP M q L (.long (x * y) :: st) I Q) : PP M pc L (.long y :: .long x :: st) I Q := fun G hG => by
  subst hp
  obtain ⟨v, G', e, hq⟩ := k G hG
  exact ⟨v, G', ex_lmul _ _ _ _ _ _ _ _ h0 e, hq⟩
theorem pp_land {x y : Int64} (h0 : decode (mC M) pc = .ok (.land, 1)) (hp : pc + 1 = q) (k : PP M q L (.long (x &&& y) :: st) I Q) : PP M pc L (.long y :: .long x :: st) I Q := fun G hG => by
  subst hp
  obtain ⟨v, G', e, hq⟩ := k G hG
  exact ⟨v, G', ex_land _ _ _ _ _ _ _ _ h0 e, hq⟩
theorem pp_lor {x y : Int64} (h0 : decode (mC M) pc = .ok (.lor, 1)) (hp : pc + 1 = q) (k : PP M q L (.long (x ||| y) :: st) I Q) : PP M pc L (.long y :: .long x :: st) I Q := fun G hG => by
  subst hp
  obtain ⟨v, G', e, hq⟩ := k G hG
  exact ⟨v, G', ex_lor _ _ _ _ _ _ _ _ h0 e, hq⟩
theorem pp_lxor {x y : Int64} (h0 : decode (mC M) pc = .ok (.lxor, 1)) (hp : pc + 1 = q) (k : PP M q L (.long (x ^^^ y) :: st) I Q) : PP M pc L (.long y :: .long x :: st) I Q := fun G hG => by
  subst hp
  obtain ⟨v, G', e, hq⟩ := k G hG
  exact ⟨v, G', ex_lxor _ _ _ _ _ _ _ _ h0 e, hq⟩
theorem pp_lrem {x y : Int64} (h0 : decode (mC M) pc = .ok (.lrem, 1)) (h1 : ¬ y = 0) (hp : pc + 1 = q) (k : PP M q L (.long (x - x / y * y) :: st) I Q) : PP M pc L (.long y :: .long x :: st) I Q := fun G hG => by
  subst hp
  obtain ⟨v, G', e, hq⟩ := k G hG
  exact ⟨v, G', ex_lrem _ _ _ _ _ _ _ _ h0 h1 e, hq⟩
theorem pp_i2l {x : Int32} (h0 : decode (mC M) pc = .ok (.i2l, 1)) (hp : pc + 1 = q) (k : PP M q L (.long x.toInt64 :: st) I Q) : PP M pc L (.int x :: st) I Q := fun G hG => by
  subst hp
  obtain ⟨v, G', e, hq⟩ := k G hG
  exact ⟨v, G', ex_i2l _ _ _ _ _ _ _ h0 e, hq⟩
theorem pp_l2i {x : Int64} (h0 : decode (mC M) pc = .ok (.l2i, 1)) (hp : pc + 1 = q) (k : PP M q L (.int x.toInt32 :: st) I Q) : PP M pc L (.long x :: st) I Q := fun G hG => by
  subst hp
  obtain ⟨v, G', e, hq⟩ := k G hG
  exact ⟨v, G', ex_l2i _ _ _ _ _ _ _ h0 e, hq⟩
theorem pp_lushr {x : Int64} {y : Int32} (h0 : decode (mC M) pc = .ok (.lushr, 1)) (hp : pc + 1 = q) (k : PP M q L (.long (x.toUInt64 >>> (y.toInt64.toUInt64 &&& Int64.toUInt64 63)).toInt64 :: st) I Q) : PP M pc L (.int y :: .long x :: st) I Q := fun G hG => by
  subst hp
  obtain ⟨v, G', e, hq⟩ := k G hG
  exact ⟨v, G', ex_lushr _ _ _ _ _ _ _ _ h0 e, hq⟩
theorem pp_lshl {x : Int64} {y : Int32} (h0 : decode (mC M) pc = .ok (.lshl, 1)) (hp : pc + 1 = q) (k : PP M q L (.long (x <<< (y.toInt64 &&& 63)) :: st) I Q) : PP M pc L (.int y :: .long x :: st) I Q := fun G hG => by
  subst hp
  obtain ⟨v, G', e, hq⟩ := k G hG
  exact ⟨v, G', ex_lshl _ _ _ _ _ _ _ _ h0 e, hq⟩
theorem pp_lcmp {x y : Int64} (h0 : decode (mC M) pc = .ok (.lcmp, 1)) (hp : pc + 1 = q) (k : PP M q L (.int (lg_cmp x y) :: st) I Q) : PP M pc L (.long y :: .long x :: st) I Q := fun G hG => by
  subst hp
  obtain ⟨v, G', e, hq⟩ := k G hG
  exact ⟨v, G', ex_lcmp _ _ _ _ _ _ _ _ h0 e, hq⟩
theorem pp_dup {v : Value} (h0 : decode (mC M) pc = .ok (.dup, 1)) (h1 : v.category = 1) (hp : pc + 1 = q) (k : PP M q L (v :: v :: st) I Q) : PP M pc L (v :: st) I Q := fun G hG => by
  subst hp
  obtain ⟨v, G', e, hq⟩ := k G hG
  exact ⟨v, G', ex_dup _ _ _ _ _ _ _ h0 h1 e, hq⟩
theorem pp_pop {v : Value} (h0 : decode (mC M) pc = .ok (.pop, 1)) (h1 : v.category = 1) (hp : pc + 1 = q) (k : PP M q L (st) I Q) : PP M pc L (v :: st) I Q := fun G hG => by
  subst hp
  obtain ⟨v, G', e, hq⟩ := k G hG
  exact ⟨v, G', ex_pop _ _ _ _ _ _ _ h0 h1 e, hq⟩
theorem pp_dup2 {v w : Value} (h0 : decode (mC M) pc = .ok (.dup2, 1)) (h1 : v.category = 1) (h2 : w.category = 1) (hp : pc + 1 = q) (k : PP M q L (v :: w :: v :: w :: st) I Q) : PP M pc L (v :: w :: st) I Q := fun G hG => by
  subst hp
  obtain ⟨v, G', e, hq⟩ := k G hG
  exact ⟨v, G', ex_dup2 _ _ _ _ _ _ _ _ h0 h1 h2 e, hq⟩
theorem pp_pop2 {v : Value} (h0 : decode (mC M) pc = .ok (.pop2, 1)) (h1 : v.category = 2) (hp : pc + 1 = q) (k : PP M q L (st) I Q) : PP M pc L (v :: st) I Q := fun G hG => by
  subst hp
  obtain ⟨v, G', e, hq⟩ := k G hG
  exact ⟨v, G', ex_pop2 _ _ _ _ _ _ _ h0 h1 e, hq⟩
theorem pp_if_eq {x : Int32} {off : Int} {tgt : Nat} (h0 : decode (mC M) pc = .ok (.ifCond .eq off, 3)) (h1 : (pc : Int) + off = (tgt : Int)) (hp : pc + 3 = q) (k1 : x = 0 → PP M tgt L st I Q) (k2 : ¬ x = 0 → PP M q L st I Q) : PP M pc L (.int x :: st) I Q := fun G hG => by
  subst hp
  by_cases c : x = 0
  · obtain ⟨v, G', e, hq⟩ := k1 c G hG
    exact ⟨v, G', ex_if_eq _ _ _ _ _ _ x off tgt h0 h1 (fun _ => e) (fun c2 => absurd c c2), hq⟩
  · obtain ⟨v, G', e, hq⟩ := k2 c G hG
    exact ⟨v, G', ex_if_eq _ _ _ _ _ _ x off tgt h0 h1 (fun c2 => absurd c2 c) (fun _ => e), hq⟩
theorem pp_if_ne {x : Int32} {off : Int} {tgt : Nat} (h0 : decode (mC M) pc = .ok (.ifCond .ne off, 3)) (h1 : (pc : Int) + off = (tgt : Int)) (hp : pc + 3 = q) (k1 : ¬ x = 0 → PP M tgt L st I Q) (k2 : x = 0 → PP M q L st I Q) : PP M pc L (.int x :: st) I Q := fun G hG => by
  subst hp
  by_cases c : ¬ x = 0
  · obtain ⟨v, G', e, hq⟩ := k1 c G hG
    exact ⟨v, G', ex_if_ne _ _ _ _ _ _ x off tgt h0 h1 (fun _ => e) (fun c2 => absurd c2 c), hq⟩
  · obtain ⟨v, G', e, hq⟩ := k2 (Decidable.not_not.mp c) G hG
    exact ⟨v, G', ex_if_ne _ _ _ _ _ _ x off tgt h0 h1 (fun c2 => absurd c2 c) (fun _ => e), hq⟩
theorem pp_if_lt {x : Int32} {off : Int} {tgt : Nat} (h0 : decode (mC M) pc = .ok (.ifCond .lt off, 3)) (h1 : (pc : Int) + off = (tgt : Int)) (hp : pc + 3 = q) (k1 : x < 0 → PP M tgt L st I Q) (k2 : ¬ x < 0 → PP M q L st I Q) : PP M pc L (.int x :: st) I Q := fun G hG => by
  subst hp
  by_cases c : x < 0
  · obtain ⟨v, G', e, hq⟩ := k1 c G hG
    exact ⟨v, G', ex_if_lt _ _ _ _ _ _ x off tgt h0 h1 (fun _ => e) (fun c2 => absurd c c2), hq⟩
  · obtain ⟨v, G', e, hq⟩ := k2 c G hG
    exact ⟨v, G', ex_if_lt _ _ _ _ _ _ x off tgt h0 h1 (fun c2 => absurd c2 c) (fun _ => e), hq⟩
theorem pp_if_ge {x : Int32} {off : Int} {tgt : Nat} (h0 : decode (mC M) pc = .ok (.ifCond .ge off, 3)) (h1 : (pc : Int) + off = (tgt : Int)) (hp : pc + 3 = q) (k1 : 0 ≤ x → PP M tgt L st I Q) (k2 : ¬ 0 ≤ x → PP M q L st I Q) : PP M pc L (.int x :: st) I Q := fun G hG => by
  subst hp
  by_cases c : 0 ≤ x
  · obtain ⟨v, G', e, hq⟩ := k1 c G hG
    exact ⟨v, G', ex_if_ge _ _ _ _ _ _ x off tgt h0 h1 (fun _ => e) (fun c2 => absurd c c2), hq⟩
  · obtain ⟨v, G', e, hq⟩ := k2 c G hG
    exact ⟨v, G', ex_if_ge _ _ _ _ _ _ x off tgt h0 h1 (fun c2 => absurd c2 c) (fun _ => e), hq⟩
theorem pp_if_gt {x : Int32} {off : Int} {tgt : Nat} (h0 : decode (mC M) pc = .ok (.ifCond .gt off, 3)) (h1 : (pc : Int) + off = (tgt : Int)) (hp : pc + 3 = q) (k1 : 0 < x → PP M tgt L st I Q) (k2 : ¬ 0 < x → PP M q L st I Q) : PP M pc L (.int x :: st) I Q := fun G hG => by
  subst hp
  by_cases c : 0 < x
  · obtain ⟨v, G', e, hq⟩ := k1 c G hG
    exact ⟨v, G', ex_if_gt _ _ _ _ _ _ x off tgt h0 h1 (fun _ => e) (fun c2 => absurd c c2), hq⟩
  · obtain ⟨v, G', e, hq⟩ := k2 c G hG
    exact ⟨v, G', ex_if_gt _ _ _ _ _ _ x off tgt h0 h1 (fun c2 => absurd c2 c) (fun _ => e), hq⟩
theorem pp_if_le {x : Int32} {off : Int} {tgt : Nat} (h0 : decode (mC M) pc = .ok (.ifCond .le off, 3)) (h1 : (pc : Int) + off = (tgt : Int)) (hp : pc + 3 = q) (k1 : x ≤ 0 → PP M tgt L st I Q) (k2 : ¬ x ≤ 0 → PP M q L st I Q) : PP M pc L (.int x :: st) I Q := fun G hG => by
  subst hp
  by_cases c : x ≤ 0
  · obtain ⟨v, G', e, hq⟩ := k1 c G hG
    exact ⟨v, G', ex_if_le _ _ _ _ _ _ x off tgt h0 h1 (fun _ => e) (fun c2 => absurd c c2), hq⟩
  · obtain ⟨v, G', e, hq⟩ := k2 c G hG
    exact ⟨v, G', ex_if_le _ _ _ _ _ _ x off tgt h0 h1 (fun c2 => absurd c2 c) (fun _ => e), hq⟩
theorem pp_icmp_eq {x y : Int32} {off : Int} {tgt : Nat} (h0 : decode (mC M) pc = .ok (.if_icmp .eq off, 3)) (h1 : (pc : Int) + off = (tgt : Int)) (hp : pc + 3 = q) (k1 : x = y → PP M tgt L st I Q) (k2 : ¬ x = y → PP M q L st I Q) : PP M pc L (.int y :: .int x :: st) I Q := fun G hG => by
  subst hp
  by_cases c : x = y
  · obtain ⟨v, G', e, hq⟩ := k1 c G hG
    exact ⟨v, G', ex_icmp_eq _ _ _ _ _ _ x y off tgt h0 h1 (fun _ => e) (fun c2 => absurd c c2), hq⟩
  · obtain ⟨v, G', e, hq⟩ := k2 c G hG
    exact ⟨v, G', ex_icmp_eq _ _ _ _ _ _ x y off tgt h0 h1 (fun c2 => absurd c2 c) (fun _ => e), hq⟩
theorem pp_icmp_ne {x y : Int32} {off : Int} {tgt : Nat} (h0 : decode (mC M) pc = .ok (.if_icmp .ne off, 3)) (h1 : (pc : Int) + off = (tgt : Int)) (hp : pc + 3 = q) (k1 : ¬ x = y → PP M tgt L st I Q) (k2 : x = y → PP M q L st I Q) : PP M pc L (.int y :: .int x :: st) I Q := fun G hG => by
  subst hp
  by_cases c : ¬ x = y
  · obtain ⟨v, G', e, hq⟩ := k1 c G hG
    exact ⟨v, G', ex_icmp_ne _ _ _ _ _ _ x y off tgt h0 h1 (fun _ => e) (fun c2 => absurd c2 c), hq⟩
  · obtain ⟨v, G', e, hq⟩ := k2 (Decidable.not_not.mp c) G hG
    exact ⟨v, G', ex_icmp_ne _ _ _ _ _ _ x y off tgt h0 h1 (fun c2 => absurd c2 c) (fun _ => e), hq⟩
theorem pp_icmp_lt {x y : Int32} {off : Int} {tgt : Nat} (h0 : decode (mC M) pc = .ok (.if_icmp .lt off, 3)) (h1 : (pc : Int) + off = (tgt : Int)) (hp : pc + 3 = q) (k1 : x < y → PP M tgt L st I Q) (k2 : ¬ x < y → PP M q L st I Q) : PP M pc L (.int y :: .int x :: st) I Q := fun G hG => by
  subst hp
  by_cases c : x < y
  · obtain ⟨v, G', e, hq⟩ := k1 c G hG
    exact ⟨v, G', ex_icmp_lt _ _ _ _ _ _ x y off tgt h0 h1 (fun _ => e) (fun c2 => absurd c c2), hq⟩
  · obtain ⟨v, G', e, hq⟩ := k2 c G hG
    exact ⟨v, G', ex_icmp_lt _ _ _ _ _ _ x y off tgt h0 h1 (fun c2 => absurd c2 c) (fun _ => e), hq⟩
theorem pp_icmp_ge {x y : Int32} {off : Int} {tgt : Nat} (h0 : decode (mC M) pc = .ok (.if_icmp .ge off, 3)) (h1 : (pc : Int) + off = (tgt : Int)) (hp : pc + 3 = q) (k1 : y ≤ x → PP M tgt L st I Q) (k2 : ¬ y ≤ x → PP M q L st I Q) : PP M pc L (.int y :: .int x :: st) I Q := fun G hG => by
  subst hp
  by_cases c : y ≤ x
  · obtain ⟨v, G', e, hq⟩ := k1 c G hG
    exact ⟨v, G', ex_icmp_ge _ _ _ _ _ _ x y off tgt h0 h1 (fun _ => e) (fun c2 => absurd c c2), hq⟩
  · obtain ⟨v, G', e, hq⟩ := k2 c G hG
    exact ⟨v, G', ex_icmp_ge _ _ _ _ _ _ x y off tgt h0 h1 (fun c2 => absurd c2 c) (fun _ => e), hq⟩
theorem pp_icmp_gt {x y : Int32} {off : Int} {tgt : Nat} (h0 : decode (mC M) pc = .ok (.if_icmp .gt off, 3)) (h1 : (pc : Int) + off = (tgt : Int)) (hp : pc + 3 = q) (k1 : y < x → PP M tgt L st I Q) (k2 : ¬ y < x → PP M q L st I Q) : PP M pc L (.int y :: .int x :: st) I Q := fun G hG => by
  subst hp
  by_cases c : y < x
  · obtain ⟨v, G', e, hq⟩ := k1 c G hG
    exact ⟨v, G', ex_icmp_gt _ _ _ _ _ _ x y off tgt h0 h1 (fun _ => e) (fun c2 => absurd c c2), hq⟩
  · obtain ⟨v, G', e, hq⟩ := k2 c G hG
    exact ⟨v, G', ex_icmp_gt _ _ _ _ _ _ x y off tgt h0 h1 (fun c2 => absurd c2 c) (fun _ => e), hq⟩
theorem pp_icmp_le {x y : Int32} {off : Int} {tgt : Nat} (h0 : decode (mC M) pc = .ok (.if_icmp .le off, 3)) (h1 : (pc : Int) + off = (tgt : Int)) (hp : pc + 3 = q) (k1 : x ≤ y → PP M tgt L st I Q) (k2 : ¬ x ≤ y → PP M q L st I Q) : PP M pc L (.int y :: .int x :: st) I Q := fun G hG => by
  subst hp
  by_cases c : x ≤ y
  · obtain ⟨v, G', e, hq⟩ := k1 c G hG
    exact ⟨v, G', ex_icmp_le _ _ _ _ _ _ x y off tgt h0 h1 (fun _ => e) (fun c2 => absurd c c2), hq⟩
  · obtain ⟨v, G', e, hq⟩ := k2 c G hG
    exact ⟨v, G', ex_icmp_le _ _ _ _ _ _ x y off tgt h0 h1 (fun c2 => absurd c2 c) (fun _ => e), hq⟩
theorem pp_goto {off : Int} {tgt : Nat} (h0 : decode (mC M) pc = .ok (.goto off, 3)) (h1 : (pc : Int) + off = (tgt : Int)) (k : PP M tgt L (st) I Q) : PP M pc L (st) I Q := fun G hG => by
  skip
  obtain ⟨v, G', e, hq⟩ := k G hG
  exact ⟨v, G', ex_goto _ _ _ _ _ _ _ _ h0 h1 e, hq⟩
theorem pp_ifnull_r {x : Nat} {off : Int} (h0 : decode (mC M) pc = .ok (.ifnull off, 3)) (hp : pc + 3 = q) (k : PP M q L (st) I Q) : PP M pc L (.ref x :: st) I Q := fun G hG => by
  subst hp
  obtain ⟨v, G', e, hq⟩ := k G hG
  exact ⟨v, G', ex_ifnull_r _ _ _ _ _ _ _ _ h0 e, hq⟩
theorem pp_ifnull_n {off : Int} {tgt : Nat} (h0 : decode (mC M) pc = .ok (.ifnull off, 3)) (h1 : (pc : Int) + off = (tgt : Int)) (k : PP M tgt L (st) I Q) : PP M pc L (.null :: st) I Q := fun G hG => by
  skip
  obtain ⟨v, G', e, hq⟩ := k G hG
  exact ⟨v, G', ex_ifnull_n _ _ _ _ _ _ _ _ h0 h1 e, hq⟩
theorem pp_ifnonnull_r {x : Nat} {off : Int} {tgt : Nat} (h0 : decode (mC M) pc = .ok (.ifnonnull off, 3)) (h1 : (pc : Int) + off = (tgt : Int)) (k : PP M tgt L (st) I Q) : PP M pc L (.ref x :: st) I Q := fun G hG => by
  skip
  obtain ⟨v, G', e, hq⟩ := k G hG
  exact ⟨v, G', ex_ifnonnull_r _ _ _ _ _ _ _ _ _ h0 h1 e, hq⟩
theorem pp_ifnonnull_n {off : Int} (h0 : decode (mC M) pc = .ok (.ifnonnull off, 3)) (hp : pc + 3 = q) (k : PP M q L (st) I Q) : PP M pc L (.null :: st) I Q := fun G hG => by
  subst hp
  obtain ⟨v, G', e, hq⟩ := k G hG
  exact ⟨v, G', ex_ifnonnull_n _ _ _ _ _ _ _ h0 e, hq⟩
theorem pp_tswOut {x : Int32} {dflt lo hi : Int} {offs : Array Int} {len tgt : Nat} (h0 : decode (mC M) pc = .ok (.tableswitch dflt lo hi offs, len)) (h1 : (x.toInt < lo ∨ hi < x.toInt)) (h2 : (pc : Int) + dflt = (tgt : Int)) (k : PP M tgt L (st) I Q) : PP M pc L (.int x :: st) I Q := fun G hG => by
  skip
  obtain ⟨v, G', e, hq⟩ := k G hG
  exact ⟨v, G', ex_tswOut _ _ _ _ _ _ _ _ _ _ _ _ _ h0 h1 h2 e, hq⟩
theorem pp_tswIn {x : Int32} {dflt lo hi off : Int} {offs : Array Int} {len tgt : Nat} (h0 : decode (mC M) pc = .ok (.tableswitch dflt lo hi offs, len)) (h1 : ¬ x.toInt < lo) (h2 : ¬ hi < x.toInt) (h3 : offs[(x.toInt - lo).toNat]? = some off) (h4 : (pc : Int) + off = (tgt : Int)) (k : PP M tgt L (st) I Q) : PP M pc L (.int x :: st) I Q := fun G hG => by
  skip
  obtain ⟨v, G', e, hq⟩ := k G hG
  exact ⟨v, G', ex_tswIn _ _ _ _ _ _ _ _ _ _ _ _ _ _ h0 h1 h2 h3 h4 e, hq⟩
theorem pp_mmax {idx : Nat} {x y : Int32} (h0 : decode (mC M) pc = .ok (.invokestatic idx, 3)) (h1 : linkM (mY M).cls idx Lib.Math.max.name Lib.Math.max.code) (h2 : 1 ≤ mFr M) (h3 : (st.map fun v => v.category).sum + 13 ≤ mLc M) (hp : pc + 3 = q) (k : PP M q L (.int (if x < y then y else x) :: st) I Q) : PP M pc L (.int y :: .int x :: st) I Q := fun G hG => by
  subst hp
  obtain ⟨v, G', e, hq⟩ := k G hG
  exact ⟨v, G', ex_mmax _ _ _ _ _ _ _ _ _ h0 h1 h2 h3 e, hq⟩
theorem pp_mmin {idx : Nat} {x y : Int32} (h0 : decode (mC M) pc = .ok (.invokestatic idx, 3)) (h1 : linkM (mY M).cls idx Lib.Math.min.name Lib.Math.min.code) (h2 : 1 ≤ mFr M) (h3 : (st.map fun v => v.category).sum + 13 ≤ mLc M) (hp : pc + 3 = q) (k : PP M q L (.int (if y < x then y else x) :: st) I Q) : PP M pc L (.int y :: .int x :: st) I Q := fun G hG => by
  subst hp
  obtain ⟨v, G', e, hq⟩ := k G hG
  exact ⟨v, G', ex_mmin _ _ _ _ _ _ _ _ _ h0 h1 h2 h3 e, hq⟩
theorem pp_objI {idx a : Nat} (h0 : decode (mC M) pc = .ok (.invokespecial idx, 3)) (h1 : linkO (mY M).cls idx) (h2 : 1 ≤ mFr M) (h3 : (st.map fun v => v.category).sum + 12 ≤ mLc M) (hp : pc + 3 = q) (k : PP M q L (st) I Q) : PP M pc L (.ref a :: st) I Q := fun G hG => by
  subst hp
  obtain ⟨v, G', e, hq⟩ := k G hG
  exact ⟨v, G', ex_objI _ _ _ _ _ _ _ _ h0 h1 h2 h3 e, hq⟩
theorem pp_get {a idx ci k : Nat} {t : FieldType} {fin : Bool} {fs : List Value} {v : Value} (hd : decode (mC M) pc = .ok (.getfield idx, 3)) (hf : FL (mY M).cls idx ci k t fin) (hc : ∀ G, I G → G.2.2 a = some (.inr (ci, fs))) (hv : fs[k]? = some v) (hp : pc + 3 = q) (kk : PP M q L (v :: st) I Q) : PP M pc L (.ref a :: st) I Q := fun G hG => by
  subst hp
  obtain ⟨v', G', e, hq⟩ := kk G hG
  exact ⟨v', G', ex_get _ _ _ _ _ _ _ _ _ _ _ _ _ _ hd hf (hc G hG) hv e, hq⟩
theorem pp_put {a idx ci k : Nat} {t : FieldType} {fs : List Value} {v : Value} (hd : decode (mC M) pc = .ok (.putfield idx, 3)) (hf : FL (mY M).cls idx ci k t false) (hc : ∀ G, I G → G.2.2 a = some (.inr (ci, fs))) (hk : k < fs.length) (hn : narrow t v = v) (hfit : fits t v = true) (hI : ∀ G, I G → I' (phUp G a (.inr (ci, fs.set k v)))) (hp : pc + 3 = q) (kk : PP M q L st I' Q) : PP M pc L (v :: .ref a :: st) I Q := fun G hG => by
  subst hp
  obtain ⟨v', G', e, hq⟩ := kk _ (hI G hG)
  exact ⟨v', G', ex_put _ _ _ _ _ _ _ _ _ _ _ _ _ hd hf (hc G hG) hk hn hfit e, hq⟩
theorem pp_putF {a idx ci k : Nat} {t : FieldType} {fs : List Value} {v : Value} (hd : decode (mC M) pc = .ok (.putfield idx, 3)) (hf : FL (mY M).cls idx ci k t true) (hc : ∀ G, I G → G.2.2 a = some (.inr (ci, fs))) (hk : k < fs.length) (hn : narrow t v = v) (hfit : fits t v = true) (hin : (mY M).name = "<init>") (hcl : (vwCl[ci]?).map (fun q => q.1) = some (mY M).cls) (hI : ∀ G, I G → I' (phUp G a (.inr (ci, fs.set k v)))) (hp : pc + 3 = q) (kk : PP M q L st I' Q) : PP M pc L (v :: .ref a :: st) I Q := fun G hG => by
  subst hp
  obtain ⟨v', G', e, hq⟩ := kk _ (hI G hG)
  exact ⟨v', G', ex_putF _ _ _ _ _ _ _ _ _ _ _ _ _ hd hf (hc G hG) hk hn hfit hin hcl e, hq⟩
theorem pp_iald {a n : Nat} {i : Int32} {f : Nat → Int32} (hd : decode (mC M) pc = .ok (.iaload, 1)) (hc : ∀ G, I G → G.2.2 a = some (.inl (0, n, .inl f))) (hi : vp_in i n) (hp : pc + 1 = q) (kk : PP M q L (.int (f i.toNatClampNeg) :: st) I Q) : PP M pc L (.int i :: .ref a :: st) I Q := fun G hG => by
  subst hp
  obtain ⟨v', G', e, hq⟩ := kk G hG
  exact ⟨v', G', ex_iald _ _ _ _ _ _ _ _ _ _ hd (hc G hG) hi e, hq⟩
theorem pp_zald {a n : Nat} {i : Int32} {f : Nat → Int32} (hd : decode (mC M) pc = .ok (.baload, 1)) (hc : ∀ G, I G → G.2.2 a = some (.inl (2, n, .inl f))) (hi : vp_in i n) (hp : pc + 1 = q) (kk : PP M q L (.int (f i.toNatClampNeg) :: st) I Q) : PP M pc L (.int i :: .ref a :: st) I Q := fun G hG => by
  subst hp
  obtain ⟨v', G', e, hq⟩ := kk G hG
  exact ⟨v', G', ex_zald _ _ _ _ _ _ _ _ _ _ hd (hc G hG) hi e, hq⟩
theorem pp_lald {a n : Nat} {i : Int32} {f : Nat → Int64} (hd : decode (mC M) pc = .ok (.laload, 1)) (hc : ∀ G, I G → G.2.2 a = some (.inl (1, n, .inr (.inl f)))) (hi : vp_in i n) (hp : pc + 1 = q) (kk : PP M q L (.long (f i.toNatClampNeg) :: st) I Q) : PP M pc L (.int i :: .ref a :: st) I Q := fun G hG => by
  subst hp
  obtain ⟨v', G', e, hq⟩ := kk G hG
  exact ⟨v', G', ex_lald _ _ _ _ _ _ _ _ _ _ hd (hc G hG) hi e, hq⟩
theorem pp_aald {a n : Nat} {i : Int32} {f : Nat → Option Nat} (hd : decode (mC M) pc = .ok (.aaload, 1)) (hc : ∀ G, I G → G.2.2 a = some (.inl (3, n, .inr (.inr (.inr (.inr f)))))) (hi : vp_in i n) (hp : pc + 1 = q) (kk : PP M q L (va_rf (f i.toNatClampNeg) :: st) I Q) : PP M pc L (.int i :: .ref a :: st) I Q := fun G hG => by
  subst hp
  obtain ⟨v', G', e, hq⟩ := kk G hG
  exact ⟨v', G', ex_aald _ _ _ _ _ _ _ _ _ _ hd (hc G hG) hi e, hq⟩
theorem pp_sld {a n : Nat} {i : Int32} {f : Nat → Int32} (hd : decode (mC M) pc = .ok (.iaload, 1)) (hc : ∀ G, I G → G.2.2 a = some (.inl (9, n, .inl f))) (hi : vp_in i n) (hp : pc + 1 = q) (kk : PP M q L (.int (f i.toNatClampNeg) :: st) I Q) : PP M pc L (.int i :: .ref a :: st) I Q := fun G hG => by
  subst hp
  obtain ⟨v', G', e, hq⟩ := kk G hG
  exact ⟨v', G', ex_sld _ _ _ _ _ _ _ _ _ _ hd (hc G hG) hi e, hq⟩
theorem pp_iast {a n : Nat} {i : Int32} {x : Int32} {f : Nat → Int32} (hd : decode (mC M) pc = .ok (.iastore, 1)) (hc : ∀ G, I G → G.2.2 a = some (.inl (0, n, .inl f))) (hi : vp_in i n) (hI : ∀ G, I G → I' (phUp G a (.inl (0, n, .inl (upd f i.toNatClampNeg x))))) (hp : pc + 1 = q) (kk : PP M q L st I' Q) : PP M pc L (.int x :: .int i :: .ref a :: st) I Q := fun G hG => by
  subst hp
  obtain ⟨v', G', e, hq⟩ := kk _ (hI G hG)
  exact ⟨v', G', ex_iast _ _ _ _ _ _ _ _ _ _ _ hd (hc G hG) hi e, hq⟩
theorem pp_zast {a n : Nat} {i : Int32} {x : Int32} {f : Nat → Int32} (hd : decode (mC M) pc = .ok (.bastore, 1)) (hc : ∀ G, I G → G.2.2 a = some (.inl (2, n, .inl f))) (hi : vp_in i n) (hnr : vp_nar .boolean x = x) (hI : ∀ G, I G → I' (phUp G a (.inl (2, n, .inl (upd f i.toNatClampNeg x))))) (hp : pc + 1 = q) (kk : PP M q L st I' Q) : PP M pc L (.int x :: .int i :: .ref a :: st) I Q := fun G hG => by
  subst hp
  obtain ⟨v', G', e, hq⟩ := kk _ (hI G hG)
  exact ⟨v', G', ex_zast _ _ _ _ _ _ _ _ _ _ _ hd (hc G hG) hi hnr e, hq⟩
theorem pp_last {a n : Nat} {i : Int32} {x : Int64} {f : Nat → Int64} (hd : decode (mC M) pc = .ok (.lastore, 1)) (hc : ∀ G, I G → G.2.2 a = some (.inl (1, n, .inr (.inl f)))) (hi : vp_in i n) (hI : ∀ G, I G → I' (phUp G a (.inl (1, n, .inr (.inl (vp_updL f i.toNatClampNeg x)))))) (hp : pc + 1 = q) (kk : PP M q L st I' Q) : PP M pc L (.long x :: .int i :: .ref a :: st) I Q := fun G hG => by
  subst hp
  obtain ⟨v', G', e, hq⟩ := kk _ (hI G hG)
  exact ⟨v', G', ex_last _ _ _ _ _ _ _ _ _ _ _ hd (hc G hG) hi e, hq⟩
theorem pp_aast {a n v : Nat} {i : Int32} {fs : List Value} {f : Nat → Option Nat} (hd : decode (mC M) pc = .ok (.aastore, 1)) (hc : ∀ G, I G → G.2.2 a = some (.inl (3, n, .inr (.inr (.inr (.inr f)))))) (hv : ∀ G, I G → G.2.2 v = some (.inr (1, fs))) (hi : vp_in i n) (hI : ∀ G, I G → I' (phUp G a (.inl (3, n, .inr (.inr (.inr (.inr (va_up f i.toNatClampNeg (some v))))))))) (hp : pc + 1 = q) (kk : PP M q L st I' Q) : PP M pc L (.ref v :: .int i :: .ref a :: st) I Q := fun G hG => by
  subst hp
  obtain ⟨v', G', e, hq⟩ := kk _ (hI G hG)
  exact ⟨v', G', ex_aast _ _ _ _ _ _ _ _ _ _ _ _ hd (hc G hG) (hv G hG) hi e, hq⟩
theorem pp_alen {a t : Nat} {x : vp_A} {v : Int32} (hd : decode (mC M) pc = .ok (.arraylength, 1)) (hc : ∀ G, I G → G.2.2 a = some (.inl (t, x))) (ht : t < 4) (hv : Int32.ofNat x.1 = v) (hp : pc + 1 = q) (kk : PP M q L (.int v :: st) I Q) : PP M pc L (.ref a :: st) I Q := fun G hG => by
  subst hp
  obtain ⟨v', G', e, hq⟩ := kk G hG
  exact ⟨v', G', ex_alen _ _ _ _ _ _ _ _ _ _ hd (hc G hG) ht hv e, hq⟩
theorem pp_slen {a n : Nat} {f : Nat → Int32} (hd : decode (mC M) pc = .ok (.arraylength, 1)) (hc : ∀ G, I G → G.2.2 a = some (.inl (9, n, .inl f))) (hp : pc + 1 = q) (kk : PP M q L (.int (Int32.ofNat n) :: st) I Q) : PP M pc L (.ref a :: st) I Q := fun G hG => by
  subst hp
  obtain ⟨v', G', e, hq⟩ := kk G hG
  exact ⟨v', G', ex_slen _ _ _ _ _ _ _ _ _ hd (hc G hG) e, hq⟩
theorem pp_new {idx ci a : Nat} {fs : List Value} (hd : decode (mC M) pc = .ok (.new idx, 3)) (hl : linkNew (mY M).cls idx ci fs) (ha : ∀ G, I G → G.1 = a) (hI : ∀ G, I G → I' (phNew G fs.length (.inr (ci, fs)))) (hp : pc + 3 = q) (kk : PP M q L (.ref a :: st) I' Q) : PP M pc L st I Q := fun G hG => by
  subst hp
  obtain ⟨v', G', e, hq⟩ := kk _ (hI G hG)
  have := ha G hG
  subst this
  exact ⟨v', G', ex_new _ _ _ _ _ _ _ _ _ hd hl e, hq⟩
theorem pp_newi {a n : Nat} {x : Int32} (hd : decode (mC M) pc = .ok (.newarray .int, 2)) (h0 : ¬ x < 0) (hn : x.toNatClampNeg = n) (hle : n ≤ 1000000) (ha : ∀ G, I G → G.1 = a) (hI : ∀ G, I G → I' (phNew G n (.inl (0, n, .inl (fun _ => 0))))) (hp : pc + 2 = q) (kk : PP M q L (.ref a :: st) I' Q) : PP M pc L (.int x :: st) I Q := fun G hG => by
  subst hp
  obtain ⟨v', G', e, hq⟩ := kk _ (hI G hG)
  have := ha G hG
  subst this
  exact ⟨v', G', ex_newi _ _ _ _ _ _ _ _ hd h0 hn hle e, hq⟩
theorem pp_newl {a n : Nat} {x : Int32} (hd : decode (mC M) pc = .ok (.newarray .long, 2)) (h0 : ¬ x < 0) (hn : x.toNatClampNeg = n) (hle : n ≤ 1000000) (ha : ∀ G, I G → G.1 = a) (hI : ∀ G, I G → I' (phNew G n (.inl (1, n, .inr (.inl (fun _ => 0)))))) (hp : pc + 2 = q) (kk : PP M q L (.ref a :: st) I' Q) : PP M pc L (.int x :: st) I Q := fun G hG => by
  subst hp
  obtain ⟨v', G', e, hq⟩ := kk _ (hI G hG)
  have := ha G hG
  subst this
  exact ⟨v', G', ex_newl _ _ _ _ _ _ _ _ hd h0 hn hle e, hq⟩
theorem pp_newz {a n : Nat} {x : Int32} (hd : decode (mC M) pc = .ok (.newarray .boolean, 2)) (h0 : ¬ x < 0) (hn : x.toNatClampNeg = n) (hle : n ≤ 1000000) (ha : ∀ G, I G → G.1 = a) (hI : ∀ G, I G → I' (phNew G n (.inl (2, n, .inl (fun _ => 0))))) (hp : pc + 2 = q) (kk : PP M q L (.ref a :: st) I' Q) : PP M pc L (.int x :: st) I Q := fun G hG => by
  subst hp
  obtain ⟨v', G', e, hq⟩ := kk _ (hI G hG)
  have := ha G hG
  subst this
  exact ⟨v', G', ex_newz _ _ _ _ _ _ _ _ hd h0 hn hle e, hq⟩
theorem pp_anew {idx a n : Nat} {x : Int32} (hd : decode (mC M) pc = .ok (.anewarray idx, 3)) (hl : Cond.classLink (mY M).cls idx RX1 ∈ lw_tbl ∧ Cond.arrayOver (.object RX1) ∈ lw_tbl) (h0 : ¬ x < 0) (hn : x.toNatClampNeg = n) (hle : n ≤ 1000000) (ha : ∀ G, I G → G.1 = a) (hI : ∀ G, I G → I' (phNew G n (.inl (3, n, .inr (.inr (.inr (.inr (fun _ => none)))))))) (hp : pc + 3 = q) (kk : PP M q L (.ref a :: st) I' Q) : PP M pc L (.int x :: st) I Q := fun G hG => by
  subst hp
  obtain ⟨v', G', e, hq⟩ := kk _ (hI G hG)
  have := ha G hG
  subst this
  exact ⟨v', G', ex_anew _ _ _ _ _ _ _ _ _ hd hl h0 hn hle e, hq⟩
theorem pp_copyi {idx a b n1 n2 : Nat} {sp dp n : Int32} {f g : Nat → Int32} (hd : decode (mC M) pc = .ok (.invokestatic idx, 3)) (hl : linkC (mY M).cls idx) (ha : ∀ G, I G → G.2.2 a = some (.inl (0, n1, .inl f))) (hb : ∀ G, I G → G.2.2 b = some (.inl (0, n2, .inl g))) (h1 : ¬ sp < 0) (h2 : ¬ dp < 0) (h3 : ¬ n < 0) (h4 : sp.toNatClampNeg + n.toNatClampNeg ≤ n1) (h5 : dp.toNatClampNeg + n.toNatClampNeg ≤ n2) (hf : 1 ≤ mFr M) (hlc : (st.map fun v => v.category).sum + 18 ≤ mLc M) (hI : ∀ G, I G → I' (phUp G b (.inl (0, n2, .inl (va_cpy f g sp.toNatClampNeg dp.toNatClampNeg n.toNatClampNeg))))) (hp : pc + 3 = q) (kk : PP M q L st I' Q) : PP M pc L (.int n :: .int dp :: .ref b :: .int sp :: .ref a :: st) I Q := fun G hG => by
  subst hp
  obtain ⟨v', G', e, hq⟩ := kk _ (hI G hG)
  exact ⟨v', G', ex_copyi _ _ _ _ _ _ _ _ _ _ _ _ _ _ _ _ hd hl (ha G hG) (hb G hG) h1 h2 h3 h4 h5 hf hlc e, hq⟩
theorem pp_copyl {idx a b n1 n2 : Nat} {sp dp n : Int32} {f g : Nat → Int64} (hd : decode (mC M) pc = .ok (.invokestatic idx, 3)) (hl : linkC (mY M).cls idx) (ha : ∀ G, I G → G.2.2 a = some (.inl (1, n1, .inr (.inl f)))) (hb : ∀ G, I G → G.2.2 b = some (.inl (1, n2, .inr (.inl g)))) (h1 : ¬ sp < 0) (h2 : ¬ dp < 0) (h3 : ¬ n < 0) (h4 : sp.toNatClampNeg + n.toNatClampNeg ≤ n1) (h5 : dp.toNatClampNeg + n.toNatClampNeg ≤ n2) (hf : 1 ≤ mFr M) (hlc : (st.map fun v => v.category).sum + 18 ≤ mLc M) (hI : ∀ G, I G → I' (phUp G b (.inl (1, n2, .inr (.inl (va_cpy f g sp.toNatClampNeg dp.toNatClampNeg n.toNatClampNeg)))))) (hp : pc + 3 = q) (kk : PP M q L st I' Q) : PP M pc L (.int n :: .int dp :: .ref b :: .int sp :: .ref a :: st) I Q := fun G hG => by
  subst hp
  obtain ⟨v', G', e, hq⟩ := kk _ (hI G hG)
  exact ⟨v', G', ex_copyl _ _ _ _ _ _ _ _ _ _ _ _ _ _ _ _ hd hl (ha G hG) (hb G hG) h1 h2 h3 h4 h5 hf hlc e, hq⟩
theorem pp_callV {idx b ci : Nat} {N : MI} {As : List Value} {S0 : List Value} {Q1 : Option Value → PH → Prop} (hd : decode (mC M) pc = .ok (.invokevirtual idx, 3)) (hl : linkV (mY M).cls idx N) (hc : ∀ G, I G → ∃ fs, G.2.2 b = some (.inr (ci, fs))) (hcl : (vwCl[ci]?).map (fun q => q.1) = some (mY N).cls) (hn : As.length = mNp N) (hcat : (st.map fun v => v.category).sum ≤ 8) (hfr : mFr N + 1 ≤ mFr M) (hlc : 8 + (mL N + 11) + mLc N ≤ mLc M) (hel : (entL (.ref b :: As)).length ≤ mL N) (hS : S0 = As.reverse ++ .ref b :: st) (hE : PP N 0 (ent N (.ref b :: As)) [] I Q1) (hp : pc + 3 = q) (kk : ∀ v, PP M q L (v.toList ++ st) (Q1 v) Q) : PP M pc L S0 I Q := fun G hG => by
  subst hp
  subst hS
  obtain ⟨v, G1, e1, hq1⟩ := hE G hG
  obtain ⟨v', G', e, hq⟩ := kk v G1 hq1
  obtain ⟨fs, hfs⟩ := hc G hG
  exact ⟨v', G', ex_callV _ _ _ _ _ _ _ _ _ _ _ _ _ _ hd hl hfs hcl hn hcat hfr hlc hel e1 e, hq⟩
theorem pp_callS {idx : Nat} {N : MI} {As : List Value} {S0 : List Value} {Q1 : Option Value → PH → Prop} (hd : decode (mC M) pc = .ok (.invokestatic idx, 3)) (hl : linkS (mY M).cls idx N) (hn : As.length = mNp N) (hcat : (st.map fun v => v.category).sum ≤ 8) (hfr : mFr N + 1 ≤ mFr M) (hlc : 8 + (mL N + 11) + mLc N ≤ mLc M) (hel : (entL As).length ≤ mL N) (hS : S0 = As.reverse ++ st) (hE : PP N 0 (ent N As) [] I Q1) (hp : pc + 3 = q) (kk : ∀ v, PP M q L (v.toList ++ st) (Q1 v) Q) : PP M pc L S0 I Q := fun G hG => by
  subst hp
  subst hS
  obtain ⟨v, G1, e1, hq1⟩ := hE G hG
  obtain ⟨v', G', e, hq⟩ := kk v G1 hq1
  exact ⟨v', G', ex_callS _ _ _ _ _ _ _ _ _ _ _ hd hl hn hcat hfr hlc hel e1 e, hq⟩
theorem pp_callN {idx : Nat} {N : MI} {As : List Value} {S0 : List Value} {Q1 : Option Value → PH → Prop} (hd : decode (mC M) pc = .ok (.invokestatic idx, 3)) (hl : linkN (mY M).cls idx N) (hn : As.length = mNp N) (hcat : (st.map fun v => v.category).sum ≤ 8) (hfr : mFr N + 1 ≤ mFr M) (hlc : 8 + (mL N + 11) + mLc N ≤ mLc M) (hel : (entL As).length ≤ mL N) (hS : S0 = As.reverse ++ st) (hE : PP N 0 (ent N As) [] I Q1) (hp : pc + 3 = q) (kk : ∀ v, PP M q L (v.toList ++ st) (Q1 v) Q) : PP M pc L S0 I Q := fun G hG => by
  subst hp
  subst hS
  obtain ⟨v, G1, e1, hq1⟩ := hE G hG
  obtain ⟨v', G', e, hq⟩ := kk v G1 hq1
  exact ⟨v', G', ex_callN _ _ _ _ _ _ _ _ _ _ _ hd hl hn hcat hfr hlc hel e1 e, hq⟩
theorem pp_callI {idx b : Nat} {N : MI} {As : List Value} {S0 : List Value} {Q1 : Option Value → PH → Prop} (hd : decode (mC M) pc = .ok (.invokespecial idx, 3)) (hl : linkI (mY M).cls idx N) (hn : As.length = mNp N) (hcat : (st.map fun v => v.category).sum ≤ 8) (hfr : mFr N + 1 ≤ mFr M) (hlc : 8 + (mL N + 11) + mLc N ≤ mLc M) (hel : (entL (.ref b :: As)).length ≤ mL N) (hS : S0 = As.reverse ++ .ref b :: st) (hE : PP N 0 (ent N (.ref b :: As)) [] I Q1) (hp : pc + 3 = q) (kk : ∀ v, PP M q L (v.toList ++ st) (Q1 v) Q) : PP M pc L S0 I Q := fun G hG => by
  subst hp
  subst hS
  obtain ⟨v, G1, e1, hq1⟩ := hE G hG
  obtain ⟨v', G', e, hq⟩ := kk v G1 hq1
  exact ⟨v', G', ex_callI _ _ _ _ _ _ _ _ _ _ _ _ hd hl hn hcat hfr hlc hel e1 e, hq⟩
theorem pp_iret {v : Int32} {ty : FieldType} (hd : decode (mC M) pc = .ok (.ireturn, 1)) (hr : mR M = some ty) (hn : narrow ty (.int v) = .int v) (k : ∀ G, I G → Q (some (.int v)) G) : PP M pc L [.int v] I Q := fun G hG => ⟨_, G, ex_iret _ _ _ _ _ _ hd hr hn, k G hG⟩
theorem pp_lret {v : Int64} (hd : decode (mC M) pc = .ok (.lreturn, 1)) (hr : mR M = some .long) (k : ∀ G, I G → Q (some (.long v)) G) : PP M pc L [.long v] I Q := fun G hG => ⟨_, G, ex_lret _ _ _ _ _ hd hr, k G hG⟩
theorem pp_aret {v : Value} {rt : FieldType} (hd : decode (mC M) pc = .ok (.areturn, 1)) (hr : mR M = some rt) (hrt : (∃ n, rt = .object n) ∨ ∃ t, rt = .array t) (hx : isRf v) (k : ∀ G, I G → Q (some v) G) : PP M pc L [v] I Q := fun G hG => ⟨_, G, ex_aret _ _ _ _ _ _ hd hr hrt hx, k G hG⟩
theorem pp_vret (hd : decode (mC M) pc = .ok (.return_, 1)) (hr : mR M = none) (k : ∀ G, I G → Q none G) : PP M pc L [] I Q := fun G hG => ⟨_, G, ex_vret _ _ _ _ hd hr, k G hG⟩
end PPR
def nl (x : Option Value) : Prop := ∀ w, x = some w → w.category = 1
theorem nl0 : nl none := fun _ h => by cases h
theorem nl1 {v : Value} (h : v.category = 1) : nl (some v) := fun _ e => by cases e; exact h
theorem ls1_0 {x : Option Value} {r : PLoc} {v : Value} : LS1 (x :: r) 0 v (some v :: r) := fun j w hj => match j, hj with
  | 0, hj => Or.inl ⟨rfl, by simpa using hj.symm⟩
  | j + 1, hj => Or.inr ⟨hj, by omega, fun ⟨h1, _⟩ => by omega⟩
theorem ls1_1 {a0 x : Option Value} {r : PLoc} {v : Value} (h : nl a0) : LS1 (a0 :: x :: r) 1 v (a0 :: some v :: r) := fun j w hj => match j, hj with
  | 0, hj => Or.inr ⟨hj, by decide, fun ⟨_, hc⟩ => by have := h w (by simpa using hj); omega⟩
  | 1, hj => Or.inl ⟨rfl, by simpa using hj.symm⟩
  | j + 2, hj => Or.inr ⟨hj, by omega, fun ⟨h1, _⟩ => by omega⟩
theorem ls1_2 {a0 a1 x : Option Value} {r : PLoc} {v : Value} (h : nl a1) : LS1 (a0 :: a1 :: x :: r) 2 v (a0 :: a1 :: some v :: r) := fun j w hj => match j, hj with
  | 0, hj => Or.inr ⟨hj, by decide, fun ⟨h1, _⟩ => absurd h1 (by decide)⟩
  | 1, hj => Or.inr ⟨hj, by decide, fun ⟨_, hc⟩ => by have := h w (by simpa using hj); omega⟩
  | 2, hj => Or.inl ⟨rfl, by simpa using hj.symm⟩
  | j + 3, hj => Or.inr ⟨hj, by omega, fun ⟨h1, _⟩ => by omega⟩
theorem ls1_3 {a0 a1 a2 x : Option Value} {r : PLoc} {v : Value} (h : nl a2) : LS1 (a0 :: a1 :: a2 :: x :: r) 3 v (a0 :: a1 :: a2 :: some v :: r) := fun j w hj => match j, hj with
  | 0, hj => Or.inr ⟨hj, by decide, fun ⟨h1, _⟩ => absurd h1 (by decide)⟩
  | 1, hj => Or.inr ⟨hj, by decide, fun ⟨h1, _⟩ => absurd h1 (by decide)⟩
  | 2, hj => Or.inr ⟨hj, by decide, fun ⟨_, hc⟩ => by have := h w (by simpa using hj); omega⟩
  | 3, hj => Or.inl ⟨rfl, by simpa using hj.symm⟩
  | j + 4, hj => Or.inr ⟨hj, by omega, fun ⟨h1, _⟩ => by omega⟩
theorem ls1_4 {a0 a1 a2 a3 x : Option Value} {r : PLoc} {v : Value} (h : nl a3) : LS1 (a0 :: a1 :: a2 :: a3 :: x :: r) 4 v (a0 :: a1 :: a2 :: a3 :: some v :: r) := fun j w hj => match j, hj with
  | 0, hj => Or.inr ⟨hj, by decide, fun ⟨h1, _⟩ => absurd h1 (by decide)⟩
  | 1, hj => Or.inr ⟨hj, by decide, fun ⟨h1, _⟩ => absurd h1 (by decide)⟩
  | 2, hj => Or.inr ⟨hj, by decide, fun ⟨h1, _⟩ => absurd h1 (by decide)⟩
  | 3, hj => Or.inr ⟨hj, by decide, fun ⟨_, hc⟩ => by have := h w (by simpa using hj); omega⟩
  | 4, hj => Or.inl ⟨rfl, by simpa using hj.symm⟩
  | j + 5, hj => Or.inr ⟨hj, by omega, fun ⟨h1, _⟩ => by omega⟩
theorem ls1_5 {a0 a1 a2 a3 a4 x : Option Value} {r : PLoc} {v : Value} (h : nl a4) : LS1 (a0 :: a1 :: a2 :: a3 :: a4 :: x :: r) 5 v (a0 :: a1 :: a2 :: a3 :: a4 :: some v :: r) := fun j w hj => match j, hj with
  | 0, hj => Or.inr ⟨hj, by decide, fun ⟨h1, _⟩ => absurd h1 (by decide)⟩
  | 1, hj => Or.inr ⟨hj, by decide, fun ⟨h1, _⟩ => absurd h1 (by decide)⟩
  | 2, hj => Or.inr ⟨hj, by decide, fun ⟨h1, _⟩ => absurd h1 (by decide)⟩
  | 3, hj => Or.inr ⟨hj, by decide, fun ⟨h1, _⟩ => absurd h1 (by decide)⟩
  | 4, hj => Or.inr ⟨hj, by decide, fun ⟨_, hc⟩ => by have := h w (by simpa using hj); omega⟩
  | 5, hj => Or.inl ⟨rfl, by simpa using hj.symm⟩
  | j + 6, hj => Or.inr ⟨hj, by omega, fun ⟨h1, _⟩ => by omega⟩
theorem ls1_6 {a0 a1 a2 a3 a4 a5 x : Option Value} {r : PLoc} {v : Value} (h : nl a5) : LS1 (a0 :: a1 :: a2 :: a3 :: a4 :: a5 :: x :: r) 6 v (a0 :: a1 :: a2 :: a3 :: a4 :: a5 :: some v :: r) := fun j w hj => match j, hj with
  | 0, hj => Or.inr ⟨hj, by decide, fun ⟨h1, _⟩ => absurd h1 (by decide)⟩
  | 1, hj => Or.inr ⟨hj, by decide, fun ⟨h1, _⟩ => absurd h1 (by decide)⟩
  | 2, hj => Or.inr ⟨hj, by decide, fun ⟨h1, _⟩ => absurd h1 (by decide)⟩
  | 3, hj => Or.inr ⟨hj, by decide, fun ⟨h1, _⟩ => absurd h1 (by decide)⟩
  | 4, hj => Or.inr ⟨hj, by decide, fun ⟨h1, _⟩ => absurd h1 (by decide)⟩
  | 5, hj => Or.inr ⟨hj, by decide, fun ⟨_, hc⟩ => by have := h w (by simpa using hj); omega⟩
  | 6, hj => Or.inl ⟨rfl, by simpa using hj.symm⟩
  | j + 7, hj => Or.inr ⟨hj, by omega, fun ⟨h1, _⟩ => by omega⟩
theorem ls1_7 {a0 a1 a2 a3 a4 a5 a6 x : Option Value} {r : PLoc} {v : Value} (h : nl a6) : LS1 (a0 :: a1 :: a2 :: a3 :: a4 :: a5 :: a6 :: x :: r) 7 v (a0 :: a1 :: a2 :: a3 :: a4 :: a5 :: a6 :: some v :: r) := fun j w hj => match j, hj with
  | 0, hj => Or.inr ⟨hj, by decide, fun ⟨h1, _⟩ => absurd h1 (by decide)⟩
  | 1, hj => Or.inr ⟨hj, by decide, fun ⟨h1, _⟩ => absurd h1 (by decide)⟩
  | 2, hj => Or.inr ⟨hj, by decide, fun ⟨h1, _⟩ => absurd h1 (by decide)⟩
  | 3, hj => Or.inr ⟨hj, by decide, fun ⟨h1, _⟩ => absurd h1 (by decide)⟩
  | 4, hj => Or.inr ⟨hj, by decide, fun ⟨h1, _⟩ => absurd h1 (by decide)⟩
  | 5, hj => Or.inr ⟨hj, by decide, fun ⟨h1, _⟩ => absurd h1 (by decide)⟩
  | 6, hj => Or.inr ⟨hj, by decide, fun ⟨_, hc⟩ => by have := h w (by simpa using hj); omega⟩
  | 7, hj => Or.inl ⟨rfl, by simpa using hj.symm⟩
  | j + 8, hj => Or.inr ⟨hj, by omega, fun ⟨h1, _⟩ => by omega⟩
theorem ls1_8 {a0 a1 a2 a3 a4 a5 a6 a7 x : Option Value} {r : PLoc} {v : Value} (h : nl a7) : LS1 (a0 :: a1 :: a2 :: a3 :: a4 :: a5 :: a6 :: a7 :: x :: r) 8 v (a0 :: a1 :: a2 :: a3 :: a4 :: a5 :: a6 :: a7 :: some v :: r) := fun j w hj => match j, hj with
  | 0, hj => Or.inr ⟨hj, by decide, fun ⟨h1, _⟩ => absurd h1 (by decide)⟩
  | 1, hj => Or.inr ⟨hj, by decide, fun ⟨h1, _⟩ => absurd h1 (by decide)⟩
  | 2, hj => Or.inr ⟨hj, by decide, fun ⟨h1, _⟩ => absurd h1 (by decide)⟩
  | 3, hj => Or.inr ⟨hj, by decide, fun ⟨h1, _⟩ => absurd h1 (by decide)⟩
  | 4, hj => Or.inr ⟨hj, by decide, fun ⟨h1, _⟩ => absurd h1 (by decide)⟩
  | 5, hj => Or.inr ⟨hj, by decide, fun ⟨h1, _⟩ => absurd h1 (by decide)⟩
  | 6, hj => Or.inr ⟨hj, by decide, fun ⟨h1, _⟩ => absurd h1 (by decide)⟩
  | 7, hj => Or.inr ⟨hj, by decide, fun ⟨_, hc⟩ => by have := h w (by simpa using hj); omega⟩
  | 8, hj => Or.inl ⟨rfl, by simpa using hj.symm⟩
  | j + 9, hj => Or.inr ⟨hj, by omega, fun ⟨h1, _⟩ => by omega⟩
theorem ls1_9 {a0 a1 a2 a3 a4 a5 a6 a7 a8 x : Option Value} {r : PLoc} {v : Value} (h : nl a8) : LS1 (a0 :: a1 :: a2 :: a3 :: a4 :: a5 :: a6 :: a7 :: a8 :: x :: r) 9 v (a0 :: a1 :: a2 :: a3 :: a4 :: a5 :: a6 :: a7 :: a8 :: some v :: r) := fun j w hj => match j, hj with
  | 0, hj => Or.inr ⟨hj, by decide, fun ⟨h1, _⟩ => absurd h1 (by decide)⟩
  | 1, hj => Or.inr ⟨hj, by decide, fun ⟨h1, _⟩ => absurd h1 (by decide)⟩
  | 2, hj => Or.inr ⟨hj, by decide, fun ⟨h1, _⟩ => absurd h1 (by decide)⟩
  | 3, hj => Or.inr ⟨hj, by decide, fun ⟨h1, _⟩ => absurd h1 (by decide)⟩
  | 4, hj => Or.inr ⟨hj, by decide, fun ⟨h1, _⟩ => absurd h1 (by decide)⟩
  | 5, hj => Or.inr ⟨hj, by decide, fun ⟨h1, _⟩ => absurd h1 (by decide)⟩
  | 6, hj => Or.inr ⟨hj, by decide, fun ⟨h1, _⟩ => absurd h1 (by decide)⟩
  | 7, hj => Or.inr ⟨hj, by decide, fun ⟨h1, _⟩ => absurd h1 (by decide)⟩
  | 8, hj => Or.inr ⟨hj, by decide, fun ⟨_, hc⟩ => by have := h w (by simpa using hj); omega⟩
  | 9, hj => Or.inl ⟨rfl, by simpa using hj.symm⟩
  | j + 10, hj => Or.inr ⟨hj, by omega, fun ⟨h1, _⟩ => by omega⟩
theorem ls1_10 {a0 a1 a2 a3 a4 a5 a6 a7 a8 a9 x : Option Value} {r : PLoc} {v : Value} (h : nl a9) : LS1 (a0 :: a1 :: a2 :: a3 :: a4 :: a5 :: a6 :: a7 :: a8 :: a9 :: x :: r) 10 v (a0 :: a1 :: a2 :: a3 :: a4 :: a5 :: a6 :: a7 :: a8 :: a9 :: some v :: r) := fun j w hj => match j, hj with
  | 0, hj => Or.inr ⟨hj, by decide, fun ⟨h1, _⟩ => absurd h1 (by decide)⟩
  | 1, hj => Or.inr ⟨hj, by decide, fun ⟨h1, _⟩ => absurd h1 (by decide)⟩
  | 2, hj => Or.inr ⟨hj, by decide, fun ⟨h1, _⟩ => absurd h1 (by decide)⟩
  | 3, hj => Or.inr ⟨hj, by decide, fun ⟨h1, _⟩ => absurd h1 (by decide)⟩
  | 4, hj => Or.inr ⟨hj, by decide, fun ⟨h1, _⟩ => absurd h1 (by decide)⟩
  | 5, hj => Or.inr ⟨hj, by decide, fun ⟨h1, _⟩ => absurd h1 (by decide)⟩
  | 6, hj => Or.inr ⟨hj, by decide, fun ⟨h1, _⟩ => absurd h1 (by decide)⟩
  | 7, hj => Or.inr ⟨hj, by decide, fun ⟨h1, _⟩ => absurd h1 (by decide)⟩
  | 8, hj => Or.inr ⟨hj, by decide, fun ⟨h1, _⟩ => absurd h1 (by decide)⟩
  | 9, hj => Or.inr ⟨hj, by decide, fun ⟨_, hc⟩ => by have := h w (by simpa using hj); omega⟩
  | 10, hj => Or.inl ⟨rfl, by simpa using hj.symm⟩
  | j + 11, hj => Or.inr ⟨hj, by omega, fun ⟨h1, _⟩ => by omega⟩
theorem ls1_11 {a0 a1 a2 a3 a4 a5 a6 a7 a8 a9 a10 x : Option Value} {r : PLoc} {v : Value} (h : nl a10) : LS1 (a0 :: a1 :: a2 :: a3 :: a4 :: a5 :: a6 :: a7 :: a8 :: a9 :: a10 :: x :: r) 11 v (a0 :: a1 :: a2 :: a3 :: a4 :: a5 :: a6 :: a7 :: a8 :: a9 :: a10 :: some v :: r) := fun j w hj => match j, hj with
  | 0, hj => Or.inr ⟨hj, by decide, fun ⟨h1, _⟩ => absurd h1 (by decide)⟩
  | 1, hj => Or.inr ⟨hj, by decide, fun ⟨h1, _⟩ => absurd h1 (by decide)⟩
  | 2, hj => Or.inr ⟨hj, by decide, fun ⟨h1, _⟩ => absurd h1 (by decide)⟩
  | 3, hj => Or.inr ⟨hj, by decide, fun ⟨h1, _⟩ => absurd h1 (by decide)⟩
  | 4, hj => Or.inr ⟨hj, by decide, fun ⟨h1, _⟩ => absurd h1 (by decide)⟩
  | 5, hj => Or.inr ⟨hj, by decide, fun ⟨h1, _⟩ => absurd h1 (by decide)⟩
  | 6, hj => Or.inr ⟨hj, by decide, fun ⟨h1, _⟩ => absurd h1 (by decide)⟩
  | 7, hj => Or.inr ⟨hj, by decide, fun ⟨h1, _⟩ => absurd h1 (by decide)⟩
  | 8, hj => Or.inr ⟨hj, by decide, fun ⟨h1, _⟩ => absurd h1 (by decide)⟩
  | 9, hj => Or.inr ⟨hj, by decide, fun ⟨h1, _⟩ => absurd h1 (by decide)⟩
  | 10, hj => Or.inr ⟨hj, by decide, fun ⟨_, hc⟩ => by have := h w (by simpa using hj); omega⟩
  | 11, hj => Or.inl ⟨rfl, by simpa using hj.symm⟩
  | j + 12, hj => Or.inr ⟨hj, by omega, fun ⟨h1, _⟩ => by omega⟩
theorem ls1_12 {a0 a1 a2 a3 a4 a5 a6 a7 a8 a9 a10 a11 x : Option Value} {r : PLoc} {v : Value} (h : nl a11) : LS1 (a0 :: a1 :: a2 :: a3 :: a4 :: a5 :: a6 :: a7 :: a8 :: a9 :: a10 :: a11 :: x :: r) 12 v (a0 :: a1 :: a2 :: a3 :: a4 :: a5 :: a6 :: a7 :: a8 :: a9 :: a10 :: a11 :: some v :: r) := fun j w hj => match j, hj with
  | 0, hj => Or.inr ⟨hj, by decide, fun ⟨h1, _⟩ => absurd h1 (by decide)⟩
  | 1, hj => Or.inr ⟨hj, by decide, fun ⟨h1, _⟩ => absurd h1 (by decide)⟩
  | 2, hj => Or.inr ⟨hj, by decide, fun ⟨h1, _⟩ => absurd h1 (by decide)⟩
  | 3, hj => Or.inr ⟨hj, by decide, fun ⟨h1, _⟩ => absurd h1 (by decide)⟩
  | 4, hj => Or.inr ⟨hj, by decide, fun ⟨h1, _⟩ => absurd h1 (by decide)⟩
  | 5, hj => Or.inr ⟨hj, by decide, fun ⟨h1, _⟩ => absurd h1 (by decide)⟩
  | 6, hj => Or.inr ⟨hj, by decide, fun ⟨h1, _⟩ => absurd h1 (by decide)⟩
  | 7, hj => Or.inr ⟨hj, by decide, fun ⟨h1, _⟩ => absurd h1 (by decide)⟩
  | 8, hj => Or.inr ⟨hj, by decide, fun ⟨h1, _⟩ => absurd h1 (by decide)⟩
  | 9, hj => Or.inr ⟨hj, by decide, fun ⟨h1, _⟩ => absurd h1 (by decide)⟩
  | 10, hj => Or.inr ⟨hj, by decide, fun ⟨h1, _⟩ => absurd h1 (by decide)⟩
  | 11, hj => Or.inr ⟨hj, by decide, fun ⟨_, hc⟩ => by have := h w (by simpa using hj); omega⟩
  | 12, hj => Or.inl ⟨rfl, by simpa using hj.symm⟩
  | j + 13, hj => Or.inr ⟨hj, by omega, fun ⟨h1, _⟩ => by omega⟩
theorem ls2_0 {x y : Option Value} {r : PLoc} {v : Value} : LS2 (x :: y :: r) 0 v (some v :: none :: r) := fun j w hj => match j, hj with
  | 0, hj => Or.inl ⟨rfl, by simpa using hj.symm⟩
  | 1, hj => by simp at hj
  | j + 2, hj => Or.inr ⟨hj, by omega, by omega, fun ⟨h1, _⟩ => by omega⟩
theorem ls2_1 {a0 x y : Option Value} {r : PLoc} {v : Value} (h : nl a0) : LS2 (a0 :: x :: y :: r) 1 v (a0 :: some v :: none :: r) := fun j w hj => match j, hj with
  | 0, hj => Or.inr ⟨hj, by decide, by decide, fun ⟨_, hc⟩ => by have := h w (by simpa using hj); omega⟩
  | 1, hj => Or.inl ⟨rfl, by simpa using hj.symm⟩
  | 2, hj => by simp at hj
  | j + 3, hj => Or.inr ⟨hj, by omega, by omega, fun ⟨h1, _⟩ => by omega⟩
theorem ls2_2 {a0 a1 x y : Option Value} {r : PLoc} {v : Value} (h : nl a1) : LS2 (a0 :: a1 :: x :: y :: r) 2 v (a0 :: a1 :: some v :: none :: r) := fun j w hj => match j, hj with
  | 0, hj => Or.inr ⟨hj, by decide, by decide, fun ⟨h1, _⟩ => absurd h1 (by decide)⟩
  | 1, hj => Or.inr ⟨hj, by decide, by decide, fun ⟨_, hc⟩ => by have := h w (by simpa using hj); omega⟩
  | 2, hj => Or.inl ⟨rfl, by simpa using hj.symm⟩
  | 3, hj => by simp at hj
  | j + 4, hj => Or.inr ⟨hj, by omega, by omega, fun ⟨h1, _⟩ => by omega⟩
theorem ls2_3 {a0 a1 a2 x y : Option Value} {r : PLoc} {v : Value} (h : nl a2) : LS2 (a0 :: a1 :: a2 :: x :: y :: r) 3 v (a0 :: a1 :: a2 :: some v :: none :: r) := fun j w hj => match j, hj with
  | 0, hj => Or.inr ⟨hj, by decide, by decide, fun ⟨h1, _⟩ => absurd h1 (by decide)⟩
  | 1, hj => Or.inr ⟨hj, by decide, by decide, fun ⟨h1, _⟩ => absurd h1 (by decide)⟩
  | 2, hj => Or.inr ⟨hj, by decide, by decide, fun ⟨_, hc⟩ => by have := h w (by simpa using hj); omega⟩
  | 3, hj => Or.inl ⟨rfl, by simpa using hj.symm⟩
  | 4, hj => by simp at hj
  | j + 5, hj => Or.inr ⟨hj, by omega, by omega, fun ⟨h1, _⟩ => by omega⟩
theorem ls2_4 {a0 a1 a2 a3 x y : Option Value} {r : PLoc} {v : Value} (h : nl a3) : LS2 (a0 :: a1 :: a2 :: a3 :: x :: y :: r) 4 v (a0 :: a1 :: a2 :: a3 :: some v :: none :: r) := fun j w hj => match j, hj with
  | 0, hj => Or.inr ⟨hj, by decide, by decide, fun ⟨h1, _⟩ => absurd h1 (by decide)⟩
  | 1, hj => Or.inr ⟨hj, by decide, by decide, fun ⟨h1, _⟩ => absurd h1 (by decide)⟩
  | 2, hj => Or.inr ⟨hj, by decide, by decide, fun ⟨h1, _⟩ => absurd h1 (by decide)⟩
  | 3, hj => Or.inr ⟨hj, by decide, by decide, fun ⟨_, hc⟩ => by have := h w (by simpa using hj); omega⟩
  | 4, hj => Or.inl ⟨rfl, by simpa using hj.symm⟩
  | 5, hj => by simp at hj
  | j + 6, hj => Or.inr ⟨hj, by omega, by omega, fun ⟨h1, _⟩ => by omega⟩
theorem ls2_5 {a0 a1 a2 a3 a4 x y : Option Value} {r : PLoc} {v : Value} (h : nl a4) : LS2 (a0 :: a1 :: a2 :: a3 :: a4 :: x :: y :: r) 5 v (a0 :: a1 :: a2 :: a3 :: a4 :: some v :: none :: r) := fun j w hj => match j, hj with
  | 0, hj => Or.inr ⟨hj, by decide, by decide, fun ⟨h1, _⟩ => absurd h1 (by decide)⟩
  | 1, hj => Or.inr ⟨hj, by decide, by decide, fun ⟨h1, _⟩ => absurd h1 (by decide)⟩
  | 2, hj => Or.inr ⟨hj, by decide, by decide, fun ⟨h1, _⟩ => absurd h1 (by decide)⟩
  | 3, hj => Or.inr ⟨hj, by decide, by decide, fun ⟨h1, _⟩ => absurd h1 (by decide)⟩
  | 4, hj => Or.inr ⟨hj, by decide, by decide, fun ⟨_, hc⟩ => by have := h w (by simpa using hj); omega⟩
  | 5, hj => Or.inl ⟨rfl, by simpa using hj.symm⟩
  | 6, hj => by simp at hj
  | j + 7, hj => Or.inr ⟨hj, by omega, by omega, fun ⟨h1, _⟩ => by omega⟩
theorem ls2_6 {a0 a1 a2 a3 a4 a5 x y : Option Value} {r : PLoc} {v : Value} (h : nl a5) : LS2 (a0 :: a1 :: a2 :: a3 :: a4 :: a5 :: x :: y :: r) 6 v (a0 :: a1 :: a2 :: a3 :: a4 :: a5 :: some v :: none :: r) := fun j w hj => match j, hj with
  | 0, hj => Or.inr ⟨hj, by decide, by decide, fun ⟨h1, _⟩ => absurd h1 (by decide)⟩
  | 1, hj => Or.inr ⟨hj, by decide, by decide, fun ⟨h1, _⟩ => absurd h1 (by decide)⟩
  | 2, hj => Or.inr ⟨hj, by decide, by decide, fun ⟨h1, _⟩ => absurd h1 (by decide)⟩
  | 3, hj => Or.inr ⟨hj, by decide, by decide, fun ⟨h1, _⟩ => absurd h1 (by decide)⟩
  | 4, hj => Or.inr ⟨hj, by decide, by decide, fun ⟨h1, _⟩ => absurd h1 (by decide)⟩
  | 5, hj => Or.inr ⟨hj, by decide, by decide, fun ⟨_, hc⟩ => by have := h w (by simpa using hj); omega⟩
  | 6, hj => Or.inl ⟨rfl, by simpa using hj.symm⟩
  | 7, hj => by simp at hj
  | j + 8, hj => Or.inr ⟨hj, by omega, by omega, fun ⟨h1, _⟩ => by omega⟩
theorem ls2_7 {a0 a1 a2 a3 a4 a5 a6 x y : Option Value} {r : PLoc} {v : Value} (h : nl a6) : LS2 (a0 :: a1 :: a2 :: a3 :: a4 :: a5 :: a6 :: x :: y :: r) 7 v (a0 :: a1 :: a2 :: a3 :: a4 :: a5 :: a6 :: some v :: none :: r) := fun j w hj => match j, hj with
  | 0, hj => Or.inr ⟨hj, by decide, by decide, fun ⟨h1, _⟩ => absurd h1 (by decide)⟩
  | 1, hj => Or.inr ⟨hj, by decide, by decide, fun ⟨h1, _⟩ => absurd h1 (by decide)⟩
  | 2, hj => Or.inr ⟨hj, by decide, by decide, fun ⟨h1, _⟩ => absurd h1 (by decide)⟩
  | 3, hj => Or.inr ⟨hj, by decide, by decide, fun ⟨h1, _⟩ => absurd h1 (by decide)⟩
  | 4, hj => Or.inr ⟨hj, by decide, by decide, fun ⟨h1, _⟩ => absurd h1 (by decide)⟩
  | 5, hj => Or.inr ⟨hj, by decide, by decide, fun ⟨h1, _⟩ => absurd h1 (by decide)⟩
  | 6, hj => Or.inr ⟨hj, by decide, by decide, fun ⟨_, hc⟩ => by have := h w (by simpa using hj); omega⟩
  | 7, hj => Or.inl ⟨rfl, by simpa using hj.symm⟩
  | 8, hj => by simp at hj
  | j + 9, hj => Or.inr ⟨hj, by omega, by omega, fun ⟨h1, _⟩ => by omega⟩
